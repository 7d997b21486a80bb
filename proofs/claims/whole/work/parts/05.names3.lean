theorem dX3_bestPush_62 : decode cX3_bestPush 62 = .ok (.istore 4, 2) := by decide +kernel
theorem dX3_bestPush_64 : decode cX3_bestPush 64 = .ok (.iload 4, 2) := by decide +kernel
theorem dX3_bestPush_66 : decode cX3_bestPush 66 = .ok (.iload_n 2, 1) := by decide +kernel
theorem dX3_bestPush_67 : decode cX3_bestPush 67 = .ok (.if_icmp .ge 8, 3) := by decide +kernel
theorem dX3_bestPush_70 : decode cX3_bestPush 70 = .ok (.iload 4, 2) := by decide +kernel
theorem dX3_bestPush_72 : decode cX3_bestPush 72 = .ok (.istore_n 2, 1) := by decide +kernel
theorem dX3_bestPush_73 : decode cX3_bestPush 73 = .ok (.iload_n 3, 1) := by decide +kernel
theorem dX3_bestPush_74 : decode cX3_bestPush 74 = .ok (.istore_n 1, 1) := by decide +kernel
theorem dX3_bestPush_75 : decode cX3_bestPush 75 = .ok (.iinc 3 1, 3) := by decide +kernel
theorem dX3_bestPush_78 : decode cX3_bestPush 78 = .ok (.goto (-70), 3) := by decide +kernel
theorem dX3_bestPush_81 : decode cX3_bestPush 81 = .ok (.iload_n 1, 1) := by decide +kernel
theorem dX3_bestPush_82 : decode cX3_bestPush 82 = .ok (.ireturn, 1) := by decide +kernel
set_option maxRecDepth 20000 in
theorem ggX3_bottlesIn_X3_requireMinutes : GoodIn wsX3_bottlesIn wsX3_requireMinutes := goodIn_ca (goodIn_r _ [7, 8, 9] (by decide +kernel) (by decide +kernel)) (goodIn_sub (fun _ h => List.mem_cons_of_mem _ (List.mem_append_right _ h)) (by decide +kernel))
set_option maxRecDepth 20000 in
theorem gX3_bottlesIn_X3_requireMinutes : GoodIn wsX3_bottlesIn (va_wsS RX3 95 yX3_requireMinutes wsX3_requireMinutes) := goodIn_app (goodIn_of _ (by decide +kernel)) ggX3_bottlesIn_X3_requireMinutes
set_option maxRecDepth 20000 in
theorem ggX3_bottlesIn_X2_copyFrom : GoodIn wsX3_bottlesIn wsX2_copyFrom := goodIn_r _ [14, 15, 16, 17, 18, 19, 20, 21, 22, 23, 24, 25, 26, 27, 28, 29, 30, 31, 32, 33, 34, 35, 36, 37, 38, 39, 40, 41, 42, 92, 93, 94, 95, 96, 97, 98, 99, 100, 101, 102, 103, 104, 105, 106, 107, 108, 109] (by decide +kernel) (by decide +kernel)
set_option maxRecDepth 20000 in
theorem gX3_bottlesIn_X2_copyFrom : GoodIn wsX3_bottlesIn (wsV RX3 158 RX2 yX2_copyFrom wsX2_copyFrom) := goodIn_app (goodIn_of _ (by decide +kernel)) ggX3_bottlesIn_X2_copyFrom
set_option maxRecDepth 20000 in
theorem ggX3_bottlesIn_X2_letMinutesGo : GoodIn wsX3_bottlesIn wsX2_letMinutesGo := goodIn_r _ [46, 47, 48, 49, 13, 50, 20, 15, 18, 17, 22, 19, 21, 16, 23, 51, 52, 53, 27, 54, 29, 31, 30, 55, 6, 56, 57, 58, 59, 60, 61, 62, 63, 64, 65, 66, 67, 35, 68, 37, 42, 41, 69, 70, 71, 72, 73, 74, 75, 76, 77, 78, 79, 40, 38, 39, 80, 81, 82, 83, 84, 85, 86, 87, 88, 89, 92, 93, 94, 95, 96, 97, 98, 99, 100, 101, 102, 103, 104, 105, 106, 107, 108, 109] (by decide +kernel) (by decide +kernel)
set_option maxRecDepth 20000 in
theorem gX3_bottlesIn_X2_letMinutesGo : GoodIn wsX3_bottlesIn (wsV RX3 102 RX2 yX2_letMinutesGo wsX2_letMinutesGo) := goodIn_app (goodIn_of _ (by decide +kernel)) ggX3_bottlesIn_X2_letMinutesGo
theorem dX3_bottlesIn_0 : decode cX3_bottlesIn 0 = .ok (.iload_n 1, 1) := by decide +kernel
theorem dX3_bottlesIn_1 : decode cX3_bottlesIn 1 = .ok (.invokestatic 95, 3) := by decide +kernel
theorem dX3_bottlesIn_4 : decode cX3_bottlesIn 4 = .ok (.aload_n 0, 1) := by decide +kernel
theorem dX3_bottlesIn_5 : decode cX3_bottlesIn 5 = .ok (.getfield 16, 3) := by decide +kernel
theorem dX3_bottlesIn_8 : decode cX3_bottlesIn 8 = .ok (.aload_n 0, 1) := by decide +kernel
theorem dX3_bottlesIn_9 : decode cX3_bottlesIn 9 = .ok (.getfield 12, 3) := by decide +kernel
theorem dX3_bottlesIn_12 : decode cX3_bottlesIn 12 = .ok (.invokevirtual 158, 3) := by decide +kernel
theorem dX3_bottlesIn_15 : decode cX3_bottlesIn 15 = .ok (.aload_n 0, 1) := by decide +kernel
theorem dX3_bottlesIn_16 : decode cX3_bottlesIn 16 = .ok (.getfield 16, 3) := by decide +kernel
theorem dX3_bottlesIn_19 : decode cX3_bottlesIn 19 = .ok (.iload_n 1, 1) := by decide +kernel
theorem dX3_bottlesIn_20 : decode cX3_bottlesIn 20 = .ok (.invokevirtual 102, 3) := by decide +kernel
theorem dX3_bottlesIn_23 : decode cX3_bottlesIn 23 = .ok (.aload_n 0, 1) := by decide +kernel
theorem dX3_bottlesIn_24 : decode cX3_bottlesIn 24 = .ok (.getfield 16, 3) := by decide +kernel
theorem dX3_bottlesIn_27 : decode cX3_bottlesIn 27 = .ok (.getfield 137, 3) := by decide +kernel
theorem dX3_bottlesIn_30 : decode cX3_bottlesIn 30 = .ok (.ireturn, 1) := by decide +kernel
set_option maxRecDepth 20000 in
theorem ggX3_meanPatience_X1_countPresent : GoodIn wsX3_meanPatience wsX1_countPresent := goodIn_r _ [7, 8, 9, 26, 27, 28, 29, 30, 31] (by decide +kernel) (by decide +kernel)
set_option maxRecDepth 20000 in
theorem gX3_meanPatience_X1_countPresent : GoodIn wsX3_meanPatience (wsV RX3 98 RX1 yX1_countPresent wsX1_countPresent) := goodIn_app (goodIn_of _ (by decide +kernel)) ggX3_meanPatience_X1_countPresent
set_option maxRecDepth 20000 in
theorem ggX3_meanPatience_X1_patienceInAll : GoodIn wsX3_meanPatience wsX1_patienceInAll := goodIn_r _ [13, 8, 9, 14, 26, 27, 28, 29, 30, 31] (by decide +kernel) (by decide +kernel)
set_option maxRecDepth 20000 in
theorem gX3_meanPatience_X1_patienceInAll : GoodIn wsX3_meanPatience (wsV RX3 165 RX1 yX1_patienceInAll wsX1_patienceInAll) := goodIn_app (goodIn_of _ (by decide +kernel)) ggX3_meanPatience_X1_patienceInAll
theorem dX3_meanPatience_0 : decode cX3_meanPatience 0 = .ok (.aload_n 0, 1) := by decide +kernel
theorem dX3_meanPatience_1 : decode cX3_meanPatience 1 = .ok (.getfield 12, 3) := by decide +kernel
theorem dX3_meanPatience_4 : decode cX3_meanPatience 4 = .ok (.getfield 81, 3) := by decide +kernel
theorem dX3_meanPatience_7 : decode cX3_meanPatience 7 = .ok (.invokevirtual 98, 3) := by decide +kernel
theorem dX3_meanPatience_10 : decode cX3_meanPatience 10 = .ok (.istore_n 1, 1) := by decide +kernel
theorem dX3_meanPatience_11 : decode cX3_meanPatience 11 = .ok (.iload_n 1, 1) := by decide +kernel
theorem dX3_meanPatience_12 : decode cX3_meanPatience 12 = .ok (.ifCond .ne 5, 3) := by decide +kernel
theorem dX3_meanPatience_15 : decode cX3_meanPatience 15 = .ok (.dconst 0, 1) := by decide +kernel
theorem dX3_meanPatience_16 : decode cX3_meanPatience 16 = .ok (.dreturn, 1) := by decide +kernel
theorem dX3_meanPatience_17 : decode cX3_meanPatience 17 = .ok (.aload_n 0, 1) := by decide +kernel
theorem dX3_meanPatience_18 : decode cX3_meanPatience 18 = .ok (.getfield 12, 3) := by decide +kernel
theorem dX3_meanPatience_21 : decode cX3_meanPatience 21 = .ok (.getfield 81, 3) := by decide +kernel
theorem dX3_meanPatience_24 : decode cX3_meanPatience 24 = .ok (.invokevirtual 165, 3) := by decide +kernel
theorem dX3_meanPatience_27 : decode cX3_meanPatience 27 = .ok (.i2d, 1) := by decide +kernel
theorem dX3_meanPatience_28 : decode cX3_meanPatience 28 = .ok (.iload_n 1, 1) := by decide +kernel
theorem dX3_meanPatience_29 : decode cX3_meanPatience 29 = .ok (.i2d, 1) := by decide +kernel
theorem dX3_meanPatience_30 : decode cX3_meanPatience 30 = .ok (.ddiv, 1) := by decide +kernel
theorem dX3_meanPatience_31 : decode cX3_meanPatience 31 = .ok (.dreturn, 1) := by decide +kernel
set_option maxRecDepth 20000 in
theorem ggX3_digest_X3_minute : GoodIn wsX3_digest wsX3_minute := goodIn_r _ [6, 7, 8, 185, 186, 187, 188, 189, 190, 191, 192, 193, 194, 195] (by decide +kernel) (by decide +kernel)
set_option maxRecDepth 20000 in
theorem gX3_digest_X3_minute : GoodIn wsX3_digest (wsV RX3 170 RX3 yX3_minute wsX3_minute) := goodIn_app (goodIn_of _ (by decide +kernel)) ggX3_digest_X3_minute
set_option maxRecDepth 20000 in
theorem ggX3_digest_X3_mixed : GoodIn wsX3_digest wsX3_mixed := goodIn_r _ [11, 12] (by decide +kernel) (by decide +kernel)
set_option maxRecDepth 20000 in
theorem gX3_digest_X3_mixed : GoodIn wsX3_digest (va_wsS RX3 172 yX3_mixed wsX3_mixed) := goodIn_app (goodIn_of _ (by decide +kernel)) ggX3_digest_X3_mixed
set_option maxRecDepth 20000 in
theorem ggX3_digest_X3_topics : GoodIn wsX3_digest wsX3_topics := goodIn_r _ [16, 7, 17, 18, 185, 186, 187, 188, 189, 190, 191, 192, 193, 194, 195, 196, 197, 198] (by decide +kernel) (by decide +kernel)
set_option maxRecDepth 20000 in
theorem gX3_digest_X3_topics : GoodIn wsX3_digest (wsV RX3 176 RX3 yX3_topics wsX3_topics) := goodIn_app (goodIn_of _ (by decide +kernel)) ggX3_digest_X3_topics
set_option maxRecDepth 20000 in
theorem ggX3_digest_X3_noise : GoodIn wsX3_digest wsX3_noise := goodIn_r _ [22, 7, 17, 23, 24, 25, 26, 27, 28, 29, 185, 186, 187, 188, 189, 190, 191, 192, 193, 194, 195, 196, 197, 198] (by decide +kernel) (by decide +kernel)
set_option maxRecDepth 20000 in
theorem gX3_digest_X3_noise : GoodIn wsX3_digest (wsV RX3 179 RX3 yX3_noise wsX3_noise) := goodIn_app (goodIn_of _ (by decide +kernel)) ggX3_digest_X3_noise
set_option maxRecDepth 20000 in
theorem ggX3_digest_X3_nods : GoodIn wsX3_digest wsX3_nods := goodIn_r _ [33, 7, 34, 185, 186, 187, 188, 189, 190, 191, 192, 193, 194, 195] (by decide +kernel) (by decide +kernel)
set_option maxRecDepth 20000 in
theorem gX3_digest_X3_nods : GoodIn wsX3_digest (wsV RX3 182 RX3 yX3_nods wsX3_nods) := goodIn_app (goodIn_of _ (by decide +kernel)) ggX3_digest_X3_nods
set_option maxRecDepth 20000 in
theorem ggX3_digest_X3_bottles : GoodIn wsX3_digest wsX3_bottles := goodIn_r _ [38, 7, 39, 185, 186, 187, 188, 189, 190, 191, 192, 193, 194, 195] (by decide +kernel) (by decide +kernel)
set_option maxRecDepth 20000 in
theorem gX3_digest_X3_bottles : GoodIn wsX3_digest (wsV RX3 184 RX3 yX3_bottles wsX3_bottles) := goodIn_app (goodIn_of _ (by decide +kernel)) ggX3_digest_X3_bottles
set_option maxRecDepth 20000 in
theorem ggX3_digest_X3_sieved : GoodIn wsX3_digest wsX3_sieved := goodIn_r _ [43, 7, 44, 185, 186, 187, 188, 189, 190, 191, 192, 193, 194, 195] (by decide +kernel) (by decide +kernel)
set_option maxRecDepth 20000 in
theorem gX3_digest_X3_sieved : GoodIn wsX3_digest (wsV RX3 186 RX3 yX3_sieved wsX3_sieved) := goodIn_app (goodIn_of _ (by decide +kernel)) ggX3_digest_X3_sieved
set_option maxRecDepth 20000 in
theorem ggX3_digest_X3_gear : GoodIn wsX3_digest wsX3_gear := goodIn_r _ [48, 7, 49, 185, 186, 187, 188, 189, 190, 191, 192, 193, 194, 195] (by decide +kernel) (by decide +kernel)
set_option maxRecDepth 20000 in
theorem gX3_digest_X3_gear : GoodIn wsX3_digest (wsV RX3 188 RX3 yX3_gear wsX3_gear) := goodIn_app (goodIn_of _ (by decide +kernel)) ggX3_digest_X3_gear
set_option maxRecDepth 20000 in
theorem ggX3_digest_X3_stones : GoodIn wsX3_digest wsX3_stones := goodIn_r _ [53, 7, 54, 185, 186, 187, 188, 189, 190, 191, 192, 193, 194, 195] (by decide +kernel) (by decide +kernel)
set_option maxRecDepth 20000 in
theorem gX3_digest_X3_stones : GoodIn wsX3_digest (wsV RX3 190 RX3 yX3_stones wsX3_stones) := goodIn_app (goodIn_of _ (by decide +kernel)) ggX3_digest_X3_stones
set_option maxRecDepth 20000 in
theorem ggX3_digest_X3_mesh : GoodIn wsX3_digest wsX3_mesh := goodIn_r _ [58, 7, 59, 185, 186, 187, 188, 189, 190, 191, 192, 193, 194, 195] (by decide +kernel) (by decide +kernel)
set_option maxRecDepth 20000 in
theorem gX3_digest_X3_mesh : GoodIn wsX3_digest (wsV RX3 192 RX3 yX3_mesh wsX3_mesh) := goodIn_app (goodIn_of _ (by decide +kernel)) ggX3_digest_X3_mesh
set_option maxRecDepth 20000 in
theorem ggX3_digest_X3_talkers : GoodIn wsX3_digest wsX3_talkers := goodIn_r _ [63, 7, 64, 65, 185, 186, 187, 188, 189, 190, 191, 192, 193, 194, 195, 199, 200, 201, 202, 203, 204] (by decide +kernel) (by decide +kernel)
set_option maxRecDepth 20000 in
theorem gX3_digest_X3_talkers : GoodIn wsX3_digest (wsV RX3 194 RX3 yX3_talkers wsX3_talkers) := goodIn_app (goodIn_of _ (by decide +kernel)) ggX3_digest_X3_talkers
set_option maxRecDepth 20000 in
theorem ggX3_digest_X3_present : GoodIn wsX3_digest wsX3_present := goodIn_r _ [69, 7, 64, 70, 71, 72, 73, 74, 75, 76, 185, 186, 187, 188, 189, 190, 191, 192, 193, 194, 195, 199, 200, 201, 202, 203, 204] (by decide +kernel) (by decide +kernel)
set_option maxRecDepth 20000 in
theorem gX3_digest_X3_present : GoodIn wsX3_digest (wsV RX3 197 RX3 yX3_present wsX3_present) := goodIn_app (goodIn_of _ (by decide +kernel)) ggX3_digest_X3_present
set_option maxRecDepth 20000 in
theorem ggX3_digest_X3_bestGear : GoodIn wsX3_digest wsX3_bestGear := goodIn_r _ [80, 81, 7, 49, 17, 82, 83, 84, 85, 86, 87, 88, 89, 90, 91, 92, 93, 94, 95, 96, 97, 98, 26, 99, 28, 100, 29, 101, 102, 103, 73, 104, 75, 105, 106, 107, 108, 76, 109, 110, 111, 112, 113, 114, 115, 116, 117, 118, 119, 120, 121, 5, 122, 123, 124, 125, 126, 127, 24, 25, 27, 128, 129, 130, 131, 132, 133, 134, 135, 136, 137, 138, 139, 140, 141, 142, 143, 144, 145, 146, 147, 148, 149, 150, 151, 152, 23, 185, 186, 187, 188, 189, 190, 191, 192, 193, 194, 195, 196, 197, 198, 199, 200, 201, 202, 203, 204] (by decide +kernel) (by decide +kernel)
set_option maxRecDepth 20000 in
theorem gX3_digest_X3_bestGear : GoodIn wsX3_digest (wsV RX3 200 RX3 yX3_bestGear wsX3_bestGear) := goodIn_app (goodIn_of _ (by decide +kernel)) ggX3_digest_X3_bestGear
set_option maxRecDepth 20000 in
theorem ggX3_digest_X3_bestPush : GoodIn wsX3_digest wsX3_bestPush := goodIn_r _ [156, 7, 17, 18, 81, 82, 83, 84, 85, 86, 87, 88, 89, 90, 91, 92, 93, 94, 95, 96, 97, 98, 26, 99, 28, 100, 29, 101, 102, 103, 73, 104, 75, 105, 106, 107, 108, 76, 157, 158, 159, 160, 161, 162, 163, 164, 109, 110, 111, 112, 113, 114, 115, 116, 117, 118, 119, 120, 121, 5, 122, 123, 124, 125, 126, 127, 24, 25, 27, 128, 129, 130, 131, 132, 133, 134, 135, 136, 137, 138, 139, 140, 141, 142, 143, 144, 145, 146, 147, 148, 149, 150, 151, 152, 23, 185, 186, 187, 188, 189, 190, 191, 192, 193, 194, 195, 196, 197, 198, 199, 200, 201, 202, 203, 204] (by decide +kernel) (by decide +kernel)
set_option maxRecDepth 20000 in
theorem gX3_digest_X3_bestPush : GoodIn wsX3_digest (wsV RX3 203 RX3 yX3_bestPush wsX3_bestPush) := goodIn_app (goodIn_of _ (by decide +kernel)) ggX3_digest_X3_bestPush
set_option maxRecDepth 20000 in
theorem ggX3_digest_X3_withTopics : GoodIn wsX3_digest wsX3_withTopics := goodIn_r _ [168, 7, 17, 18, 169, 170, 9, 10, 5, 11, 12, 185, 186, 187, 188, 189, 190, 191, 192, 193, 194, 195, 196, 197, 198] (by decide +kernel) (by decide +kernel)
set_option maxRecDepth 20000 in
theorem gX3_digest_X3_withTopics : GoodIn wsX3_digest (wsV RX3 206 RX3 yX3_withTopics wsX3_withTopics) := goodIn_app (goodIn_of _ (by decide +kernel)) ggX3_digest_X3_withTopics
set_option maxRecDepth 20000 in
theorem ggX3_digest_X3_withTalkers : GoodIn wsX3_digest wsX3_withTalkers := goodIn_r _ [174, 7, 64, 65, 175, 176, 177, 178, 179, 73, 180, 76, 181, 182, 183, 184, 75, 9, 10, 5, 11, 12, 185, 186, 187, 188, 189, 190, 191, 192, 193, 194, 195, 199, 200, 201, 202, 203, 204] (by decide +kernel) (by decide +kernel)
set_option maxRecDepth 20000 in
theorem gX3_digest_X3_withTalkers : GoodIn wsX3_digest (wsV RX3 210 RX3 yX3_withTalkers wsX3_withTalkers) := goodIn_app (goodIn_of _ (by decide +kernel)) ggX3_digest_X3_withTalkers
theorem dX3_digest_0 : decode cX3_digest 0 = .ok (.ldc2_w 168, 3) := by decide +kernel
theorem dX3_digest_3 : decode cX3_digest 3 = .ok (.lstore_n 1, 1) := by decide +kernel
theorem dX3_digest_4 : decode cX3_digest 4 = .ok (.lload_n 1, 1) := by decide +kernel
theorem dX3_digest_5 : decode cX3_digest 5 = .ok (.aload_n 0, 1) := by decide +kernel
theorem dX3_digest_6 : decode cX3_digest 6 = .ok (.invokevirtual 170, 3) := by decide +kernel
theorem dX3_digest_9 : decode cX3_digest 9 = .ok (.i2l, 1) := by decide +kernel
theorem dX3_digest_10 : decode cX3_digest 10 = .ok (.invokestatic 172, 3) := by decide +kernel
theorem dX3_digest_13 : decode cX3_digest 13 = .ok (.lstore_n 1, 1) := by decide +kernel
theorem dX3_digest_14 : decode cX3_digest 14 = .ok (.lload_n 1, 1) := by decide +kernel
theorem dX3_digest_15 : decode cX3_digest 15 = .ok (.aload_n 0, 1) := by decide +kernel
theorem dX3_digest_16 : decode cX3_digest 16 = .ok (.invokevirtual 176, 3) := by decide +kernel
theorem dX3_digest_19 : decode cX3_digest 19 = .ok (.i2l, 1) := by decide +kernel
theorem dX3_digest_20 : decode cX3_digest 20 = .ok (.invokestatic 172, 3) := by decide +kernel
theorem dX3_digest_23 : decode cX3_digest 23 = .ok (.lstore_n 1, 1) := by decide +kernel
theorem dX3_digest_24 : decode cX3_digest 24 = .ok (.lload_n 1, 1) := by decide +kernel
theorem dX3_digest_25 : decode cX3_digest 25 = .ok (.aload_n 0, 1) := by decide +kernel
theorem dX3_digest_26 : decode cX3_digest 26 = .ok (.invokevirtual 179, 3) := by decide +kernel
theorem dX3_digest_29 : decode cX3_digest 29 = .ok (.i2l, 1) := by decide +kernel
theorem dX3_digest_30 : decode cX3_digest 30 = .ok (.invokestatic 172, 3) := by decide +kernel
theorem dX3_digest_33 : decode cX3_digest 33 = .ok (.lstore_n 1, 1) := by decide +kernel
theorem dX3_digest_34 : decode cX3_digest 34 = .ok (.lload_n 1, 1) := by decide +kernel
theorem dX3_digest_35 : decode cX3_digest 35 = .ok (.aload_n 0, 1) := by decide +kernel
theorem dX3_digest_36 : decode cX3_digest 36 = .ok (.invokevirtual 182, 3) := by decide +kernel
theorem dX3_digest_39 : decode cX3_digest 39 = .ok (.i2l, 1) := by decide +kernel
theorem dX3_digest_40 : decode cX3_digest 40 = .ok (.invokestatic 172, 3) := by decide +kernel
theorem dX3_digest_43 : decode cX3_digest 43 = .ok (.lstore_n 1, 1) := by decide +kernel
theorem dX3_digest_44 : decode cX3_digest 44 = .ok (.lload_n 1, 1) := by decide +kernel
theorem dX3_digest_45 : decode cX3_digest 45 = .ok (.aload_n 0, 1) := by decide +kernel
theorem dX3_digest_46 : decode cX3_digest 46 = .ok (.invokevirtual 184, 3) := by decide +kernel
theorem dX3_digest_49 : decode cX3_digest 49 = .ok (.i2l, 1) := by decide +kernel
theorem dX3_digest_50 : decode cX3_digest 50 = .ok (.invokestatic 172, 3) := by decide +kernel
theorem dX3_digest_53 : decode cX3_digest 53 = .ok (.lstore_n 1, 1) := by decide +kernel
theorem dX3_digest_54 : decode cX3_digest 54 = .ok (.lload_n 1, 1) := by decide +kernel
theorem dX3_digest_55 : decode cX3_digest 55 = .ok (.aload_n 0, 1) := by decide +kernel
theorem dX3_digest_56 : decode cX3_digest 56 = .ok (.invokevirtual 186, 3) := by decide +kernel
theorem dX3_digest_59 : decode cX3_digest 59 = .ok (.i2l, 1) := by decide +kernel
theorem dX3_digest_60 : decode cX3_digest 60 = .ok (.invokestatic 172, 3) := by decide +kernel
theorem dX3_digest_63 : decode cX3_digest 63 = .ok (.lstore_n 1, 1) := by decide +kernel
theorem dX3_digest_64 : decode cX3_digest 64 = .ok (.lload_n 1, 1) := by decide +kernel
theorem dX3_digest_65 : decode cX3_digest 65 = .ok (.aload_n 0, 1) := by decide +kernel
theorem dX3_digest_66 : decode cX3_digest 66 = .ok (.invokevirtual 188, 3) := by decide +kernel
theorem dX3_digest_69 : decode cX3_digest 69 = .ok (.i2l, 1) := by decide +kernel
theorem dX3_digest_70 : decode cX3_digest 70 = .ok (.invokestatic 172, 3) := by decide +kernel
theorem dX3_digest_73 : decode cX3_digest 73 = .ok (.lstore_n 1, 1) := by decide +kernel
theorem dX3_digest_74 : decode cX3_digest 74 = .ok (.lload_n 1, 1) := by decide +kernel
theorem dX3_digest_75 : decode cX3_digest 75 = .ok (.aload_n 0, 1) := by decide +kernel
theorem dX3_digest_76 : decode cX3_digest 76 = .ok (.invokevirtual 190, 3) := by decide +kernel
theorem dX3_digest_79 : decode cX3_digest 79 = .ok (.i2l, 1) := by decide +kernel
theorem dX3_digest_80 : decode cX3_digest 80 = .ok (.invokestatic 172, 3) := by decide +kernel
theorem dX3_digest_83 : decode cX3_digest 83 = .ok (.lstore_n 1, 1) := by decide +kernel
theorem dX3_digest_84 : decode cX3_digest 84 = .ok (.lload_n 1, 1) := by decide +kernel
theorem dX3_digest_85 : decode cX3_digest 85 = .ok (.aload_n 0, 1) := by decide +kernel
theorem dX3_digest_86 : decode cX3_digest 86 = .ok (.invokevirtual 192, 3) := by decide +kernel
theorem dX3_digest_89 : decode cX3_digest 89 = .ok (.i2l, 1) := by decide +kernel
theorem dX3_digest_90 : decode cX3_digest 90 = .ok (.invokestatic 172, 3) := by decide +kernel
theorem dX3_digest_93 : decode cX3_digest 93 = .ok (.lstore_n 1, 1) := by decide +kernel
theorem dX3_digest_94 : decode cX3_digest 94 = .ok (.lload_n 1, 1) := by decide +kernel
theorem dX3_digest_95 : decode cX3_digest 95 = .ok (.aload_n 0, 1) := by decide +kernel
theorem dX3_digest_96 : decode cX3_digest 96 = .ok (.invokevirtual 194, 3) := by decide +kernel
theorem dX3_digest_99 : decode cX3_digest 99 = .ok (.i2l, 1) := by decide +kernel
theorem dX3_digest_100 : decode cX3_digest 100 = .ok (.invokestatic 172, 3) := by decide +kernel
theorem dX3_digest_103 : decode cX3_digest 103 = .ok (.lstore_n 1, 1) := by decide +kernel
theorem dX3_digest_104 : decode cX3_digest 104 = .ok (.lload_n 1, 1) := by decide +kernel
theorem dX3_digest_105 : decode cX3_digest 105 = .ok (.aload_n 0, 1) := by decide +kernel
theorem dX3_digest_106 : decode cX3_digest 106 = .ok (.invokevirtual 197, 3) := by decide +kernel
theorem dX3_digest_109 : decode cX3_digest 109 = .ok (.i2l, 1) := by decide +kernel
theorem dX3_digest_110 : decode cX3_digest 110 = .ok (.invokestatic 172, 3) := by decide +kernel
theorem dX3_digest_113 : decode cX3_digest 113 = .ok (.lstore_n 1, 1) := by decide +kernel
theorem dX3_digest_114 : decode cX3_digest 114 = .ok (.lload_n 1, 1) := by decide +kernel
theorem dX3_digest_115 : decode cX3_digest 115 = .ok (.aload_n 0, 1) := by decide +kernel
theorem dX3_digest_116 : decode cX3_digest 116 = .ok (.invokevirtual 200, 3) := by decide +kernel
theorem dX3_digest_119 : decode cX3_digest 119 = .ok (.i2l, 1) := by decide +kernel
theorem dX3_digest_120 : decode cX3_digest 120 = .ok (.invokestatic 172, 3) := by decide +kernel
theorem dX3_digest_123 : decode cX3_digest 123 = .ok (.lstore_n 1, 1) := by decide +kernel
theorem dX3_digest_124 : decode cX3_digest 124 = .ok (.lload_n 1, 1) := by decide +kernel
theorem dX3_digest_125 : decode cX3_digest 125 = .ok (.aload_n 0, 1) := by decide +kernel
theorem dX3_digest_126 : decode cX3_digest 126 = .ok (.invokevirtual 203, 3) := by decide +kernel
theorem dX3_digest_129 : decode cX3_digest 129 = .ok (.i2l, 1) := by decide +kernel
theorem dX3_digest_130 : decode cX3_digest 130 = .ok (.invokestatic 172, 3) := by decide +kernel
theorem dX3_digest_133 : decode cX3_digest 133 = .ok (.lstore_n 1, 1) := by decide +kernel
theorem dX3_digest_134 : decode cX3_digest 134 = .ok (.aload_n 0, 1) := by decide +kernel
theorem dX3_digest_135 : decode cX3_digest 135 = .ok (.aload_n 0, 1) := by decide +kernel
theorem dX3_digest_136 : decode cX3_digest 136 = .ok (.lload_n 1, 1) := by decide +kernel
theorem dX3_digest_137 : decode cX3_digest 137 = .ok (.invokevirtual 206, 3) := by decide +kernel
theorem dX3_digest_140 : decode cX3_digest 140 = .ok (.invokevirtual 210, 3) := by decide +kernel
theorem dX3_digest_143 : decode cX3_digest 143 = .ok (.lreturn, 1) := by decide +kernel
set_option maxRecDepth 20000 in
theorem ggX3_withTopics_X3_mixed : GoodIn wsX3_withTopics wsX3_mixed := goodIn_r _ [9, 10] (by decide +kernel) (by decide +kernel)
set_option maxRecDepth 20000 in
theorem gX3_withTopics_X3_mixed : GoodIn wsX3_withTopics (va_wsS RX3 172 yX3_mixed wsX3_mixed) := goodIn_app (goodIn_of _ (by decide +kernel)) ggX3_withTopics_X3_mixed
theorem dX3_withTopics_0 : decode cX3_withTopics 0 = .ok (.lload_n 1, 1) := by decide +kernel
theorem dX3_withTopics_1 : decode cX3_withTopics 1 = .ok (.lstore_n 3, 1) := by decide +kernel
theorem dX3_withTopics_2 : decode cX3_withTopics 2 = .ok (.iconst 0, 1) := by decide +kernel
theorem dX3_withTopics_3 : decode cX3_withTopics 3 = .ok (.istore 5, 2) := by decide +kernel
theorem dX3_withTopics_5 : decode cX3_withTopics 5 = .ok (.iload 5, 2) := by decide +kernel
theorem dX3_withTopics_7 : decode cX3_withTopics 7 = .ok (.aload_n 0, 1) := by decide +kernel
theorem dX3_withTopics_8 : decode cX3_withTopics 8 = .ok (.getfield 12, 3) := by decide +kernel
theorem dX3_withTopics_11 : decode cX3_withTopics 11 = .ok (.getfield 23, 3) := by decide +kernel
theorem dX3_withTopics_14 : decode cX3_withTopics 14 = .ok (.getfield 40, 3) := by decide +kernel
theorem dX3_withTopics_17 : decode cX3_withTopics 17 = .ok (.if_icmp .ge 47, 3) := by decide +kernel
theorem dX3_withTopics_20 : decode cX3_withTopics 20 = .ok (.lload_n 3, 1) := by decide +kernel
theorem dX3_withTopics_21 : decode cX3_withTopics 21 = .ok (.aload_n 0, 1) := by decide +kernel
theorem dX3_withTopics_22 : decode cX3_withTopics 22 = .ok (.getfield 12, 3) := by decide +kernel
theorem dX3_withTopics_25 : decode cX3_withTopics 25 = .ok (.getfield 23, 3) := by decide +kernel
theorem dX3_withTopics_28 : decode cX3_withTopics 28 = .ok (.getfield 51, 3) := by decide +kernel
theorem dX3_withTopics_31 : decode cX3_withTopics 31 = .ok (.iload 5, 2) := by decide +kernel
theorem dX3_withTopics_33 : decode cX3_withTopics 33 = .ok (.iaload, 1) := by decide +kernel
theorem dX3_withTopics_34 : decode cX3_withTopics 34 = .ok (.i2l, 1) := by decide +kernel
theorem dX3_withTopics_35 : decode cX3_withTopics 35 = .ok (.invokestatic 172, 3) := by decide +kernel
theorem dX3_withTopics_38 : decode cX3_withTopics 38 = .ok (.lstore_n 3, 1) := by decide +kernel
theorem dX3_withTopics_39 : decode cX3_withTopics 39 = .ok (.lload_n 3, 1) := by decide +kernel
theorem dX3_withTopics_40 : decode cX3_withTopics 40 = .ok (.aload_n 0, 1) := by decide +kernel
theorem dX3_withTopics_41 : decode cX3_withTopics 41 = .ok (.getfield 12, 3) := by decide +kernel
theorem dX3_withTopics_44 : decode cX3_withTopics 44 = .ok (.getfield 23, 3) := by decide +kernel
theorem dX3_withTopics_47 : decode cX3_withTopics 47 = .ok (.getfield 108, 3) := by decide +kernel
theorem dX3_withTopics_50 : decode cX3_withTopics 50 = .ok (.iload 5, 2) := by decide +kernel
theorem dX3_withTopics_52 : decode cX3_withTopics 52 = .ok (.iaload, 1) := by decide +kernel
theorem dX3_withTopics_53 : decode cX3_withTopics 53 = .ok (.i2l, 1) := by decide +kernel
theorem dX3_withTopics_54 : decode cX3_withTopics 54 = .ok (.invokestatic 172, 3) := by decide +kernel
theorem dX3_withTopics_57 : decode cX3_withTopics 57 = .ok (.lstore_n 3, 1) := by decide +kernel
theorem dX3_withTopics_58 : decode cX3_withTopics 58 = .ok (.iinc 5 1, 3) := by decide +kernel
theorem dX3_withTopics_61 : decode cX3_withTopics 61 = .ok (.goto (-56), 3) := by decide +kernel
theorem dX3_withTopics_64 : decode cX3_withTopics 64 = .ok (.lload_n 3, 1) := by decide +kernel
theorem dX3_withTopics_65 : decode cX3_withTopics 65 = .ok (.lreturn, 1) := by decide +kernel
set_option maxRecDepth 20000 in
theorem ggX3_withTalkers_X1_isThere : GoodIn wsX3_withTalkers wsX1_isThere := goodIn_r _ [10, 11, 12, 13, 14, 9, 15, 16, 33, 34, 35, 36, 37, 38] (by decide +kernel) (by decide +kernel)
set_option maxRecDepth 20000 in
theorem gX3_withTalkers_X1_isThere : GoodIn wsX3_withTalkers (wsV RX3 146 RX1 yX1_isThere wsX1_isThere) := goodIn_app (goodIn_of _ (by decide +kernel)) ggX3_withTalkers_X1_isThere
set_option maxRecDepth 20000 in
theorem ggX3_withTalkers_X3_mixed : GoodIn wsX3_withTalkers wsX3_mixed := goodIn_r _ [20, 21] (by decide +kernel) (by decide +kernel)
set_option maxRecDepth 20000 in
theorem gX3_withTalkers_X3_mixed : GoodIn wsX3_withTalkers (va_wsS RX3 172 yX3_mixed wsX3_mixed) := goodIn_app (goodIn_of _ (by decide +kernel)) ggX3_withTalkers_X3_mixed
theorem dX3_withTalkers_0 : decode cX3_withTalkers 0 = .ok (.lload_n 1, 1) := by decide +kernel
theorem dX3_withTalkers_1 : decode cX3_withTalkers 1 = .ok (.lstore_n 3, 1) := by decide +kernel
theorem dX3_withTalkers_2 : decode cX3_withTalkers 2 = .ok (.iconst 0, 1) := by decide +kernel
theorem dX3_withTalkers_3 : decode cX3_withTalkers 3 = .ok (.istore 5, 2) := by decide +kernel
theorem dX3_withTalkers_5 : decode cX3_withTalkers 5 = .ok (.iload 5, 2) := by decide +kernel
theorem dX3_withTalkers_7 : decode cX3_withTalkers 7 = .ok (.aload_n 0, 1) := by decide +kernel
theorem dX3_withTalkers_8 : decode cX3_withTalkers 8 = .ok (.getfield 12, 3) := by decide +kernel
theorem dX3_withTalkers_11 : decode cX3_withTalkers 11 = .ok (.getfield 81, 3) := by decide +kernel
theorem dX3_withTalkers_14 : decode cX3_withTalkers 14 = .ok (.getfield 90, 3) := by decide +kernel
theorem dX3_withTalkers_17 : decode cX3_withTalkers 17 = .ok (.if_icmp .ge 72, 3) := by decide +kernel
theorem dX3_withTalkers_20 : decode cX3_withTalkers 20 = .ok (.lload_n 3, 1) := by decide +kernel
theorem dX3_withTalkers_21 : decode cX3_withTalkers 21 = .ok (.aload_n 0, 1) := by decide +kernel
theorem dX3_withTalkers_22 : decode cX3_withTalkers 22 = .ok (.getfield 12, 3) := by decide +kernel
theorem dX3_withTalkers_25 : decode cX3_withTalkers 25 = .ok (.getfield 81, 3) := by decide +kernel
theorem dX3_withTalkers_28 : decode cX3_withTalkers 28 = .ok (.iload 5, 2) := by decide +kernel
theorem dX3_withTalkers_30 : decode cX3_withTalkers 30 = .ok (.invokevirtual 146, 3) := by decide +kernel
theorem dX3_withTalkers_33 : decode cX3_withTalkers 33 = .ok (.ifCond .eq 7, 3) := by decide +kernel
theorem dX3_withTalkers_36 : decode cX3_withTalkers 36 = .ok (.lconst 1, 1) := by decide +kernel
theorem dX3_withTalkers_37 : decode cX3_withTalkers 37 = .ok (.goto 4, 3) := by decide +kernel
theorem dX3_withTalkers_40 : decode cX3_withTalkers 40 = .ok (.lconst 0, 1) := by decide +kernel
theorem dX3_withTalkers_41 : decode cX3_withTalkers 41 = .ok (.invokestatic 172, 3) := by decide +kernel
theorem dX3_withTalkers_44 : decode cX3_withTalkers 44 = .ok (.lstore_n 3, 1) := by decide +kernel
theorem dX3_withTalkers_45 : decode cX3_withTalkers 45 = .ok (.lload_n 3, 1) := by decide +kernel
theorem dX3_withTalkers_46 : decode cX3_withTalkers 46 = .ok (.aload_n 0, 1) := by decide +kernel
theorem dX3_withTalkers_47 : decode cX3_withTalkers 47 = .ok (.getfield 12, 3) := by decide +kernel
theorem dX3_withTalkers_50 : decode cX3_withTalkers 50 = .ok (.getfield 81, 3) := by decide +kernel
theorem dX3_withTalkers_53 : decode cX3_withTalkers 53 = .ok (.getfield 149, 3) := by decide +kernel
theorem dX3_withTalkers_56 : decode cX3_withTalkers 56 = .ok (.iload 5, 2) := by decide +kernel
theorem dX3_withTalkers_58 : decode cX3_withTalkers 58 = .ok (.iaload, 1) := by decide +kernel
theorem dX3_withTalkers_59 : decode cX3_withTalkers 59 = .ok (.i2l, 1) := by decide +kernel
theorem dX3_withTalkers_60 : decode cX3_withTalkers 60 = .ok (.invokestatic 172, 3) := by decide +kernel
theorem dX3_withTalkers_63 : decode cX3_withTalkers 63 = .ok (.lstore_n 3, 1) := by decide +kernel
theorem dX3_withTalkers_64 : decode cX3_withTalkers 64 = .ok (.lload_n 3, 1) := by decide +kernel
theorem dX3_withTalkers_65 : decode cX3_withTalkers 65 = .ok (.aload_n 0, 1) := by decide +kernel
theorem dX3_withTalkers_66 : decode cX3_withTalkers 66 = .ok (.getfield 12, 3) := by decide +kernel
theorem dX3_withTalkers_69 : decode cX3_withTalkers 69 = .ok (.getfield 81, 3) := by decide +kernel
theorem dX3_withTalkers_72 : decode cX3_withTalkers 72 = .ok (.getfield 152, 3) := by decide +kernel
theorem dX3_withTalkers_75 : decode cX3_withTalkers 75 = .ok (.iload 5, 2) := by decide +kernel
theorem dX3_withTalkers_77 : decode cX3_withTalkers 77 = .ok (.iaload, 1) := by decide +kernel
theorem dX3_withTalkers_78 : decode cX3_withTalkers 78 = .ok (.i2l, 1) := by decide +kernel
theorem dX3_withTalkers_79 : decode cX3_withTalkers 79 = .ok (.invokestatic 172, 3) := by decide +kernel
theorem dX3_withTalkers_82 : decode cX3_withTalkers 82 = .ok (.lstore_n 3, 1) := by decide +kernel
theorem dX3_withTalkers_83 : decode cX3_withTalkers 83 = .ok (.iinc 5 1, 3) := by decide +kernel
theorem dX3_withTalkers_86 : decode cX3_withTalkers 86 = .ok (.goto (-81), 3) := by decide +kernel
theorem dX3_withTalkers_89 : decode cX3_withTalkers 89 = .ok (.lload_n 3, 1) := by decide +kernel
theorem dX3_withTalkers_90 : decode cX3_withTalkers 90 = .ok (.lreturn, 1) := by decide +kernel
theorem dX3_mixed_0 : decode cX3_mixed 0 = .ok (.lload_n 0, 1) := by decide +kernel
theorem dX3_mixed_1 : decode cX3_mixed 1 = .ok (.ldc2_w 213, 3) := by decide +kernel
theorem dX3_mixed_4 : decode cX3_mixed 4 = .ok (.lmul, 1) := by decide +kernel
theorem dX3_mixed_5 : decode cX3_mixed 5 = .ok (.lload_n 2, 1) := by decide +kernel
theorem dX3_mixed_6 : decode cX3_mixed 6 = .ok (.ladd, 1) := by decide +kernel
theorem dX3_mixed_7 : decode cX3_mixed 7 = .ok (.lreturn, 1) := by decide +kernel
theorem dX3_ground_0 : decode cX3_ground 0 = .ok (.iload_n 1, 1) := by decide +kernel
theorem dX3_ground_1 : decode cX3_ground 1 = .ok (.iconst 2, 1) := by decide +kernel
theorem dX3_ground_2 : decode cX3_ground 2 = .ok (.if_icmp .ge 7, 3) := by decide +kernel
theorem dX3_ground_5 : decode cX3_ground 5 = .ok (.iload_n 0, 1) := by decide +kernel
theorem dX3_ground_6 : decode cX3_ground 6 = .ok (.goto 6, 3) := by decide +kernel
theorem dX3_ground_9 : decode cX3_ground 9 = .ok (.iload_n 0, 1) := by decide +kernel
theorem dX3_ground_10 : decode cX3_ground 10 = .ok (.iload_n 1, 1) := by decide +kernel
theorem dX3_ground_11 : decode cX3_ground 11 = .ok (.idiv, 1) := by decide +kernel
theorem dX3_ground_12 : decode cX3_ground 12 = .ok (.ireturn, 1) := by decide +kernel
theorem dX3_divides_0 : decode cX3_divides 0 = .ok (.iload_n 0, 1) := by decide +kernel
theorem dX3_divides_1 : decode cX3_divides 1 = .ok (.ifCond .eq 13, 3) := by decide +kernel
theorem dX3_divides_4 : decode cX3_divides 4 = .ok (.iload_n 1, 1) := by decide +kernel
theorem dX3_divides_5 : decode cX3_divides 5 = .ok (.iload_n 0, 1) := by decide +kernel
theorem dX3_divides_6 : decode cX3_divides 6 = .ok (.irem, 1) := by decide +kernel
theorem dX3_divides_7 : decode cX3_divides 7 = .ok (.ifCond .ne 7, 3) := by decide +kernel
theorem dX3_divides_10 : decode cX3_divides 10 = .ok (.iconst 1, 1) := by decide +kernel
theorem dX3_divides_11 : decode cX3_divides 11 = .ok (.goto 4, 3) := by decide +kernel
theorem dX3_divides_14 : decode cX3_divides 14 = .ok (.iconst 0, 1) := by decide +kernel
theorem dX3_divides_15 : decode cX3_divides 15 = .ok (.ireturn, 1) := by decide +kernel
theorem dX3_isKind_0 : decode cX3_isKind 0 = .ok (.iload_n 0, 1) := by decide +kernel
theorem dX3_isKind_1 : decode cX3_isKind 1 = .ok (.ifCond .lt 12, 3) := by decide +kernel
theorem dX3_isKind_4 : decode cX3_isKind 4 = .ok (.iload_n 0, 1) := by decide +kernel
theorem dX3_isKind_5 : decode cX3_isKind 5 = .ok (.iconst 5, 1) := by decide +kernel
theorem dX3_isKind_6 : decode cX3_isKind 6 = .ok (.if_icmp .ge 7, 3) := by decide +kernel
theorem dX3_isKind_9 : decode cX3_isKind 9 = .ok (.iconst 1, 1) := by decide +kernel
theorem dX3_isKind_10 : decode cX3_isKind 10 = .ok (.goto 4, 3) := by decide +kernel
theorem dX3_isKind_13 : decode cX3_isKind 13 = .ok (.iconst 0, 1) := by decide +kernel
theorem dX3_isKind_14 : decode cX3_isKind 14 = .ok (.ireturn, 1) := by decide +kernel
set_option maxRecDepth 20000 in
theorem ggX3_requireTopic_X3_isKind : GoodIn wsX3_requireTopic wsX3_isKind := goodIn_r _ [6] (by decide +kernel) (by decide +kernel)
set_option maxRecDepth 20000 in
theorem gX3_requireTopic_X3_isKind : GoodIn wsX3_requireTopic (va_wsS RX3 117 yX3_isKind wsX3_isKind) := goodIn_app (goodIn_of _ (by decide +kernel)) ggX3_requireTopic_X3_isKind
theorem dX3_requireTopic_0 : decode cX3_requireTopic 0 = .ok (.iload_n 0, 1) := by decide +kernel
theorem dX3_requireTopic_1 : decode cX3_requireTopic 1 = .ok (.invokestatic 117, 3) := by decide +kernel
theorem dX3_requireTopic_4 : decode cX3_requireTopic 4 = .ok (.ifCond .ne 13, 3) := by decide +kernel
theorem dX3_requireTopic_7 : decode cX3_requireTopic 7 = .ok (.new 61, 3) := by decide +kernel
theorem dX3_requireTopic_10 : decode cX3_requireTopic 10 = .ok (.dup, 1) := by decide +kernel
theorem dX3_requireTopic_11 : decode cX3_requireTopic 11 = .ok (.ldc 123, 2) := by decide +kernel
theorem dX3_requireTopic_13 : decode cX3_requireTopic 13 = .ok (.invokespecial 65, 3) := by decide +kernel
theorem dX3_requireTopic_16 : decode cX3_requireTopic 16 = .ok (.athrow, 1) := by decide +kernel
theorem dX3_requireTopic_17 : decode cX3_requireTopic 17 = .ok (.iload_n 1, 1) := by decide +kernel
theorem dX3_requireTopic_18 : decode cX3_requireTopic 18 = .ok (.iconst 2, 1) := by decide +kernel
theorem dX3_requireTopic_19 : decode cX3_requireTopic 19 = .ok (.if_icmp .lt 9, 3) := by decide +kernel
theorem dX3_requireTopic_22 : decode cX3_requireTopic 22 = .ok (.iload_n 1, 1) := by decide +kernel
theorem dX3_requireTopic_23 : decode cX3_requireTopic 23 = .ok (.bipush 99, 2) := by decide +kernel
theorem dX3_requireTopic_25 : decode cX3_requireTopic 25 = .ok (.if_icmp .le 13, 3) := by decide +kernel
theorem dX3_requireTopic_28 : decode cX3_requireTopic 28 = .ok (.new 61, 3) := by decide +kernel
theorem dX3_requireTopic_31 : decode cX3_requireTopic 31 = .ok (.dup, 1) := by decide +kernel
theorem dX3_requireTopic_32 : decode cX3_requireTopic 32 = .ok (.ldc 215, 2) := by decide +kernel
theorem dX3_requireTopic_34 : decode cX3_requireTopic 34 = .ok (.invokespecial 65, 3) := by decide +kernel
theorem dX3_requireTopic_37 : decode cX3_requireTopic 37 = .ok (.athrow, 1) := by decide +kernel
theorem dX3_requireTopic_38 : decode cX3_requireTopic 38 = .ok (.return_, 1) := by decide +kernel
theorem dX3_requireMinutes_0 : decode cX3_requireMinutes 0 = .ok (.iload_n 0, 1) := by decide +kernel
theorem dX3_requireMinutes_1 : decode cX3_requireMinutes 1 = .ok (.iconst 1, 1) := by decide +kernel
theorem dX3_requireMinutes_2 : decode cX3_requireMinutes 2 = .ok (.if_icmp .lt 9, 3) := by decide +kernel
theorem dX3_requireMinutes_5 : decode cX3_requireMinutes 5 = .ok (.iload_n 0, 1) := by decide +kernel
theorem dX3_requireMinutes_6 : decode cX3_requireMinutes 6 = .ok (.bipush 60, 2) := by decide +kernel
theorem dX3_requireMinutes_8 : decode cX3_requireMinutes 8 = .ok (.if_icmp .le 13, 3) := by decide +kernel
theorem dX3_requireMinutes_11 : decode cX3_requireMinutes 11 = .ok (.new 61, 3) := by decide +kernel
theorem dX3_requireMinutes_14 : decode cX3_requireMinutes 14 = .ok (.dup, 1) := by decide +kernel
theorem dX3_requireMinutes_15 : decode cX3_requireMinutes 15 = .ok (.ldc 217, 2) := by decide +kernel
theorem dX3_requireMinutes_17 : decode cX3_requireMinutes 17 = .ok (.invokespecial 65, 3) := by decide +kernel
theorem dX3_requireMinutes_20 : decode cX3_requireMinutes 20 = .ok (.athrow, 1) := by decide +kernel
theorem dX3_requireMinutes_21 : decode cX3_requireMinutes 21 = .ok (.return_, 1) := by decide +kernel
set_option maxRecDepth 20000 in
theorem ggX3_requirePlace_X0_holds : GoodIn wsX3_requirePlace wsX0_holds := goodIn_r _ [9, 10, 22, 23, 24] (by decide +kernel) (by decide +kernel)
set_option maxRecDepth 20000 in
theorem gX3_requirePlace_X0_holds : GoodIn wsX3_requirePlace (wsV RX3 219 RX0 yX0_holds wsX0_holds) := goodIn_app (goodIn_of _ (by decide +kernel)) ggX3_requirePlace_X0_holds
theorem dX3_requirePlace_0 : decode cX3_requirePlace 0 = .ok (.aload_n 0, 1) := by decide +kernel
theorem dX3_requirePlace_1 : decode cX3_requirePlace 1 = .ok (.getfield 12, 3) := by decide +kernel
theorem dX3_requirePlace_4 : decode cX3_requirePlace 4 = .ok (.getfield 23, 3) := by decide +kernel
theorem dX3_requirePlace_7 : decode cX3_requirePlace 7 = .ok (.iload_n 1, 1) := by decide +kernel
theorem dX3_requirePlace_8 : decode cX3_requirePlace 8 = .ok (.invokevirtual 219, 3) := by decide +kernel
theorem dX3_requirePlace_11 : decode cX3_requirePlace 11 = .ok (.ifCond .ne 13, 3) := by decide +kernel
theorem dX3_requirePlace_14 : decode cX3_requirePlace 14 = .ok (.new 121, 3) := by decide +kernel
theorem dX3_requirePlace_17 : decode cX3_requirePlace 17 = .ok (.dup, 1) := by decide +kernel
theorem dX3_requirePlace_18 : decode cX3_requirePlace 18 = .ok (.ldc 222, 2) := by decide +kernel
theorem dX3_requirePlace_20 : decode cX3_requirePlace 20 = .ok (.invokespecial 125, 3) := by decide +kernel
theorem dX3_requirePlace_23 : decode cX3_requirePlace 23 = .ok (.athrow, 1) := by decide +kernel
theorem dX3_requirePlace_24 : decode cX3_requirePlace 24 = .ok (.return_, 1) := by decide +kernel
set_option maxRecDepth 20000 in
theorem ggX3_requireTalker_X1_knows : GoodIn wsX3_requireTalker wsX1_knows := goodIn_r _ [9, 10, 22, 23, 24, 25, 26, 27] (by decide +kernel) (by decide +kernel)
set_option maxRecDepth 20000 in
theorem gX3_requireTalker_X1_knows : GoodIn wsX3_requireTalker (wsV RX3 224 RX1 yX1_knows wsX1_knows) := goodIn_app (goodIn_of _ (by decide +kernel)) ggX3_requireTalker_X1_knows
theorem dX3_requireTalker_0 : decode cX3_requireTalker 0 = .ok (.aload_n 0, 1) := by decide +kernel
theorem dX3_requireTalker_1 : decode cX3_requireTalker 1 = .ok (.getfield 12, 3) := by decide +kernel
theorem dX3_requireTalker_4 : decode cX3_requireTalker 4 = .ok (.getfield 81, 3) := by decide +kernel
theorem dX3_requireTalker_7 : decode cX3_requireTalker 7 = .ok (.iload_n 1, 1) := by decide +kernel
theorem dX3_requireTalker_8 : decode cX3_requireTalker 8 = .ok (.invokevirtual 224, 3) := by decide +kernel
theorem dX3_requireTalker_11 : decode cX3_requireTalker 11 = .ok (.ifCond .ne 13, 3) := by decide +kernel
theorem dX3_requireTalker_14 : decode cX3_requireTalker 14 = .ok (.new 121, 3) := by decide +kernel
theorem dX3_requireTalker_17 : decode cX3_requireTalker 17 = .ok (.dup, 1) := by decide +kernel
theorem dX3_requireTalker_18 : decode cX3_requireTalker 18 = .ok (.ldc 227, 2) := by decide +kernel
theorem dX3_requireTalker_20 : decode cX3_requireTalker 20 = .ok (.invokespecial 125, 3) := by decide +kernel
theorem dX3_requireTalker_23 : decode cX3_requireTalker 23 = .ok (.athrow, 1) := by decide +kernel
theorem dX3_requireTalker_24 : decode cX3_requireTalker 24 = .ok (.return_, 1) := by decide +kernel
theorem dX4_init_0 : decode cX4_init 0 = .ok (.aload_n 0, 1) := by decide +kernel
theorem dX4_init_1 : decode cX4_init 1 = .ok (.invokespecial 3, 3) := by decide +kernel
theorem dX4_init_4 : decode cX4_init 4 = .ok (.aload_n 0, 1) := by decide +kernel
theorem dX4_init_5 : decode cX4_init 5 = .ok (.iconst 1, 1) := by decide +kernel
theorem dX4_init_6 : decode cX4_init 6 = .ok (.putfield 9, 3) := by decide +kernel
theorem dX4_init_9 : decode cX4_init 9 = .ok (.aload_n 0, 1) := by decide +kernel
theorem dX4_init_10 : decode cX4_init 10 = .ok (.iconst 3, 1) := by decide +kernel
theorem dX4_init_11 : decode cX4_init 11 = .ok (.putfield 13, 3) := by decide +kernel
theorem dX4_init_14 : decode cX4_init 14 = .ok (.aload_n 0, 1) := by decide +kernel
theorem dX4_init_15 : decode cX4_init 15 = .ok (.bipush 6, 2) := by decide +kernel
theorem dX4_init_17 : decode cX4_init 17 = .ok (.newarray .int, 2) := by decide +kernel
theorem dX4_init_19 : decode cX4_init 19 = .ok (.putfield 16, 3) := by decide +kernel
theorem dX4_init_22 : decode cX4_init 22 = .ok (.aload_n 0, 1) := by decide +kernel
theorem dX4_init_23 : decode cX4_init 23 = .ok (.bipush 6, 2) := by decide +kernel
theorem dX4_init_25 : decode cX4_init 25 = .ok (.newarray .int, 2) := by decide +kernel
theorem dX4_init_27 : decode cX4_init 27 = .ok (.putfield 20, 3) := by decide +kernel
theorem dX4_init_30 : decode cX4_init 30 = .ok (.aload_n 0, 1) := by decide +kernel
theorem dX4_init_31 : decode cX4_init 31 = .ok (.bipush 6, 2) := by decide +kernel
theorem dX4_init_33 : decode cX4_init 33 = .ok (.newarray .int, 2) := by decide +kernel
theorem dX4_init_35 : decode cX4_init 35 = .ok (.putfield 23, 3) := by decide +kernel
theorem dX4_init_38 : decode cX4_init 38 = .ok (.aload_n 0, 1) := by decide +kernel
theorem dX4_init_39 : decode cX4_init 39 = .ok (.bipush 42, 2) := by decide +kernel
theorem dX4_init_41 : decode cX4_init 41 = .ok (.newarray .int, 2) := by decide +kernel
theorem dX4_init_43 : decode cX4_init 43 = .ok (.putfield 26, 3) := by decide +kernel
theorem dX4_init_46 : decode cX4_init 46 = .ok (.aload_n 0, 1) := by decide +kernel
theorem dX4_init_47 : decode cX4_init 47 = .ok (.bipush 42, 2) := by decide +kernel
theorem dX4_init_49 : decode cX4_init 49 = .ok (.newarray .int, 2) := by decide +kernel
theorem dX4_init_51 : decode cX4_init 51 = .ok (.putfield 29, 3) := by decide +kernel
theorem dX4_init_54 : decode cX4_init 54 = .ok (.aload_n 0, 1) := by decide +kernel
theorem dX4_init_55 : decode cX4_init 55 = .ok (.getfield 26, 3) := by decide +kernel
theorem dX4_init_58 : decode cX4_init 58 = .ok (.iconst 5, 1) := by decide +kernel
theorem dX4_init_59 : decode cX4_init 59 = .ok (.iconst 2, 1) := by decide +kernel
theorem dX4_init_60 : decode cX4_init 60 = .ok (.iastore, 1) := by decide +kernel
theorem dX4_init_61 : decode cX4_init 61 = .ok (.return_, 1) := by decide +kernel
theorem dX4_thrown_0 : decode cX4_thrown 0 = .ok (.aload_n 0, 1) := by decide +kernel
theorem dX4_thrown_1 : decode cX4_thrown 1 = .ok (.getfield 32, 3) := by decide +kernel
theorem dX4_thrown_4 : decode cX4_thrown 4 = .ok (.ireturn, 1) := by decide +kernel
theorem dX4_no_0 : decode cX4_no 0 = .ok (.aload_n 0, 1) := by decide +kernel
theorem dX4_no_1 : decode cX4_no 1 = .ok (.iload_n 1, 1) := by decide +kernel
theorem dX4_no_2 : decode cX4_no 2 = .ok (.putfield 32, 3) := by decide +kernel
theorem dX4_no_5 : decode cX4_no 5 = .ok (.iconst 0, 1) := by decide +kernel
theorem dX4_no_6 : decode cX4_no 6 = .ok (.ireturn, 1) := by decide +kernel
theorem dX4_ok_0 : decode cX4_ok 0 = .ok (.aload_n 0, 1) := by decide +kernel
theorem dX4_ok_1 : decode cX4_ok 1 = .ok (.iconst 0, 1) := by decide +kernel
theorem dX4_ok_2 : decode cX4_ok 2 = .ok (.putfield 32, 3) := by decide +kernel
theorem dX4_ok_5 : decode cX4_ok 5 = .ok (.iload_n 1, 1) := by decide +kernel
theorem dX4_ok_6 : decode cX4_ok 6 = .ok (.ireturn, 1) := by decide +kernel
theorem dX4_isIn_0 : decode cX4_isIn 0 = .ok (.iload_n 0, 1) := by decide +kernel
theorem dX4_isIn_1 : decode cX4_isIn 1 = .ok (.iload_n 1, 1) := by decide +kernel
theorem dX4_isIn_2 : decode cX4_isIn 2 = .ok (.if_icmp .lt 12, 3) := by decide +kernel
theorem dX4_isIn_5 : decode cX4_isIn 5 = .ok (.iload_n 0, 1) := by decide +kernel
theorem dX4_isIn_6 : decode cX4_isIn 6 = .ok (.iload_n 2, 1) := by decide +kernel
theorem dX4_isIn_7 : decode cX4_isIn 7 = .ok (.if_icmp .gt 7, 3) := by decide +kernel
theorem dX4_isIn_10 : decode cX4_isIn 10 = .ok (.iconst 1, 1) := by decide +kernel
theorem dX4_isIn_11 : decode cX4_isIn 11 = .ok (.goto 4, 3) := by decide +kernel
theorem dX4_isIn_14 : decode cX4_isIn 14 = .ok (.iconst 0, 1) := by decide +kernel
theorem dX4_isIn_15 : decode cX4_isIn 15 = .ok (.ireturn, 1) := by decide +kernel
set_option maxRecDepth 20000 in
theorem ggX4_isPlace_X4_isIn : GoodIn wsX4_isPlace wsX4_isIn := goodIn_r _ [5] (by decide +kernel) (by decide +kernel)
set_option maxRecDepth 20000 in
theorem gX4_isPlace_X4_isIn : GoodIn wsX4_isPlace (va_wsS RX4 35 yX4_isIn wsX4_isIn) := goodIn_app (goodIn_of _ (by decide +kernel)) ggX4_isPlace_X4_isIn
theorem dX4_isPlace_0 : decode cX4_isPlace 0 = .ok (.iload_n 1, 1) := by decide +kernel
theorem dX4_isPlace_1 : decode cX4_isPlace 1 = .ok (.iconst 0, 1) := by decide +kernel
theorem dX4_isPlace_2 : decode cX4_isPlace 2 = .ok (.aload_n 0, 1) := by decide +kernel
theorem dX4_isPlace_3 : decode cX4_isPlace 3 = .ok (.getfield 26, 3) := by decide +kernel
theorem dX4_isPlace_6 : decode cX4_isPlace 6 = .ok (.iconst 1, 1) := by decide +kernel
theorem dX4_isPlace_7 : decode cX4_isPlace 7 = .ok (.iaload, 1) := by decide +kernel
theorem dX4_isPlace_8 : decode cX4_isPlace 8 = .ok (.iconst 1, 1) := by decide +kernel
theorem dX4_isPlace_9 : decode cX4_isPlace 9 = .ok (.isub, 1) := by decide +kernel
theorem dX4_isPlace_10 : decode cX4_isPlace 10 = .ok (.invokestatic 35, 3) := by decide +kernel
theorem dX4_isPlace_13 : decode cX4_isPlace 13 = .ok (.ireturn, 1) := by decide +kernel
set_option maxRecDepth 20000 in
theorem ggX4_isTalker_X4_isIn : GoodIn wsX4_isTalker wsX4_isIn := goodIn_r _ [5] (by decide +kernel) (by decide +kernel)
set_option maxRecDepth 20000 in
theorem gX4_isTalker_X4_isIn : GoodIn wsX4_isTalker (va_wsS RX4 35 yX4_isIn wsX4_isIn) := goodIn_app (goodIn_of _ (by decide +kernel)) ggX4_isTalker_X4_isIn
theorem dX4_isTalker_0 : decode cX4_isTalker 0 = .ok (.iload_n 1, 1) := by decide +kernel
theorem dX4_isTalker_1 : decode cX4_isTalker 1 = .ok (.iconst 0, 1) := by decide +kernel
theorem dX4_isTalker_2 : decode cX4_isTalker 2 = .ok (.aload_n 0, 1) := by decide +kernel
theorem dX4_isTalker_3 : decode cX4_isTalker 3 = .ok (.getfield 39, 3) := by decide +kernel
theorem dX4_isTalker_6 : decode cX4_isTalker 6 = .ok (.iconst 1, 1) := by decide +kernel
theorem dX4_isTalker_7 : decode cX4_isTalker 7 = .ok (.isub, 1) := by decide +kernel
theorem dX4_isTalker_8 : decode cX4_isTalker 8 = .ok (.invokestatic 35, 3) := by decide +kernel
theorem dX4_isTalker_11 : decode cX4_isTalker 11 = .ok (.ireturn, 1) := by decide +kernel
set_option maxRecDepth 20000 in
theorem ggX4_isTopic_X4_isIn : GoodIn wsX4_isTopic wsX4_isIn := goodIn_r _ [4] (by decide +kernel) (by decide +kernel)
set_option maxRecDepth 20000 in
theorem gX4_isTopic_X4_isIn : GoodIn wsX4_isTopic (va_wsS RX4 35 yX4_isIn wsX4_isIn) := goodIn_app (goodIn_of _ (by decide +kernel)) ggX4_isTopic_X4_isIn
theorem dX4_isTopic_0 : decode cX4_isTopic 0 = .ok (.iload_n 0, 1) := by decide +kernel
theorem dX4_isTopic_1 : decode cX4_isTopic 1 = .ok (.iconst 0, 1) := by decide +kernel
theorem dX4_isTopic_2 : decode cX4_isTopic 2 = .ok (.iconst 4, 1) := by decide +kernel
theorem dX4_isTopic_3 : decode cX4_isTopic 3 = .ok (.invokestatic 35, 3) := by decide +kernel
theorem dX4_isTopic_6 : decode cX4_isTopic 6 = .ok (.ifCond .eq 17, 3) := by decide +kernel
theorem dX4_isTopic_9 : decode cX4_isTopic 9 = .ok (.iload_n 1, 1) := by decide +kernel
theorem dX4_isTopic_10 : decode cX4_isTopic 10 = .ok (.iconst 2, 1) := by decide +kernel
theorem dX4_isTopic_11 : decode cX4_isTopic 11 = .ok (.bipush 99, 2) := by decide +kernel
theorem dX4_isTopic_13 : decode cX4_isTopic 13 = .ok (.invokestatic 35, 3) := by decide +kernel
theorem dX4_isTopic_16 : decode cX4_isTopic 16 = .ok (.ifCond .eq 7, 3) := by decide +kernel
theorem dX4_isTopic_19 : decode cX4_isTopic 19 = .ok (.iconst 1, 1) := by decide +kernel
theorem dX4_isTopic_20 : decode cX4_isTopic 20 = .ok (.goto 4, 3) := by decide +kernel
theorem dX4_isTopic_23 : decode cX4_isTopic 23 = .ok (.iconst 0, 1) := by decide +kernel
theorem dX4_isTopic_24 : decode cX4_isTopic 24 = .ok (.ireturn, 1) := by decide +kernel
theorem dX4_isThere_0 : decode cX4_isThere 0 = .ok (.aload_n 0, 1) := by decide +kernel
theorem dX4_isThere_1 : decode cX4_isThere 1 = .ok (.getfield 26, 3) := by decide +kernel
theorem dX4_isThere_4 : decode cX4_isThere 4 = .ok (.bipush 36, 2) := by decide +kernel
theorem dX4_isThere_6 : decode cX4_isThere 6 = .ok (.iload_n 1, 1) := by decide +kernel
theorem dX4_isThere_7 : decode cX4_isThere 7 = .ok (.iadd, 1) := by decide +kernel
theorem dX4_isThere_8 : decode cX4_isThere 8 = .ok (.iaload, 1) := by decide +kernel
theorem dX4_isThere_9 : decode cX4_isThere 9 = .ok (.iconst (-1), 1) := by decide +kernel
theorem dX4_isThere_10 : decode cX4_isThere 10 = .ok (.if_icmp .ne 7, 3) := by decide +kernel
theorem dX4_isThere_13 : decode cX4_isThere 13 = .ok (.iconst 1, 1) := by decide +kernel
theorem dX4_isThere_14 : decode cX4_isThere 14 = .ok (.goto 4, 3) := by decide +kernel
theorem dX4_isThere_17 : decode cX4_isThere 17 = .ok (.iconst 0, 1) := by decide +kernel
theorem dX4_isThere_18 : decode cX4_isThere 18 = .ok (.ireturn, 1) := by decide +kernel
theorem dX4_keep_0 : decode cX4_keep 0 = .ok (.aload_n 0, 1) := by decide +kernel
theorem dX4_keep_1 : decode cX4_keep 1 = .ok (.getfield 26, 3) := by decide +kernel
theorem dX4_keep_4 : decode cX4_keep 4 = .ok (.iconst 0, 1) := by decide +kernel
theorem dX4_keep_5 : decode cX4_keep 5 = .ok (.aload_n 0, 1) := by decide +kernel
theorem dX4_keep_6 : decode cX4_keep 6 = .ok (.getfield 29, 3) := by decide +kernel
theorem dX4_keep_9 : decode cX4_keep 9 = .ok (.iconst 0, 1) := by decide +kernel
theorem dX4_keep_10 : decode cX4_keep 10 = .ok (.bipush 42, 2) := by decide +kernel
theorem dX4_keep_12 : decode cX4_keep 12 = .ok (.invokestatic 42, 3) := by decide +kernel
theorem dX4_keep_15 : decode cX4_keep 15 = .ok (.return_, 1) := by decide +kernel
theorem dX4_bringBack_0 : decode cX4_bringBack 0 = .ok (.aload_n 0, 1) := by decide +kernel
theorem dX4_bringBack_1 : decode cX4_bringBack 1 = .ok (.getfield 29, 3) := by decide +kernel
theorem dX4_bringBack_4 : decode cX4_bringBack 4 = .ok (.iconst 0, 1) := by decide +kernel
theorem dX4_bringBack_5 : decode cX4_bringBack 5 = .ok (.aload_n 0, 1) := by decide +kernel
theorem dX4_bringBack_6 : decode cX4_bringBack 6 = .ok (.getfield 26, 3) := by decide +kernel
theorem dX4_bringBack_9 : decode cX4_bringBack 9 = .ok (.iconst 0, 1) := by decide +kernel
theorem dX4_bringBack_10 : decode cX4_bringBack 10 = .ok (.bipush 42, 2) := by decide +kernel
theorem dX4_bringBack_12 : decode cX4_bringBack 12 = .ok (.invokestatic 42, 3) := by decide +kernel
theorem dX4_bringBack_15 : decode cX4_bringBack 15 = .ok (.return_, 1) := by decide +kernel
theorem dX4_noiseNow_0 : decode cX4_noiseNow 0 = .ok (.iconst 0, 1) := by decide +kernel
theorem dX4_noiseNow_1 : decode cX4_noiseNow 1 = .ok (.istore_n 1, 1) := by decide +kernel
theorem dX4_noiseNow_2 : decode cX4_noiseNow 2 = .ok (.iconst 0, 1) := by decide +kernel
theorem dX4_noiseNow_3 : decode cX4_noiseNow 3 = .ok (.istore_n 2, 1) := by decide +kernel
theorem dX4_noiseNow_4 : decode cX4_noiseNow 4 = .ok (.iload_n 2, 1) := by decide +kernel
theorem dX4_noiseNow_5 : decode cX4_noiseNow 5 = .ok (.aload_n 0, 1) := by decide +kernel
theorem dX4_noiseNow_6 : decode cX4_noiseNow 6 = .ok (.getfield 26, 3) := by decide +kernel
theorem dX4_noiseNow_9 : decode cX4_noiseNow 9 = .ok (.iconst 1, 1) := by decide +kernel
theorem dX4_noiseNow_10 : decode cX4_noiseNow 10 = .ok (.iaload, 1) := by decide +kernel
theorem dX4_noiseNow_11 : decode cX4_noiseNow 11 = .ok (.if_icmp .ge 21, 3) := by decide +kernel
theorem dX4_noiseNow_14 : decode cX4_noiseNow 14 = .ok (.iload_n 1, 1) := by decide +kernel
theorem dX4_noiseNow_15 : decode cX4_noiseNow 15 = .ok (.aload_n 0, 1) := by decide +kernel
theorem dX4_noiseNow_16 : decode cX4_noiseNow 16 = .ok (.getfield 26, 3) := by decide +kernel
theorem dX4_noiseNow_19 : decode cX4_noiseNow 19 = .ok (.bipush 6, 2) := by decide +kernel
theorem dX4_noiseNow_21 : decode cX4_noiseNow 21 = .ok (.iload_n 2, 1) := by decide +kernel
theorem dX4_noiseNow_22 : decode cX4_noiseNow 22 = .ok (.iadd, 1) := by decide +kernel
theorem dX4_noiseNow_23 : decode cX4_noiseNow 23 = .ok (.iaload, 1) := by decide +kernel
theorem dX4_noiseNow_24 : decode cX4_noiseNow 24 = .ok (.iadd, 1) := by decide +kernel
theorem dX4_noiseNow_25 : decode cX4_noiseNow 25 = .ok (.istore_n 1, 1) := by decide +kernel
theorem dX4_noiseNow_26 : decode cX4_noiseNow 26 = .ok (.iinc 2 1, 3) := by decide +kernel
theorem dX4_noiseNow_29 : decode cX4_noiseNow 29 = .ok (.goto (-25), 3) := by decide +kernel
theorem dX4_noiseNow_32 : decode cX4_noiseNow 32 = .ok (.iload_n 1, 1) := by decide +kernel
theorem dX4_noiseNow_33 : decode cX4_noiseNow 33 = .ok (.ireturn, 1) := by decide +kernel
theorem dX4_add_0 : decode cX4_add 0 = .ok (.aload_n 0, 1) := by decide +kernel
theorem dX4_add_1 : decode cX4_add 1 = .ok (.getfield 26, 3) := by decide +kernel
theorem dX4_add_4 : decode cX4_add 4 = .ok (.bipush 6, 2) := by decide +kernel
theorem dX4_add_6 : decode cX4_add 6 = .ok (.aload_n 0, 1) := by decide +kernel
theorem dX4_add_7 : decode cX4_add 7 = .ok (.getfield 26, 3) := by decide +kernel
theorem dX4_add_10 : decode cX4_add 10 = .ok (.iconst 1, 1) := by decide +kernel
theorem dX4_add_11 : decode cX4_add 11 = .ok (.iaload, 1) := by decide +kernel
theorem dX4_add_12 : decode cX4_add 12 = .ok (.iadd, 1) := by decide +kernel
theorem dX4_add_13 : decode cX4_add 13 = .ok (.iload_n 2, 1) := by decide +kernel
theorem dX4_add_14 : decode cX4_add 14 = .ok (.iastore, 1) := by decide +kernel
theorem dX4_add_15 : decode cX4_add 15 = .ok (.aload_n 0, 1) := by decide +kernel
theorem dX4_add_16 : decode cX4_add 16 = .ok (.getfield 26, 3) := by decide +kernel
theorem dX4_add_19 : decode cX4_add 19 = .ok (.bipush 18, 2) := by decide +kernel
theorem dX4_add_21 : decode cX4_add 21 = .ok (.aload_n 0, 1) := by decide +kernel
theorem dX4_add_22 : decode cX4_add 22 = .ok (.getfield 26, 3) := by decide +kernel
theorem dX4_add_25 : decode cX4_add 25 = .ok (.iconst 1, 1) := by decide +kernel
theorem dX4_add_26 : decode cX4_add 26 = .ok (.iaload, 1) := by decide +kernel
theorem dX4_add_27 : decode cX4_add 27 = .ok (.iadd, 1) := by decide +kernel
theorem dX4_add_28 : decode cX4_add 28 = .ok (.iload_n 1, 1) := by decide +kernel
theorem dX4_add_29 : decode cX4_add 29 = .ok (.iastore, 1) := by decide +kernel
theorem dX4_add_30 : decode cX4_add 30 = .ok (.aload_n 0, 1) := by decide +kernel
theorem dX4_add_31 : decode cX4_add 31 = .ok (.getfield 26, 3) := by decide +kernel
theorem dX4_add_34 : decode cX4_add 34 = .ok (.iconst 1, 1) := by decide +kernel
theorem dX4_add_35 : decode cX4_add 35 = .ok (.dup2, 1) := by decide +kernel
theorem dX4_add_36 : decode cX4_add 36 = .ok (.iaload, 1) := by decide +kernel
theorem dX4_add_37 : decode cX4_add 37 = .ok (.iconst 1, 1) := by decide +kernel
theorem dX4_add_38 : decode cX4_add 38 = .ok (.iadd, 1) := by decide +kernel
theorem dX4_add_39 : decode cX4_add 39 = .ok (.iastore, 1) := by decide +kernel
theorem dX4_add_40 : decode cX4_add 40 = .ok (.return_, 1) := by decide +kernel
theorem dX4_leaveOut_0 : decode cX4_leaveOut 0 = .ok (.iconst 0, 1) := by decide +kernel
theorem dX4_leaveOut_1 : decode cX4_leaveOut 1 = .ok (.istore_n 2, 1) := by decide +kernel
theorem dX4_leaveOut_2 : decode cX4_leaveOut 2 = .ok (.aload_n 0, 1) := by decide +kernel
theorem dX4_leaveOut_3 : decode cX4_leaveOut 3 = .ok (.getfield 26, 3) := by decide +kernel
theorem dX4_leaveOut_6 : decode cX4_leaveOut 6 = .ok (.iconst 1, 1) := by decide +kernel
theorem dX4_leaveOut_7 : decode cX4_leaveOut 7 = .ok (.iaload, 1) := by decide +kernel
theorem dX4_leaveOut_8 : decode cX4_leaveOut 8 = .ok (.istore_n 3, 1) := by decide +kernel
theorem dX4_leaveOut_9 : decode cX4_leaveOut 9 = .ok (.iconst 0, 1) := by decide +kernel
theorem dX4_leaveOut_10 : decode cX4_leaveOut 10 = .ok (.istore 4, 2) := by decide +kernel
theorem dX4_leaveOut_12 : decode cX4_leaveOut 12 = .ok (.iload 4, 2) := by decide +kernel
theorem dX4_leaveOut_14 : decode cX4_leaveOut 14 = .ok (.iload_n 3, 1) := by decide +kernel
theorem dX4_leaveOut_15 : decode cX4_leaveOut 15 = .ok (.if_icmp .ge 121, 3) := by decide +kernel
theorem dX4_leaveOut_18 : decode cX4_leaveOut 18 = .ok (.iload_n 1, 1) := by decide +kernel
theorem dX4_leaveOut_19 : decode cX4_leaveOut 19 = .ok (.ifCond .eq 41, 3) := by decide +kernel
theorem dX4_leaveOut_22 : decode cX4_leaveOut 22 = .ok (.aload_n 0, 1) := by decide +kernel
theorem dX4_leaveOut_23 : decode cX4_leaveOut 23 = .ok (.getfield 26, 3) := by decide +kernel
theorem dX4_leaveOut_26 : decode cX4_leaveOut 26 = .ok (.bipush 18, 2) := by decide +kernel
theorem dX4_leaveOut_28 : decode cX4_leaveOut 28 = .ok (.iload 4, 2) := by decide +kernel
theorem dX4_leaveOut_30 : decode cX4_leaveOut 30 = .ok (.iadd, 1) := by decide +kernel
theorem dX4_leaveOut_31 : decode cX4_leaveOut 31 = .ok (.iaload, 1) := by decide +kernel
theorem dX4_leaveOut_32 : decode cX4_leaveOut 32 = .ok (.ifCond .ne 24, 3) := by decide +kernel
theorem dX4_leaveOut_35 : decode cX4_leaveOut 35 = .ok (.aload_n 0, 1) := by decide +kernel
theorem dX4_leaveOut_36 : decode cX4_leaveOut 36 = .ok (.getfield 26, 3) := by decide +kernel
theorem dX4_leaveOut_39 : decode cX4_leaveOut 39 = .ok (.bipush 6, 2) := by decide +kernel
theorem dX4_leaveOut_41 : decode cX4_leaveOut 41 = .ok (.iload 4, 2) := by decide +kernel
theorem dX4_leaveOut_43 : decode cX4_leaveOut 43 = .ok (.iadd, 1) := by decide +kernel
theorem dX4_leaveOut_44 : decode cX4_leaveOut 44 = .ok (.iaload, 1) := by decide +kernel
theorem dX4_leaveOut_45 : decode cX4_leaveOut 45 = .ok (.aload_n 0, 1) := by decide +kernel
theorem dX4_leaveOut_46 : decode cX4_leaveOut 46 = .ok (.getfield 13, 3) := by decide +kernel
theorem dX4_leaveOut_49 : decode cX4_leaveOut 49 = .ok (.if_icmp .ge 7, 3) := by decide +kernel
theorem dX4_leaveOut_52 : decode cX4_leaveOut 52 = .ok (.iconst 1, 1) := by decide +kernel
theorem dX4_leaveOut_53 : decode cX4_leaveOut 53 = .ok (.goto 26, 3) := by decide +kernel
theorem dX4_leaveOut_56 : decode cX4_leaveOut 56 = .ok (.iconst 0, 1) := by decide +kernel
theorem dX4_leaveOut_57 : decode cX4_leaveOut 57 = .ok (.goto 22, 3) := by decide +kernel
theorem dX4_leaveOut_60 : decode cX4_leaveOut 60 = .ok (.aload_n 0, 1) := by decide +kernel
theorem dX4_leaveOut_61 : decode cX4_leaveOut 61 = .ok (.getfield 26, 3) := by decide +kernel
theorem dX4_leaveOut_64 : decode cX4_leaveOut 64 = .ok (.bipush 6, 2) := by decide +kernel
theorem dX4_leaveOut_66 : decode cX4_leaveOut 66 = .ok (.iload 4, 2) := by decide +kernel
theorem dX4_leaveOut_68 : decode cX4_leaveOut 68 = .ok (.iadd, 1) := by decide +kernel
theorem dX4_leaveOut_69 : decode cX4_leaveOut 69 = .ok (.iaload, 1) := by decide +kernel
theorem dX4_leaveOut_70 : decode cX4_leaveOut 70 = .ok (.iconst 2, 1) := by decide +kernel
theorem dX4_leaveOut_71 : decode cX4_leaveOut 71 = .ok (.if_icmp .ge 7, 3) := by decide +kernel
theorem dX4_leaveOut_74 : decode cX4_leaveOut 74 = .ok (.iconst 1, 1) := by decide +kernel
theorem dX4_leaveOut_75 : decode cX4_leaveOut 75 = .ok (.goto 4, 3) := by decide +kernel
theorem dX4_leaveOut_78 : decode cX4_leaveOut 78 = .ok (.iconst 0, 1) := by decide +kernel
theorem dX4_leaveOut_79 : decode cX4_leaveOut 79 = .ok (.istore 5, 2) := by decide +kernel
theorem dX4_leaveOut_81 : decode cX4_leaveOut 81 = .ok (.iload 5, 2) := by decide +kernel
theorem dX4_leaveOut_83 : decode cX4_leaveOut 83 = .ok (.ifCond .eq 6, 3) := by decide +kernel
theorem dX4_leaveOut_86 : decode cX4_leaveOut 86 = .ok (.goto 44, 3) := by decide +kernel
theorem dX4_leaveOut_89 : decode cX4_leaveOut 89 = .ok (.aload_n 0, 1) := by decide +kernel
theorem dX4_leaveOut_90 : decode cX4_leaveOut 90 = .ok (.getfield 26, 3) := by decide +kernel
theorem dX4_leaveOut_93 : decode cX4_leaveOut 93 = .ok (.bipush 6, 2) := by decide +kernel
theorem dX4_leaveOut_95 : decode cX4_leaveOut 95 = .ok (.iload_n 2, 1) := by decide +kernel
theorem dX4_leaveOut_96 : decode cX4_leaveOut 96 = .ok (.iadd, 1) := by decide +kernel
theorem dX4_leaveOut_97 : decode cX4_leaveOut 97 = .ok (.aload_n 0, 1) := by decide +kernel
theorem dX4_leaveOut_98 : decode cX4_leaveOut 98 = .ok (.getfield 26, 3) := by decide +kernel
theorem dX4_leaveOut_101 : decode cX4_leaveOut 101 = .ok (.bipush 6, 2) := by decide +kernel
theorem dX4_leaveOut_103 : decode cX4_leaveOut 103 = .ok (.iload 4, 2) := by decide +kernel
theorem dX4_leaveOut_105 : decode cX4_leaveOut 105 = .ok (.iadd, 1) := by decide +kernel
theorem dX4_leaveOut_106 : decode cX4_leaveOut 106 = .ok (.iaload, 1) := by decide +kernel
theorem dX4_leaveOut_107 : decode cX4_leaveOut 107 = .ok (.iastore, 1) := by decide +kernel
theorem dX4_leaveOut_108 : decode cX4_leaveOut 108 = .ok (.aload_n 0, 1) := by decide +kernel
theorem dX4_leaveOut_109 : decode cX4_leaveOut 109 = .ok (.getfield 26, 3) := by decide +kernel
theorem dX4_leaveOut_112 : decode cX4_leaveOut 112 = .ok (.bipush 18, 2) := by decide +kernel
theorem dX4_leaveOut_114 : decode cX4_leaveOut 114 = .ok (.iload_n 2, 1) := by decide +kernel
theorem dX4_leaveOut_115 : decode cX4_leaveOut 115 = .ok (.iadd, 1) := by decide +kernel
theorem dX4_leaveOut_116 : decode cX4_leaveOut 116 = .ok (.aload_n 0, 1) := by decide +kernel
theorem dX4_leaveOut_117 : decode cX4_leaveOut 117 = .ok (.getfield 26, 3) := by decide +kernel
theorem dX4_leaveOut_120 : decode cX4_leaveOut 120 = .ok (.bipush 18, 2) := by decide +kernel
theorem dX4_leaveOut_122 : decode cX4_leaveOut 122 = .ok (.iload 4, 2) := by decide +kernel
theorem dX4_leaveOut_124 : decode cX4_leaveOut 124 = .ok (.iadd, 1) := by decide +kernel
theorem dX4_leaveOut_125 : decode cX4_leaveOut 125 = .ok (.iaload, 1) := by decide +kernel
theorem dX4_leaveOut_126 : decode cX4_leaveOut 126 = .ok (.iastore, 1) := by decide +kernel
theorem dX4_leaveOut_127 : decode cX4_leaveOut 127 = .ok (.iinc 2 1, 3) := by decide +kernel
theorem dX4_leaveOut_130 : decode cX4_leaveOut 130 = .ok (.iinc 4 1, 3) := by decide +kernel
theorem dX4_leaveOut_133 : decode cX4_leaveOut 133 = .ok (.goto (-121), 3) := by decide +kernel
theorem dX4_leaveOut_136 : decode cX4_leaveOut 136 = .ok (.aload_n 0, 1) := by decide +kernel
theorem dX4_leaveOut_137 : decode cX4_leaveOut 137 = .ok (.getfield 26, 3) := by decide +kernel
theorem dX4_leaveOut_140 : decode cX4_leaveOut 140 = .ok (.iconst 1, 1) := by decide +kernel
theorem dX4_leaveOut_141 : decode cX4_leaveOut 141 = .ok (.iload_n 2, 1) := by decide +kernel
theorem dX4_leaveOut_142 : decode cX4_leaveOut 142 = .ok (.iastore, 1) := by decide +kernel
theorem dX4_leaveOut_143 : decode cX4_leaveOut 143 = .ok (.iload_n 3, 1) := by decide +kernel
theorem dX4_leaveOut_144 : decode cX4_leaveOut 144 = .ok (.iload_n 2, 1) := by decide +kernel
theorem dX4_leaveOut_145 : decode cX4_leaveOut 145 = .ok (.isub, 1) := by decide +kernel
theorem dX4_leaveOut_146 : decode cX4_leaveOut 146 = .ok (.ireturn, 1) := by decide +kernel
set_option maxRecDepth 20000 in
theorem ggX4_talk_X4_noiseNow : GoodIn wsX4_talk wsX4_noiseNow := goodIn_r _ [14, 2, 19, 20, 21, 22, 23, 24, 25, 26, 27] (by decide +kernel) (by decide +kernel)
set_option maxRecDepth 20000 in
theorem gX4_talk_X4_noiseNow : GoodIn wsX4_talk (wsV RX4 48 RX4 yX4_noiseNow wsX4_noiseNow) := goodIn_app (goodIn_of _ (by decide +kernel)) ggX4_talk_X4_noiseNow
set_option maxRecDepth 20000 in
theorem ggX4_talk_X4_isThere : GoodIn wsX4_talk wsX4_isThere := goodIn_r _ [18, 2, 19, 20, 21, 22, 23, 24, 25, 26, 27] (by decide +kernel) (by decide +kernel)
set_option maxRecDepth 20000 in
theorem gX4_talk_X4_isThere : GoodIn wsX4_talk (wsV RX4 52 RX4 yX4_isThere wsX4_isThere) := goodIn_app (goodIn_of _ (by decide +kernel)) ggX4_talk_X4_isThere
theorem dX4_talk_0 : decode cX4_talk 0 = .ok (.aload_n 0, 1) := by decide +kernel
theorem dX4_talk_1 : decode cX4_talk 1 = .ok (.invokevirtual 48, 3) := by decide +kernel
theorem dX4_talk_4 : decode cX4_talk 4 = .ok (.istore_n 1, 1) := by decide +kernel
theorem dX4_talk_5 : decode cX4_talk 5 = .ok (.iconst 0, 1) := by decide +kernel
theorem dX4_talk_6 : decode cX4_talk 6 = .ok (.istore_n 2, 1) := by decide +kernel
theorem dX4_talk_7 : decode cX4_talk 7 = .ok (.iconst 0, 1) := by decide +kernel
theorem dX4_talk_8 : decode cX4_talk 8 = .ok (.istore_n 3, 1) := by decide +kernel
theorem dX4_talk_9 : decode cX4_talk 9 = .ok (.iload_n 3, 1) := by decide +kernel
theorem dX4_talk_10 : decode cX4_talk 10 = .ok (.aload_n 0, 1) := by decide +kernel
theorem dX4_talk_11 : decode cX4_talk 11 = .ok (.getfield 39, 3) := by decide +kernel
theorem dX4_talk_14 : decode cX4_talk 14 = .ok (.if_icmp .ge 105, 3) := by decide +kernel
theorem dX4_talk_17 : decode cX4_talk 17 = .ok (.aload_n 0, 1) := by decide +kernel
theorem dX4_talk_18 : decode cX4_talk 18 = .ok (.iload_n 3, 1) := by decide +kernel
theorem dX4_talk_19 : decode cX4_talk 19 = .ok (.invokevirtual 52, 3) := by decide +kernel
theorem dX4_talk_22 : decode cX4_talk 22 = .ok (.ifCond .ne 6, 3) := by decide +kernel
theorem dX4_talk_25 : decode cX4_talk 25 = .ok (.goto 88, 3) := by decide +kernel
theorem dX4_talk_28 : decode cX4_talk 28 = .ok (.aload_n 0, 1) := by decide +kernel
theorem dX4_talk_29 : decode cX4_talk 29 = .ok (.getfield 26, 3) := by decide +kernel
theorem dX4_talk_32 : decode cX4_talk 32 = .ok (.bipush 30, 2) := by decide +kernel
theorem dX4_talk_34 : decode cX4_talk 34 = .ok (.iload_n 3, 1) := by decide +kernel
theorem dX4_talk_35 : decode cX4_talk 35 = .ok (.iadd, 1) := by decide +kernel
theorem dX4_talk_36 : decode cX4_talk 36 = .ok (.iload_n 1, 1) := by decide +kernel
theorem dX4_talk_37 : decode cX4_talk 37 = .ok (.ifCond .le 26, 3) := by decide +kernel
theorem dX4_talk_40 : decode cX4_talk 40 = .ok (.iconst 0, 1) := by decide +kernel
theorem dX4_talk_41 : decode cX4_talk 41 = .ok (.aload_n 0, 1) := by decide +kernel
theorem dX4_talk_42 : decode cX4_talk 42 = .ok (.getfield 26, 3) := by decide +kernel
theorem dX4_talk_45 : decode cX4_talk 45 = .ok (.bipush 30, 2) := by decide +kernel
theorem dX4_talk_47 : decode cX4_talk 47 = .ok (.iload_n 3, 1) := by decide +kernel
theorem dX4_talk_48 : decode cX4_talk 48 = .ok (.iadd, 1) := by decide +kernel
theorem dX4_talk_49 : decode cX4_talk 49 = .ok (.iaload, 1) := by decide +kernel
theorem dX4_talk_50 : decode cX4_talk 50 = .ok (.iload_n 1, 1) := by decide +kernel
theorem dX4_talk_51 : decode cX4_talk 51 = .ok (.bipush 20, 2) := by decide +kernel
theorem dX4_talk_53 : decode cX4_talk 53 = .ok (.idiv, 1) := by decide +kernel
theorem dX4_talk_54 : decode cX4_talk 54 = .ok (.isub, 1) := by decide +kernel
theorem dX4_talk_55 : decode cX4_talk 55 = .ok (.iconst 1, 1) := by decide +kernel
theorem dX4_talk_56 : decode cX4_talk 56 = .ok (.isub, 1) := by decide +kernel
theorem dX4_talk_57 : decode cX4_talk 57 = .ok (.invokestatic 56, 3) := by decide +kernel
theorem dX4_talk_60 : decode cX4_talk 60 = .ok (.goto 19, 3) := by decide +kernel
theorem dX4_talk_63 : decode cX4_talk 63 = .ok (.bipush 30, 2) := by decide +kernel
theorem dX4_talk_65 : decode cX4_talk 65 = .ok (.aload_n 0, 1) := by decide +kernel
theorem dX4_talk_66 : decode cX4_talk 66 = .ok (.getfield 26, 3) := by decide +kernel
theorem dX4_talk_69 : decode cX4_talk 69 = .ok (.bipush 30, 2) := by decide +kernel
theorem dX4_talk_71 : decode cX4_talk 71 = .ok (.iload_n 3, 1) := by decide +kernel
theorem dX4_talk_72 : decode cX4_talk 72 = .ok (.iadd, 1) := by decide +kernel
theorem dX4_talk_73 : decode cX4_talk 73 = .ok (.iaload, 1) := by decide +kernel
theorem dX4_talk_74 : decode cX4_talk 74 = .ok (.iconst 1, 1) := by decide +kernel
theorem dX4_talk_75 : decode cX4_talk 75 = .ok (.iadd, 1) := by decide +kernel
theorem dX4_talk_76 : decode cX4_talk 76 = .ok (.invokestatic 62, 3) := by decide +kernel
theorem dX4_talk_79 : decode cX4_talk 79 = .ok (.iastore, 1) := by decide +kernel
theorem dX4_talk_80 : decode cX4_talk 80 = .ok (.aload_n 0, 1) := by decide +kernel
theorem dX4_talk_81 : decode cX4_talk 81 = .ok (.getfield 26, 3) := by decide +kernel
theorem dX4_talk_84 : decode cX4_talk 84 = .ok (.bipush 30, 2) := by decide +kernel
theorem dX4_talk_86 : decode cX4_talk 86 = .ok (.iload_n 3, 1) := by decide +kernel
theorem dX4_talk_87 : decode cX4_talk 87 = .ok (.iadd, 1) := by decide +kernel
theorem dX4_talk_88 : decode cX4_talk 88 = .ok (.iaload, 1) := by decide +kernel
theorem dX4_talk_89 : decode cX4_talk 89 = .ok (.ifCond .le 6, 3) := by decide +kernel
theorem dX4_talk_92 : decode cX4_talk 92 = .ok (.goto 21, 3) := by decide +kernel
theorem dX4_talk_95 : decode cX4_talk 95 = .ok (.aload_n 0, 1) := by decide +kernel
theorem dX4_talk_96 : decode cX4_talk 96 = .ok (.getfield 26, 3) := by decide +kernel
theorem dX4_talk_99 : decode cX4_talk 99 = .ok (.bipush 36, 2) := by decide +kernel
theorem dX4_talk_101 : decode cX4_talk 101 = .ok (.iload_n 3, 1) := by decide +kernel
theorem dX4_talk_102 : decode cX4_talk 102 = .ok (.iadd, 1) := by decide +kernel
theorem dX4_talk_103 : decode cX4_talk 103 = .ok (.aload_n 0, 1) := by decide +kernel
theorem dX4_talk_104 : decode cX4_talk 104 = .ok (.getfield 26, 3) := by decide +kernel
theorem dX4_talk_107 : decode cX4_talk 107 = .ok (.iconst 0, 1) := by decide +kernel
theorem dX4_talk_108 : decode cX4_talk 108 = .ok (.iaload, 1) := by decide +kernel
theorem dX4_talk_109 : decode cX4_talk 109 = .ok (.iastore, 1) := by decide +kernel
theorem dX4_talk_110 : decode cX4_talk 110 = .ok (.iinc 2 1, 3) := by decide +kernel
theorem dX4_talk_113 : decode cX4_talk 113 = .ok (.iinc 3 1, 3) := by decide +kernel
theorem dX4_talk_116 : decode cX4_talk 116 = .ok (.goto (-107), 3) := by decide +kernel
theorem dX4_talk_119 : decode cX4_talk 119 = .ok (.iload_n 2, 1) := by decide +kernel
theorem dX4_talk_120 : decode cX4_talk 120 = .ok (.ireturn, 1) := by decide +kernel
set_option maxRecDepth 20000 in
theorem ggX4_pass_X4_leaveOut : GoodIn wsX4_pass wsX4_leaveOut := goodIn_r _ [15, 2, 16, 36, 37, 38, 39, 40, 41, 42, 43, 44] (by decide +kernel) (by decide +kernel)
set_option maxRecDepth 20000 in
theorem gX4_pass_X4_leaveOut : GoodIn wsX4_pass (wsV RX4 65 RX4 yX4_leaveOut wsX4_leaveOut) := goodIn_app (goodIn_of _ (by decide +kernel)) ggX4_pass_X4_leaveOut
set_option maxRecDepth 20000 in
theorem ggX4_pass_X4_talk : GoodIn wsX4_pass wsX4_talk := goodIn_r _ [20, 7, 2, 21, 22, 5, 23, 3, 4, 6, 24, 25, 26, 14, 27, 28, 29, 30, 31, 36, 37, 38, 39, 40, 41, 42, 43, 44] (by decide +kernel) (by decide +kernel)
set_option maxRecDepth 20000 in
theorem gX4_pass_X4_talk : GoodIn wsX4_pass (wsV RX4 69 RX4 yX4_talk wsX4_talk) := goodIn_app (goodIn_of _ (by decide +kernel)) ggX4_pass_X4_talk
set_option maxRecDepth 20000 in
theorem ggX4_pass_X4_isThere : GoodIn wsX4_pass wsX4_isThere := goodIn_r _ [31, 2, 36, 37, 38, 39, 40, 41, 42, 43, 44] (by decide +kernel) (by decide +kernel)
set_option maxRecDepth 20000 in
theorem gX4_pass_X4_isThere : GoodIn wsX4_pass (wsV RX4 52 RX4 yX4_isThere wsX4_isThere) := goodIn_app (goodIn_of _ (by decide +kernel)) ggX4_pass_X4_isThere
set_option maxRecDepth 20000 in
theorem ggX4_pass_X4_add : GoodIn wsX4_pass wsX4_add := goodIn_r _ [35, 2, 36, 37, 38, 39, 40, 41, 42, 43, 44] (by decide +kernel) (by decide +kernel)
set_option maxRecDepth 20000 in
theorem gX4_pass_X4_add : GoodIn wsX4_pass (wsV RX4 72 RX4 yX4_add wsX4_add) := goodIn_app (goodIn_of _ (by decide +kernel)) ggX4_pass_X4_add
