theorem dX3_turnsToNod_17 : decode cX3_turnsToNod 17 = .ok (.istore_n 2, 1) := by decide +kernel
theorem dX3_turnsToNod_18 : decode cX3_turnsToNod 18 = .ok (.iconst 0, 1) := by decide +kernel
theorem dX3_turnsToNod_19 : decode cX3_turnsToNod 19 = .ok (.istore_n 3, 1) := by decide +kernel
theorem dX3_turnsToNod_20 : decode cX3_turnsToNod 20 = .ok (.iload_n 2, 1) := by decide +kernel
theorem dX3_turnsToNod_21 : decode cX3_turnsToNod 21 = .ok (.iconst 2, 1) := by decide +kernel
theorem dX3_turnsToNod_22 : decode cX3_turnsToNod 22 = .ok (.if_icmp .lt 27, 3) := by decide +kernel
theorem dX3_turnsToNod_25 : decode cX3_turnsToNod 25 = .ok (.iload_n 3, 1) := by decide +kernel
theorem dX3_turnsToNod_26 : decode cX3_turnsToNod 26 = .ok (.bipush 99, 2) := by decide +kernel
theorem dX3_turnsToNod_28 : decode cX3_turnsToNod 28 = .ok (.if_icmp .ge 21, 3) := by decide +kernel
theorem dX3_turnsToNod_31 : decode cX3_turnsToNod 31 = .ok (.iload_n 2, 1) := by decide +kernel
theorem dX3_turnsToNod_32 : decode cX3_turnsToNod 32 = .ok (.aload_n 0, 1) := by decide +kernel
theorem dX3_turnsToNod_33 : decode cX3_turnsToNod 33 = .ok (.getfield 12, 3) := by decide +kernel
theorem dX3_turnsToNod_36 : decode cX3_turnsToNod 36 = .ok (.getfield 66, 3) := by decide +kernel
theorem dX3_turnsToNod_39 : decode cX3_turnsToNod 39 = .ok (.invokestatic 130, 3) := by decide +kernel
theorem dX3_turnsToNod_42 : decode cX3_turnsToNod 42 = .ok (.istore_n 2, 1) := by decide +kernel
theorem dX3_turnsToNod_43 : decode cX3_turnsToNod 43 = .ok (.iinc 3 1, 3) := by decide +kernel
theorem dX3_turnsToNod_46 : decode cX3_turnsToNod 46 = .ok (.goto (-26), 3) := by decide +kernel
theorem dX3_turnsToNod_49 : decode cX3_turnsToNod 49 = .ok (.iload_n 3, 1) := by decide +kernel
theorem dX3_turnsToNod_50 : decode cX3_turnsToNod 50 = .ok (.ireturn, 1) := by decide +kernel
theorem dX3_nods_0 : decode cX3_nods 0 = .ok (.aload_n 0, 1) := by decide +kernel
theorem dX3_nods_1 : decode cX3_nods 1 = .ok (.getfield 12, 3) := by decide +kernel
theorem dX3_nods_4 : decode cX3_nods 4 = .ok (.getfield 134, 3) := by decide +kernel
theorem dX3_nods_7 : decode cX3_nods 7 = .ok (.ireturn, 1) := by decide +kernel
theorem dX3_bottles_0 : decode cX3_bottles 0 = .ok (.aload_n 0, 1) := by decide +kernel
theorem dX3_bottles_1 : decode cX3_bottles 1 = .ok (.getfield 12, 3) := by decide +kernel
theorem dX3_bottles_4 : decode cX3_bottles 4 = .ok (.getfield 137, 3) := by decide +kernel
theorem dX3_bottles_7 : decode cX3_bottles 7 = .ok (.ireturn, 1) := by decide +kernel
theorem dX3_sieved_0 : decode cX3_sieved 0 = .ok (.aload_n 0, 1) := by decide +kernel
theorem dX3_sieved_1 : decode cX3_sieved 1 = .ok (.getfield 12, 3) := by decide +kernel
theorem dX3_sieved_4 : decode cX3_sieved 4 = .ok (.getfield 140, 3) := by decide +kernel
theorem dX3_sieved_7 : decode cX3_sieved 7 = .ok (.ireturn, 1) := by decide +kernel
theorem dX3_gear_0 : decode cX3_gear 0 = .ok (.aload_n 0, 1) := by decide +kernel
theorem dX3_gear_1 : decode cX3_gear 1 = .ok (.getfield 12, 3) := by decide +kernel
theorem dX3_gear_4 : decode cX3_gear 4 = .ok (.getfield 66, 3) := by decide +kernel
theorem dX3_gear_7 : decode cX3_gear 7 = .ok (.ireturn, 1) := by decide +kernel
theorem dX3_stones_0 : decode cX3_stones 0 = .ok (.aload_n 0, 1) := by decide +kernel
theorem dX3_stones_1 : decode cX3_stones 1 = .ok (.getfield 12, 3) := by decide +kernel
theorem dX3_stones_4 : decode cX3_stones 4 = .ok (.getfield 71, 3) := by decide +kernel
theorem dX3_stones_7 : decode cX3_stones 7 = .ok (.ireturn, 1) := by decide +kernel
theorem dX3_mesh_0 : decode cX3_mesh 0 = .ok (.aload_n 0, 1) := by decide +kernel
theorem dX3_mesh_1 : decode cX3_mesh 1 = .ok (.getfield 12, 3) := by decide +kernel
theorem dX3_mesh_4 : decode cX3_mesh 4 = .ok (.getfield 76, 3) := by decide +kernel
theorem dX3_mesh_7 : decode cX3_mesh 7 = .ok (.ireturn, 1) := by decide +kernel
theorem dX3_talkers_0 : decode cX3_talkers 0 = .ok (.aload_n 0, 1) := by decide +kernel
theorem dX3_talkers_1 : decode cX3_talkers 1 = .ok (.getfield 12, 3) := by decide +kernel
theorem dX3_talkers_4 : decode cX3_talkers 4 = .ok (.getfield 81, 3) := by decide +kernel
theorem dX3_talkers_7 : decode cX3_talkers 7 = .ok (.getfield 90, 3) := by decide +kernel
theorem dX3_talkers_10 : decode cX3_talkers 10 = .ok (.ireturn, 1) := by decide +kernel
set_option maxRecDepth 20000 in
theorem ggX3_present_X1_countPresent : GoodIn wsX3_present wsX1_countPresent := goodIn_r _ [7, 8, 9, 21, 22, 23, 24, 25, 26] (by decide +kernel) (by decide +kernel)
set_option maxRecDepth 20000 in
theorem gX3_present_X1_countPresent : GoodIn wsX3_present (wsV RX3 98 RX1 yX1_countPresent wsX1_countPresent) := goodIn_app (goodIn_of _ (by decide +kernel)) ggX3_present_X1_countPresent
theorem dX3_present_0 : decode cX3_present 0 = .ok (.aload_n 0, 1) := by decide +kernel
theorem dX3_present_1 : decode cX3_present 1 = .ok (.getfield 12, 3) := by decide +kernel
theorem dX3_present_4 : decode cX3_present 4 = .ok (.getfield 81, 3) := by decide +kernel
theorem dX3_present_7 : decode cX3_present 7 = .ok (.invokevirtual 98, 3) := by decide +kernel
theorem dX3_present_10 : decode cX3_present 10 = .ok (.ireturn, 1) := by decide +kernel
set_option maxRecDepth 20000 in
theorem ggX3_isPresent_X3_requireTalker : GoodIn wsX3_isPresent wsX3_requireTalker := goodIn_ca (goodIn_r _ [7, 8, 9, 1, 2, 10, 11, 12, 13, 14, 15, 22, 23, 24, 25, 26, 27, 28, 29, 30, 31, 32, 33, 34, 35, 36, 37, 38] (by decide +kernel) (by decide +kernel)) (goodIn_sub (fun _ h => List.mem_cons_of_mem _ (List.mem_append_right _ h)) (by decide +kernel))
set_option maxRecDepth 20000 in
theorem gX3_isPresent_X3_requireTalker : GoodIn wsX3_isPresent (wsV RX3 143 RX3 yX3_requireTalker wsX3_requireTalker) := goodIn_app (goodIn_of _ (by decide +kernel)) ggX3_isPresent_X3_requireTalker
set_option maxRecDepth 20000 in
theorem ggX3_isPresent_X1_isThere : GoodIn wsX3_isPresent wsX1_isThere := goodIn_r _ [19, 20, 21, 11, 12, 13, 14, 15, 33, 34, 35, 36, 37, 38] (by decide +kernel) (by decide +kernel)
set_option maxRecDepth 20000 in
theorem gX3_isPresent_X1_isThere : GoodIn wsX3_isPresent (wsV RX3 146 RX1 yX1_isThere wsX1_isThere) := goodIn_app (goodIn_of _ (by decide +kernel)) ggX3_isPresent_X1_isThere
theorem dX3_isPresent_0 : decode cX3_isPresent 0 = .ok (.aload_n 0, 1) := by decide +kernel
theorem dX3_isPresent_1 : decode cX3_isPresent 1 = .ok (.iload_n 1, 1) := by decide +kernel
theorem dX3_isPresent_2 : decode cX3_isPresent 2 = .ok (.invokevirtual 143, 3) := by decide +kernel
theorem dX3_isPresent_5 : decode cX3_isPresent 5 = .ok (.aload_n 0, 1) := by decide +kernel
theorem dX3_isPresent_6 : decode cX3_isPresent 6 = .ok (.getfield 12, 3) := by decide +kernel
theorem dX3_isPresent_9 : decode cX3_isPresent 9 = .ok (.getfield 81, 3) := by decide +kernel
theorem dX3_isPresent_12 : decode cX3_isPresent 12 = .ok (.iload_n 1, 1) := by decide +kernel
theorem dX3_isPresent_13 : decode cX3_isPresent 13 = .ok (.invokevirtual 146, 3) := by decide +kernel
theorem dX3_isPresent_16 : decode cX3_isPresent 16 = .ok (.ireturn, 1) := by decide +kernel
set_option maxRecDepth 20000 in
theorem ggX3_patienceOf_X3_requireTalker : GoodIn wsX3_patienceOf wsX3_requireTalker := goodIn_ca (goodIn_r _ [8, 9, 10, 1, 2, 11, 12, 13, 14, 15, 16, 17, 18, 19, 20, 21, 22, 23, 24, 25, 26, 27, 28, 29, 30, 31, 32, 33] (by decide +kernel) (by decide +kernel)) (goodIn_sub (fun _ h => List.mem_cons_of_mem _ (List.mem_append_right _ h)) (by decide +kernel))
set_option maxRecDepth 20000 in
theorem gX3_patienceOf_X3_requireTalker : GoodIn wsX3_patienceOf (wsV RX3 143 RX3 yX3_requireTalker wsX3_requireTalker) := goodIn_app (goodIn_of _ (by decide +kernel)) ggX3_patienceOf_X3_requireTalker
theorem dX3_patienceOf_0 : decode cX3_patienceOf 0 = .ok (.aload_n 0, 1) := by decide +kernel
theorem dX3_patienceOf_1 : decode cX3_patienceOf 1 = .ok (.iload_n 1, 1) := by decide +kernel
theorem dX3_patienceOf_2 : decode cX3_patienceOf 2 = .ok (.invokevirtual 143, 3) := by decide +kernel
theorem dX3_patienceOf_5 : decode cX3_patienceOf 5 = .ok (.aload_n 0, 1) := by decide +kernel
theorem dX3_patienceOf_6 : decode cX3_patienceOf 6 = .ok (.getfield 12, 3) := by decide +kernel
theorem dX3_patienceOf_9 : decode cX3_patienceOf 9 = .ok (.getfield 81, 3) := by decide +kernel
theorem dX3_patienceOf_12 : decode cX3_patienceOf 12 = .ok (.getfield 149, 3) := by decide +kernel
theorem dX3_patienceOf_15 : decode cX3_patienceOf 15 = .ok (.iload_n 1, 1) := by decide +kernel
theorem dX3_patienceOf_16 : decode cX3_patienceOf 16 = .ok (.iaload, 1) := by decide +kernel
theorem dX3_patienceOf_17 : decode cX3_patienceOf 17 = .ok (.ireturn, 1) := by decide +kernel
set_option maxRecDepth 20000 in
theorem ggX3_exitOf_X3_requireTalker : GoodIn wsX3_exitOf wsX3_requireTalker := goodIn_ca (goodIn_r _ [8, 9, 10, 1, 2, 11, 12, 13, 14, 15, 16, 17, 18, 19, 20, 21, 22, 23, 24, 25, 26, 27, 28, 29, 30, 31, 32, 33] (by decide +kernel) (by decide +kernel)) (goodIn_sub (fun _ h => List.mem_cons_of_mem _ (List.mem_append_right _ h)) (by decide +kernel))
set_option maxRecDepth 20000 in
theorem gX3_exitOf_X3_requireTalker : GoodIn wsX3_exitOf (wsV RX3 143 RX3 yX3_requireTalker wsX3_requireTalker) := goodIn_app (goodIn_of _ (by decide +kernel)) ggX3_exitOf_X3_requireTalker
theorem dX3_exitOf_0 : decode cX3_exitOf 0 = .ok (.aload_n 0, 1) := by decide +kernel
theorem dX3_exitOf_1 : decode cX3_exitOf 1 = .ok (.iload_n 1, 1) := by decide +kernel
theorem dX3_exitOf_2 : decode cX3_exitOf 2 = .ok (.invokevirtual 143, 3) := by decide +kernel
theorem dX3_exitOf_5 : decode cX3_exitOf 5 = .ok (.aload_n 0, 1) := by decide +kernel
theorem dX3_exitOf_6 : decode cX3_exitOf 6 = .ok (.getfield 12, 3) := by decide +kernel
theorem dX3_exitOf_9 : decode cX3_exitOf 9 = .ok (.getfield 81, 3) := by decide +kernel
theorem dX3_exitOf_12 : decode cX3_exitOf 12 = .ok (.getfield 152, 3) := by decide +kernel
theorem dX3_exitOf_15 : decode cX3_exitOf 15 = .ok (.iload_n 1, 1) := by decide +kernel
theorem dX3_exitOf_16 : decode cX3_exitOf 16 = .ok (.iaload, 1) := by decide +kernel
theorem dX3_exitOf_17 : decode cX3_exitOf 17 = .ok (.ireturn, 1) := by decide +kernel
set_option maxRecDepth 20000 in
theorem ggX3_nextToGo_X1_leastPatient : GoodIn wsX3_nextToGo wsX1_leastPatient := goodIn_r _ [7, 8, 9, 10, 22, 23, 24, 25, 26, 27] (by decide +kernel) (by decide +kernel)
set_option maxRecDepth 20000 in
theorem gX3_nextToGo_X1_leastPatient : GoodIn wsX3_nextToGo (wsV RX3 155 RX1 yX1_leastPatient wsX1_leastPatient) := goodIn_app (goodIn_of _ (by decide +kernel)) ggX3_nextToGo_X1_leastPatient
theorem dX3_nextToGo_0 : decode cX3_nextToGo 0 = .ok (.aload_n 0, 1) := by decide +kernel
theorem dX3_nextToGo_1 : decode cX3_nextToGo 1 = .ok (.getfield 12, 3) := by decide +kernel
theorem dX3_nextToGo_4 : decode cX3_nextToGo 4 = .ok (.getfield 81, 3) := by decide +kernel
theorem dX3_nextToGo_7 : decode cX3_nextToGo 7 = .ok (.invokevirtual 155, 3) := by decide +kernel
theorem dX3_nextToGo_10 : decode cX3_nextToGo 10 = .ok (.ireturn, 1) := by decide +kernel
set_option maxRecDepth 20000 in
theorem ggX3_noiseIn_X3_requireMinutes : GoodIn wsX3_noiseIn wsX3_requireMinutes := goodIn_ca (goodIn_r _ [7, 8, 9] (by decide +kernel) (by decide +kernel)) (goodIn_sub (fun _ h => List.mem_cons_of_mem _ (List.mem_append_right _ h)) (by decide +kernel))
set_option maxRecDepth 20000 in
theorem gX3_noiseIn_X3_requireMinutes : GoodIn wsX3_noiseIn (va_wsS RX3 95 yX3_requireMinutes wsX3_requireMinutes) := goodIn_app (goodIn_of _ (by decide +kernel)) ggX3_noiseIn_X3_requireMinutes
set_option maxRecDepth 20000 in
theorem ggX3_noiseIn_X2_copyFrom : GoodIn wsX3_noiseIn wsX2_copyFrom := goodIn_r _ [14, 15, 16, 17, 18, 19, 20, 21, 22, 23, 24, 25, 26, 27, 28, 29, 30, 31, 32, 33, 34, 35, 36, 37, 38, 39, 40, 41, 42, 93, 94, 95, 96, 97, 98, 99, 100, 101, 102, 103, 104, 105, 106, 107, 108, 109, 110] (by decide +kernel) (by decide +kernel)
set_option maxRecDepth 20000 in
theorem gX3_noiseIn_X2_copyFrom : GoodIn wsX3_noiseIn (wsV RX3 158 RX2 yX2_copyFrom wsX2_copyFrom) := goodIn_app (goodIn_of _ (by decide +kernel)) ggX3_noiseIn_X2_copyFrom
set_option maxRecDepth 20000 in
theorem ggX3_noiseIn_X2_letMinutesGo : GoodIn wsX3_noiseIn wsX2_letMinutesGo := goodIn_r _ [46, 47, 48, 49, 13, 50, 20, 15, 18, 17, 22, 19, 21, 16, 23, 51, 52, 53, 27, 54, 29, 31, 30, 55, 6, 56, 57, 58, 59, 60, 61, 62, 63, 64, 65, 66, 67, 35, 68, 37, 42, 41, 69, 70, 71, 72, 73, 74, 75, 76, 77, 78, 79, 40, 38, 39, 80, 81, 82, 83, 84, 85, 86, 87, 88, 89, 93, 94, 95, 96, 97, 98, 99, 100, 101, 102, 103, 104, 105, 106, 107, 108, 109, 110] (by decide +kernel) (by decide +kernel)
set_option maxRecDepth 20000 in
theorem gX3_noiseIn_X2_letMinutesGo : GoodIn wsX3_noiseIn (wsV RX3 102 RX2 yX2_letMinutesGo wsX2_letMinutesGo) := goodIn_app (goodIn_of _ (by decide +kernel)) ggX3_noiseIn_X2_letMinutesGo
set_option maxRecDepth 20000 in
theorem ggX3_noiseIn_X0_loudness : GoodIn wsX3_noiseIn wsX0_loudness := goodIn_r _ [64, 29, 31, 102, 103, 104] (by decide +kernel) (by decide +kernel)
set_option maxRecDepth 20000 in
theorem gX3_noiseIn_X0_loudness : GoodIn wsX3_noiseIn (wsV RX3 114 RX0 yX0_loudness wsX0_loudness) := goodIn_app (goodIn_of _ (by decide +kernel)) ggX3_noiseIn_X0_loudness
theorem dX3_noiseIn_0 : decode cX3_noiseIn 0 = .ok (.iload_n 1, 1) := by decide +kernel
theorem dX3_noiseIn_1 : decode cX3_noiseIn 1 = .ok (.invokestatic 95, 3) := by decide +kernel
theorem dX3_noiseIn_4 : decode cX3_noiseIn 4 = .ok (.aload_n 0, 1) := by decide +kernel
theorem dX3_noiseIn_5 : decode cX3_noiseIn 5 = .ok (.getfield 16, 3) := by decide +kernel
theorem dX3_noiseIn_8 : decode cX3_noiseIn 8 = .ok (.aload_n 0, 1) := by decide +kernel
theorem dX3_noiseIn_9 : decode cX3_noiseIn 9 = .ok (.getfield 12, 3) := by decide +kernel
theorem dX3_noiseIn_12 : decode cX3_noiseIn 12 = .ok (.invokevirtual 158, 3) := by decide +kernel
theorem dX3_noiseIn_15 : decode cX3_noiseIn 15 = .ok (.aload_n 0, 1) := by decide +kernel
theorem dX3_noiseIn_16 : decode cX3_noiseIn 16 = .ok (.getfield 16, 3) := by decide +kernel
theorem dX3_noiseIn_19 : decode cX3_noiseIn 19 = .ok (.iload_n 1, 1) := by decide +kernel
theorem dX3_noiseIn_20 : decode cX3_noiseIn 20 = .ok (.invokevirtual 102, 3) := by decide +kernel
theorem dX3_noiseIn_23 : decode cX3_noiseIn 23 = .ok (.aload_n 0, 1) := by decide +kernel
theorem dX3_noiseIn_24 : decode cX3_noiseIn 24 = .ok (.getfield 16, 3) := by decide +kernel
theorem dX3_noiseIn_27 : decode cX3_noiseIn 27 = .ok (.getfield 23, 3) := by decide +kernel
theorem dX3_noiseIn_30 : decode cX3_noiseIn 30 = .ok (.invokevirtual 114, 3) := by decide +kernel
theorem dX3_noiseIn_33 : decode cX3_noiseIn 33 = .ok (.ireturn, 1) := by decide +kernel
set_option maxRecDepth 20000 in
theorem ggX3_minutesUntilExit_X3_requireTalker : GoodIn wsX3_minutesUntilExit wsX3_requireTalker := goodIn_ca (goodIn_r _ [8, 9, 10, 2, 3, 11, 12, 13, 14, 15, 16, 96, 97, 98, 99, 100, 101, 102, 103, 104, 105, 106, 107, 108, 109, 110, 111, 112] (by decide +kernel) (by decide +kernel)) (goodIn_sub (fun _ h => List.mem_cons_of_mem _ (List.mem_append_right _ h)) (by decide +kernel))
set_option maxRecDepth 20000 in
theorem gX3_minutesUntilExit_X3_requireTalker : GoodIn wsX3_minutesUntilExit (wsV RX3 143 RX3 yX3_requireTalker wsX3_requireTalker) := goodIn_app (goodIn_of _ (by decide +kernel)) ggX3_minutesUntilExit_X3_requireTalker
set_option maxRecDepth 20000 in
theorem ggX3_minutesUntilExit_X2_copyFrom : GoodIn wsX3_minutesUntilExit wsX2_copyFrom := goodIn_r _ [21, 22, 23, 24, 25, 26, 27, 28, 29, 30, 31, 32, 33, 34, 35, 36, 37, 38, 39, 40, 41, 14, 42, 16, 43, 44, 45, 46, 47, 98, 99, 100, 101, 102, 103, 104, 105, 106, 113, 114, 115, 107, 108, 109, 110, 111, 112] (by decide +kernel) (by decide +kernel)
set_option maxRecDepth 20000 in
theorem gX3_minutesUntilExit_X2_copyFrom : GoodIn wsX3_minutesUntilExit (wsV RX3 158 RX2 yX2_copyFrom wsX2_copyFrom) := goodIn_app (goodIn_of _ (by decide +kernel)) ggX3_minutesUntilExit_X2_copyFrom
set_option maxRecDepth 20000 in
theorem ggX3_minutesUntilExit_X1_isThere : GoodIn wsX3_minutesUntilExit wsX1_isThere := goodIn_r _ [51, 47, 52, 12, 13, 14, 15, 16, 107, 108, 109, 110, 111, 112] (by decide +kernel) (by decide +kernel)
set_option maxRecDepth 20000 in
theorem gX3_minutesUntilExit_X1_isThere : GoodIn wsX3_minutesUntilExit (wsV RX3 146 RX1 yX1_isThere wsX1_isThere) := goodIn_app (goodIn_of _ (by decide +kernel)) ggX3_minutesUntilExit_X1_isThere
set_option maxRecDepth 20000 in
theorem ggX3_minutesUntilExit_X2_letMinuteGo : GoodIn wsX3_minutesUntilExit wsX2_letMinuteGo := goodIn_r _ [56, 27, 22, 25, 24, 29, 26, 28, 23, 30, 57, 58, 59, 34, 60, 36, 38, 37, 61, 7, 62, 63, 64, 65, 66, 67, 68, 69, 70, 71, 72, 73, 14, 74, 16, 47, 46, 75, 76, 77, 78, 79, 80, 81, 82, 83, 84, 85, 45, 43, 44, 86, 87, 88, 89, 90, 91, 92, 93, 94, 95, 98, 99, 100, 101, 102, 103, 104, 105, 106, 113, 114, 115, 107, 108, 109, 110, 111, 112] (by decide +kernel) (by decide +kernel)
set_option maxRecDepth 20000 in
theorem gX3_minutesUntilExit_X2_letMinuteGo : GoodIn wsX3_minutesUntilExit (wsV RX3 162 RX2 yX2_letMinuteGo wsX2_letMinuteGo) := goodIn_app (goodIn_of _ (by decide +kernel)) ggX3_minutesUntilExit_X2_letMinuteGo
theorem dX3_minutesUntilExit_0 : decode cX3_minutesUntilExit 0 = .ok (.aload_n 0, 1) := by decide +kernel
theorem dX3_minutesUntilExit_1 : decode cX3_minutesUntilExit 1 = .ok (.iload_n 1, 1) := by decide +kernel
theorem dX3_minutesUntilExit_2 : decode cX3_minutesUntilExit 2 = .ok (.invokevirtual 143, 3) := by decide +kernel
theorem dX3_minutesUntilExit_5 : decode cX3_minutesUntilExit 5 = .ok (.aload_n 0, 1) := by decide +kernel
theorem dX3_minutesUntilExit_6 : decode cX3_minutesUntilExit 6 = .ok (.getfield 16, 3) := by decide +kernel
theorem dX3_minutesUntilExit_9 : decode cX3_minutesUntilExit 9 = .ok (.aload_n 0, 1) := by decide +kernel
theorem dX3_minutesUntilExit_10 : decode cX3_minutesUntilExit 10 = .ok (.getfield 12, 3) := by decide +kernel
theorem dX3_minutesUntilExit_13 : decode cX3_minutesUntilExit 13 = .ok (.invokevirtual 158, 3) := by decide +kernel
theorem dX3_minutesUntilExit_16 : decode cX3_minutesUntilExit 16 = .ok (.iconst 0, 1) := by decide +kernel
theorem dX3_minutesUntilExit_17 : decode cX3_minutesUntilExit 17 = .ok (.istore_n 2, 1) := by decide +kernel
theorem dX3_minutesUntilExit_18 : decode cX3_minutesUntilExit 18 = .ok (.iload_n 2, 1) := by decide +kernel
theorem dX3_minutesUntilExit_19 : decode cX3_minutesUntilExit 19 = .ok (.bipush 100, 2) := by decide +kernel
theorem dX3_minutesUntilExit_21 : decode cX3_minutesUntilExit 21 = .ok (.if_icmp .gt 32, 3) := by decide +kernel
theorem dX3_minutesUntilExit_24 : decode cX3_minutesUntilExit 24 = .ok (.aload_n 0, 1) := by decide +kernel
theorem dX3_minutesUntilExit_25 : decode cX3_minutesUntilExit 25 = .ok (.getfield 16, 3) := by decide +kernel
theorem dX3_minutesUntilExit_28 : decode cX3_minutesUntilExit 28 = .ok (.getfield 81, 3) := by decide +kernel
theorem dX3_minutesUntilExit_31 : decode cX3_minutesUntilExit 31 = .ok (.iload_n 1, 1) := by decide +kernel
theorem dX3_minutesUntilExit_32 : decode cX3_minutesUntilExit 32 = .ok (.invokevirtual 146, 3) := by decide +kernel
theorem dX3_minutesUntilExit_35 : decode cX3_minutesUntilExit 35 = .ok (.ifCond .ne 5, 3) := by decide +kernel
theorem dX3_minutesUntilExit_38 : decode cX3_minutesUntilExit 38 = .ok (.iload_n 2, 1) := by decide +kernel
theorem dX3_minutesUntilExit_39 : decode cX3_minutesUntilExit 39 = .ok (.ireturn, 1) := by decide +kernel
theorem dX3_minutesUntilExit_40 : decode cX3_minutesUntilExit 40 = .ok (.aload_n 0, 1) := by decide +kernel
theorem dX3_minutesUntilExit_41 : decode cX3_minutesUntilExit 41 = .ok (.getfield 16, 3) := by decide +kernel
theorem dX3_minutesUntilExit_44 : decode cX3_minutesUntilExit 44 = .ok (.invokevirtual 162, 3) := by decide +kernel
theorem dX3_minutesUntilExit_47 : decode cX3_minutesUntilExit 47 = .ok (.iinc 2 1, 3) := by decide +kernel
theorem dX3_minutesUntilExit_50 : decode cX3_minutesUntilExit 50 = .ok (.goto (-32), 3) := by decide +kernel
theorem dX3_minutesUntilExit_53 : decode cX3_minutesUntilExit 53 = .ok (.iconst (-1), 1) := by decide +kernel
theorem dX3_minutesUntilExit_54 : decode cX3_minutesUntilExit 54 = .ok (.ireturn, 1) := by decide +kernel
set_option maxRecDepth 20000 in
theorem ggX3_bestGear_X2_copyFrom : GoodIn wsX3_bestGear wsX2_copyFrom := goodIn_r _ [9, 10, 11, 12, 13, 14, 15, 16, 17, 18, 19, 20, 21, 22, 23, 24, 25, 26, 27, 28, 29, 30, 31, 32, 33, 34, 35, 36, 37, 89, 90, 91, 92, 93, 94, 95, 96, 97, 98, 99, 100, 101, 102, 103, 104, 105, 106] (by decide +kernel) (by decide +kernel)
set_option maxRecDepth 20000 in
theorem gX3_bestGear_X2_copyFrom : GoodIn wsX3_bestGear (wsV RX3 158 RX2 yX2_copyFrom wsX2_copyFrom) := goodIn_app (goodIn_of _ (by decide +kernel)) ggX3_bestGear_X2_copyFrom
set_option maxRecDepth 20000 in
theorem ggX3_bestGear_X2_letMinutesGo : GoodIn wsX3_bestGear wsX2_letMinutesGo := goodIn_r _ [41, 42, 43, 44, 8, 45, 15, 10, 13, 12, 17, 14, 16, 11, 18, 46, 47, 48, 22, 49, 24, 26, 25, 50, 51, 52, 53, 54, 55, 56, 57, 58, 59, 60, 61, 62, 63, 30, 64, 32, 37, 36, 65, 66, 67, 68, 69, 70, 71, 72, 73, 74, 75, 35, 33, 34, 76, 77, 78, 79, 80, 81, 82, 83, 84, 85, 89, 90, 91, 92, 93, 94, 95, 96, 97, 98, 99, 100, 101, 102, 103, 104, 105, 106] (by decide +kernel) (by decide +kernel)
set_option maxRecDepth 20000 in
theorem gX3_bestGear_X2_letMinutesGo : GoodIn wsX3_bestGear (wsV RX3 102 RX2 yX2_letMinutesGo wsX2_letMinutesGo) := goodIn_app (goodIn_of _ (by decide +kernel)) ggX3_bestGear_X2_letMinutesGo
set_option maxRecDepth 20000 in
theorem ggX3_bestGear_X0_loudness : GoodIn wsX3_bestGear wsX0_loudness := goodIn_r _ [60, 24, 26, 98, 99, 100] (by decide +kernel) (by decide +kernel)
set_option maxRecDepth 20000 in
theorem gX3_bestGear_X0_loudness : GoodIn wsX3_bestGear (wsV RX3 114 RX0 yX0_loudness wsX0_loudness) := goodIn_app (goodIn_of _ (by decide +kernel)) ggX3_bestGear_X0_loudness
theorem dX3_bestGear_0 : decode cX3_bestGear 0 = .ok (.iconst 2, 1) := by decide +kernel
theorem dX3_bestGear_1 : decode cX3_bestGear 1 = .ok (.istore_n 1, 1) := by decide +kernel
theorem dX3_bestGear_2 : decode cX3_bestGear 2 = .ok (.sipush 1189, 3) := by decide +kernel
theorem dX3_bestGear_5 : decode cX3_bestGear 5 = .ok (.istore_n 2, 1) := by decide +kernel
theorem dX3_bestGear_6 : decode cX3_bestGear 6 = .ok (.iconst 2, 1) := by decide +kernel
theorem dX3_bestGear_7 : decode cX3_bestGear 7 = .ok (.istore_n 3, 1) := by decide +kernel
theorem dX3_bestGear_8 : decode cX3_bestGear 8 = .ok (.iload_n 3, 1) := by decide +kernel
theorem dX3_bestGear_9 : decode cX3_bestGear 9 = .ok (.bipush 9, 2) := by decide +kernel
theorem dX3_bestGear_11 : decode cX3_bestGear 11 = .ok (.if_icmp .gt 60, 3) := by decide +kernel
theorem dX3_bestGear_14 : decode cX3_bestGear 14 = .ok (.aload_n 0, 1) := by decide +kernel
theorem dX3_bestGear_15 : decode cX3_bestGear 15 = .ok (.getfield 16, 3) := by decide +kernel
theorem dX3_bestGear_18 : decode cX3_bestGear 18 = .ok (.aload_n 0, 1) := by decide +kernel
theorem dX3_bestGear_19 : decode cX3_bestGear 19 = .ok (.getfield 12, 3) := by decide +kernel
theorem dX3_bestGear_22 : decode cX3_bestGear 22 = .ok (.invokevirtual 158, 3) := by decide +kernel
theorem dX3_bestGear_25 : decode cX3_bestGear 25 = .ok (.aload_n 0, 1) := by decide +kernel
theorem dX3_bestGear_26 : decode cX3_bestGear 26 = .ok (.getfield 16, 3) := by decide +kernel
theorem dX3_bestGear_29 : decode cX3_bestGear 29 = .ok (.iload_n 3, 1) := by decide +kernel
theorem dX3_bestGear_30 : decode cX3_bestGear 30 = .ok (.putfield 66, 3) := by decide +kernel
theorem dX3_bestGear_33 : decode cX3_bestGear 33 = .ok (.aload_n 0, 1) := by decide +kernel
theorem dX3_bestGear_34 : decode cX3_bestGear 34 = .ok (.getfield 16, 3) := by decide +kernel
theorem dX3_bestGear_37 : decode cX3_bestGear 37 = .ok (.bipush 10, 2) := by decide +kernel
theorem dX3_bestGear_39 : decode cX3_bestGear 39 = .ok (.invokevirtual 102, 3) := by decide +kernel
theorem dX3_bestGear_42 : decode cX3_bestGear 42 = .ok (.aload_n 0, 1) := by decide +kernel
theorem dX3_bestGear_43 : decode cX3_bestGear 43 = .ok (.getfield 16, 3) := by decide +kernel
theorem dX3_bestGear_46 : decode cX3_bestGear 46 = .ok (.getfield 23, 3) := by decide +kernel
theorem dX3_bestGear_49 : decode cX3_bestGear 49 = .ok (.invokevirtual 114, 3) := by decide +kernel
theorem dX3_bestGear_52 : decode cX3_bestGear 52 = .ok (.istore 4, 2) := by decide +kernel
theorem dX3_bestGear_54 : decode cX3_bestGear 54 = .ok (.iload 4, 2) := by decide +kernel
theorem dX3_bestGear_56 : decode cX3_bestGear 56 = .ok (.iload_n 2, 1) := by decide +kernel
theorem dX3_bestGear_57 : decode cX3_bestGear 57 = .ok (.if_icmp .ge 8, 3) := by decide +kernel
theorem dX3_bestGear_60 : decode cX3_bestGear 60 = .ok (.iload 4, 2) := by decide +kernel
theorem dX3_bestGear_62 : decode cX3_bestGear 62 = .ok (.istore_n 2, 1) := by decide +kernel
theorem dX3_bestGear_63 : decode cX3_bestGear 63 = .ok (.iload_n 3, 1) := by decide +kernel
theorem dX3_bestGear_64 : decode cX3_bestGear 64 = .ok (.istore_n 1, 1) := by decide +kernel
theorem dX3_bestGear_65 : decode cX3_bestGear 65 = .ok (.iinc 3 1, 3) := by decide +kernel
theorem dX3_bestGear_68 : decode cX3_bestGear 68 = .ok (.goto (-60), 3) := by decide +kernel
theorem dX3_bestGear_71 : decode cX3_bestGear 71 = .ok (.iload_n 1, 1) := by decide +kernel
theorem dX3_bestGear_72 : decode cX3_bestGear 72 = .ok (.ireturn, 1) := by decide +kernel
set_option maxRecDepth 20000 in
theorem ggX3_bestPush_X2_copyFrom : GoodIn wsX3_bestPush wsX2_copyFrom := goodIn_r _ [9, 10, 11, 12, 13, 14, 15, 16, 17, 18, 19, 20, 21, 22, 23, 24, 25, 26, 27, 28, 29, 30, 31, 32, 33, 34, 35, 36, 37, 97, 98, 99, 100, 101, 102, 103, 104, 105, 106, 107, 108, 109, 110, 111, 112, 113, 114] (by decide +kernel) (by decide +kernel)
set_option maxRecDepth 20000 in
theorem gX3_bestPush_X2_copyFrom : GoodIn wsX3_bestPush (wsV RX3 158 RX2 yX2_copyFrom wsX2_copyFrom) := goodIn_app (goodIn_of _ (by decide +kernel)) ggX3_bestPush_X2_copyFrom
set_option maxRecDepth 20000 in
theorem ggX3_bestPush_X0_moveToFront : GoodIn wsX3_bestPush wsX0_moveToFront := goodIn_r _ [41, 25, 26, 42, 43, 44, 22, 45, 24, 106, 107, 108] (by decide +kernel) (by decide +kernel)
set_option maxRecDepth 20000 in
theorem gX3_bestPush_X0_moveToFront : GoodIn wsX3_bestPush (wsV RX3 55 RX0 yX0_moveToFront wsX0_moveToFront) := goodIn_app (goodIn_of _ (by decide +kernel)) ggX3_bestPush_X0_moveToFront
set_option maxRecDepth 20000 in
theorem ggX3_bestPush_X2_letMinutesGo : GoodIn wsX3_bestPush wsX2_letMinutesGo := goodIn_r _ [49, 50, 51, 52, 8, 53, 15, 10, 13, 12, 17, 14, 16, 11, 18, 54, 55, 56, 22, 57, 24, 26, 25, 58, 59, 60, 61, 62, 63, 64, 65, 66, 67, 68, 69, 70, 71, 30, 72, 32, 37, 36, 73, 74, 75, 76, 77, 78, 79, 80, 81, 82, 83, 35, 33, 34, 84, 85, 86, 87, 88, 89, 90, 91, 92, 93, 97, 98, 99, 100, 101, 102, 103, 104, 105, 106, 107, 108, 109, 110, 111, 112, 113, 114] (by decide +kernel) (by decide +kernel)
set_option maxRecDepth 20000 in
theorem gX3_bestPush_X2_letMinutesGo : GoodIn wsX3_bestPush (wsV RX3 102 RX2 yX2_letMinutesGo wsX2_letMinutesGo) := goodIn_app (goodIn_of _ (by decide +kernel)) ggX3_bestPush_X2_letMinutesGo
set_option maxRecDepth 20000 in
theorem ggX3_bestPush_X0_loudness : GoodIn wsX3_bestPush wsX0_loudness := goodIn_r _ [68, 24, 26, 106, 107, 108] (by decide +kernel) (by decide +kernel)
set_option maxRecDepth 20000 in
theorem gX3_bestPush_X0_loudness : GoodIn wsX3_bestPush (wsV RX3 114 RX0 yX0_loudness wsX0_loudness) := goodIn_app (goodIn_of _ (by decide +kernel)) ggX3_bestPush_X0_loudness
theorem dX3_bestPush_0 : decode cX3_bestPush 0 = .ok (.iconst (-1), 1) := by decide +kernel
theorem dX3_bestPush_1 : decode cX3_bestPush 1 = .ok (.istore_n 1, 1) := by decide +kernel
theorem dX3_bestPush_2 : decode cX3_bestPush 2 = .ok (.sipush 1189, 3) := by decide +kernel
theorem dX3_bestPush_5 : decode cX3_bestPush 5 = .ok (.istore_n 2, 1) := by decide +kernel
theorem dX3_bestPush_6 : decode cX3_bestPush 6 = .ok (.iconst 0, 1) := by decide +kernel
theorem dX3_bestPush_7 : decode cX3_bestPush 7 = .ok (.istore_n 3, 1) := by decide +kernel
theorem dX3_bestPush_8 : decode cX3_bestPush 8 = .ok (.iload_n 3, 1) := by decide +kernel
theorem dX3_bestPush_9 : decode cX3_bestPush 9 = .ok (.aload_n 0, 1) := by decide +kernel
theorem dX3_bestPush_10 : decode cX3_bestPush 10 = .ok (.getfield 12, 3) := by decide +kernel
theorem dX3_bestPush_13 : decode cX3_bestPush 13 = .ok (.getfield 23, 3) := by decide +kernel
theorem dX3_bestPush_16 : decode cX3_bestPush 16 = .ok (.getfield 40, 3) := by decide +kernel
theorem dX3_bestPush_19 : decode cX3_bestPush 19 = .ok (.if_icmp .ge 62, 3) := by decide +kernel
theorem dX3_bestPush_22 : decode cX3_bestPush 22 = .ok (.aload_n 0, 1) := by decide +kernel
theorem dX3_bestPush_23 : decode cX3_bestPush 23 = .ok (.getfield 16, 3) := by decide +kernel
theorem dX3_bestPush_26 : decode cX3_bestPush 26 = .ok (.aload_n 0, 1) := by decide +kernel
theorem dX3_bestPush_27 : decode cX3_bestPush 27 = .ok (.getfield 12, 3) := by decide +kernel
theorem dX3_bestPush_30 : decode cX3_bestPush 30 = .ok (.invokevirtual 158, 3) := by decide +kernel
theorem dX3_bestPush_33 : decode cX3_bestPush 33 = .ok (.aload_n 0, 1) := by decide +kernel
theorem dX3_bestPush_34 : decode cX3_bestPush 34 = .ok (.getfield 16, 3) := by decide +kernel
theorem dX3_bestPush_37 : decode cX3_bestPush 37 = .ok (.getfield 23, 3) := by decide +kernel
theorem dX3_bestPush_40 : decode cX3_bestPush 40 = .ok (.iload_n 3, 1) := by decide +kernel
theorem dX3_bestPush_41 : decode cX3_bestPush 41 = .ok (.invokevirtual 55, 3) := by decide +kernel
theorem dX3_bestPush_44 : decode cX3_bestPush 44 = .ok (.aload_n 0, 1) := by decide +kernel
theorem dX3_bestPush_45 : decode cX3_bestPush 45 = .ok (.getfield 16, 3) := by decide +kernel
theorem dX3_bestPush_48 : decode cX3_bestPush 48 = .ok (.iconst 5, 1) := by decide +kernel
theorem dX3_bestPush_49 : decode cX3_bestPush 49 = .ok (.invokevirtual 102, 3) := by decide +kernel
theorem dX3_bestPush_52 : decode cX3_bestPush 52 = .ok (.aload_n 0, 1) := by decide +kernel
theorem dX3_bestPush_53 : decode cX3_bestPush 53 = .ok (.getfield 16, 3) := by decide +kernel
theorem dX3_bestPush_56 : decode cX3_bestPush 56 = .ok (.getfield 23, 3) := by decide +kernel
theorem dX3_bestPush_59 : decode cX3_bestPush 59 = .ok (.invokevirtual 114, 3) := by decide +kernel
theorem dX3_bestPush_62 : decode cX3_bestPush 62 = .ok (.istore 4, 2) := by decide +kernel
theorem dX3_bestPush_64 : decode cX3_bestPush 64 = .ok (.iload 4, 2) := by decide +kernel
theorem dX3_bestPush_66 : decode cX3_bestPush 66 = .ok (.iload_n 2, 1) := by decide +kernel
theorem dX3_bestPush_67 : decode cX3_bestPush 67 = .ok (.if_icmp .ge 8, 3) := by decide +kernel
theorem dX3_bestPush_70 : decode cX3_bestPush 70 = .ok (.iload 4, 2) := by decide +kernel
theorem dX3_bestPush_72 : decode cX3_bestPush 72 = .ok (.istore_n 2, 1) := by decide +kernel
theorem dX3_bestPush_73 : decode cX3_bestPush 73 = .ok (.iload_n 3, 1) := by decide +kernel
theorem dX3_bestPush_74 : decode cX3_bestPush 74 = .ok (.istore_n 1, 1) := by decide +kernel
theorem dX3_bestPush_75 : decode cX3_bestPush 75 = .ok (.iinc 3 1, 3) := by decide +kernel
theorem dX3_bestPush_78 : decode cX3_bestPush 78 = .ok (.goto (-70), 3) := by decide +kernel
theorem dX3_bestPush_81 : decode cX3_bestPush 81 = .ok (.iload_n 1, 1) := by decide +kernel
theorem dX3_bestPush_82 : decode cX3_bestPush 82 = .ok (.ireturn, 1) := by decide +kernel
set_option maxRecDepth 20000 in
theorem ggX3_bottlesIn_X3_requireMinutes : GoodIn wsX3_bottlesIn wsX3_requireMinutes := goodIn_ca (goodIn_r _ [7, 8, 9] (by decide +kernel) (by decide +kernel)) (goodIn_sub (fun _ h => List.mem_cons_of_mem _ (List.mem_append_right _ h)) (by decide +kernel))
set_option maxRecDepth 20000 in
theorem gX3_bottlesIn_X3_requireMinutes : GoodIn wsX3_bottlesIn (va_wsS RX3 95 yX3_requireMinutes wsX3_requireMinutes) := goodIn_app (goodIn_of _ (by decide +kernel)) ggX3_bottlesIn_X3_requireMinutes
set_option maxRecDepth 20000 in
theorem ggX3_bottlesIn_X2_copyFrom : GoodIn wsX3_bottlesIn wsX2_copyFrom := goodIn_r _ [14, 15, 16, 17, 18, 19, 20, 21, 22, 23, 24, 25, 26, 27, 28, 29, 30, 31, 32, 33, 34, 35, 36, 37, 38, 39, 40, 41, 42, 92, 93, 94, 95, 96, 97, 98, 99, 100, 101, 102, 103, 104, 105, 106, 107, 108, 109] (by decide +kernel) (by decide +kernel)
set_option maxRecDepth 20000 in
theorem gX3_bottlesIn_X2_copyFrom : GoodIn wsX3_bottlesIn (wsV RX3 158 RX2 yX2_copyFrom wsX2_copyFrom) := goodIn_app (goodIn_of _ (by decide +kernel)) ggX3_bottlesIn_X2_copyFrom
set_option maxRecDepth 20000 in
theorem ggX3_bottlesIn_X2_letMinutesGo : GoodIn wsX3_bottlesIn wsX2_letMinutesGo := goodIn_r _ [46, 47, 48, 49, 13, 50, 20, 15, 18, 17, 22, 19, 21, 16, 23, 51, 52, 53, 27, 54, 29, 31, 30, 55, 6, 56, 57, 58, 59, 60, 61, 62, 63, 64, 65, 66, 67, 35, 68, 37, 42, 41, 69, 70, 71, 72, 73, 74, 75, 76, 77, 78, 79, 40, 38, 39, 80, 81, 82, 83, 84, 85, 86, 87, 88, 89, 92, 93, 94, 95, 96, 97, 98, 99, 100, 101, 102, 103, 104, 105, 106, 107, 108, 109] (by decide +kernel) (by decide +kernel)
set_option maxRecDepth 20000 in
theorem gX3_bottlesIn_X2_letMinutesGo : GoodIn wsX3_bottlesIn (wsV RX3 102 RX2 yX2_letMinutesGo wsX2_letMinutesGo) := goodIn_app (goodIn_of _ (by decide +kernel)) ggX3_bottlesIn_X2_letMinutesGo
theorem dX3_bottlesIn_0 : decode cX3_bottlesIn 0 = .ok (.iload_n 1, 1) := by decide +kernel
theorem dX3_bottlesIn_1 : decode cX3_bottlesIn 1 = .ok (.invokestatic 95, 3) := by decide +kernel
theorem dX3_bottlesIn_4 : decode cX3_bottlesIn 4 = .ok (.aload_n 0, 1) := by decide +kernel
theorem dX3_bottlesIn_5 : decode cX3_bottlesIn 5 = .ok (.getfield 16, 3) := by decide +kernel
theorem dX3_bottlesIn_8 : decode cX3_bottlesIn 8 = .ok (.aload_n 0, 1) := by decide +kernel
theorem dX3_bottlesIn_9 : decode cX3_bottlesIn 9 = .ok (.getfield 12, 3) := by decide +kernel
theorem dX3_bottlesIn_12 : decode cX3_bottlesIn 12 = .ok (.invokevirtual 158, 3) := by decide +kernel
theorem dX3_bottlesIn_15 : decode cX3_bottlesIn 15 = .ok (.aload_n 0, 1) := by decide +kernel
theorem dX3_bottlesIn_16 : decode cX3_bottlesIn 16 = .ok (.getfield 16, 3) := by decide +kernel
theorem dX3_bottlesIn_19 : decode cX3_bottlesIn 19 = .ok (.iload_n 1, 1) := by decide +kernel
theorem dX3_bottlesIn_20 : decode cX3_bottlesIn 20 = .ok (.invokevirtual 102, 3) := by decide +kernel
theorem dX3_bottlesIn_23 : decode cX3_bottlesIn 23 = .ok (.aload_n 0, 1) := by decide +kernel
theorem dX3_bottlesIn_24 : decode cX3_bottlesIn 24 = .ok (.getfield 16, 3) := by decide +kernel
theorem dX3_bottlesIn_27 : decode cX3_bottlesIn 27 = .ok (.getfield 137, 3) := by decide +kernel
theorem dX3_bottlesIn_30 : decode cX3_bottlesIn 30 = .ok (.ireturn, 1) := by decide +kernel
set_option maxRecDepth 20000 in
theorem ggX3_meanPatience_X1_countPresent : GoodIn wsX3_meanPatience wsX1_countPresent := goodIn_r _ [7, 8, 9, 26, 27, 28, 29, 30, 31] (by decide +kernel) (by decide +kernel)
set_option maxRecDepth 20000 in
theorem gX3_meanPatience_X1_countPresent : GoodIn wsX3_meanPatience (wsV RX3 98 RX1 yX1_countPresent wsX1_countPresent) := goodIn_app (goodIn_of _ (by decide +kernel)) ggX3_meanPatience_X1_countPresent
set_option maxRecDepth 20000 in
theorem ggX3_meanPatience_X1_patienceInAll : GoodIn wsX3_meanPatience wsX1_patienceInAll := goodIn_r _ [13, 8, 9, 14, 26, 27, 28, 29, 30, 31] (by decide +kernel) (by decide +kernel)
set_option maxRecDepth 20000 in
theorem gX3_meanPatience_X1_patienceInAll : GoodIn wsX3_meanPatience (wsV RX3 165 RX1 yX1_patienceInAll wsX1_patienceInAll) := goodIn_app (goodIn_of _ (by decide +kernel)) ggX3_meanPatience_X1_patienceInAll
theorem dX3_meanPatience_0 : decode cX3_meanPatience 0 = .ok (.aload_n 0, 1) := by decide +kernel
theorem dX3_meanPatience_1 : decode cX3_meanPatience 1 = .ok (.getfield 12, 3) := by decide +kernel
theorem dX3_meanPatience_4 : decode cX3_meanPatience 4 = .ok (.getfield 81, 3) := by decide +kernel
theorem dX3_meanPatience_7 : decode cX3_meanPatience 7 = .ok (.invokevirtual 98, 3) := by decide +kernel
theorem dX3_meanPatience_10 : decode cX3_meanPatience 10 = .ok (.istore_n 1, 1) := by decide +kernel
theorem dX3_meanPatience_11 : decode cX3_meanPatience 11 = .ok (.iload_n 1, 1) := by decide +kernel
theorem dX3_meanPatience_12 : decode cX3_meanPatience 12 = .ok (.ifCond .ne 5, 3) := by decide +kernel
theorem dX3_meanPatience_15 : decode cX3_meanPatience 15 = .ok (.dconst 0, 1) := by decide +kernel
theorem dX3_meanPatience_16 : decode cX3_meanPatience 16 = .ok (.dreturn, 1) := by decide +kernel
theorem dX3_meanPatience_17 : decode cX3_meanPatience 17 = .ok (.aload_n 0, 1) := by decide +kernel
theorem dX3_meanPatience_18 : decode cX3_meanPatience 18 = .ok (.getfield 12, 3) := by decide +kernel
theorem dX3_meanPatience_21 : decode cX3_meanPatience 21 = .ok (.getfield 81, 3) := by decide +kernel
theorem dX3_meanPatience_24 : decode cX3_meanPatience 24 = .ok (.invokevirtual 165, 3) := by decide +kernel
theorem dX3_meanPatience_27 : decode cX3_meanPatience 27 = .ok (.i2d, 1) := by decide +kernel
theorem dX3_meanPatience_28 : decode cX3_meanPatience 28 = .ok (.iload_n 1, 1) := by decide +kernel
theorem dX3_meanPatience_29 : decode cX3_meanPatience 29 = .ok (.i2d, 1) := by decide +kernel
theorem dX3_meanPatience_30 : decode cX3_meanPatience 30 = .ok (.ddiv, 1) := by decide +kernel
theorem dX3_meanPatience_31 : decode cX3_meanPatience 31 = .ok (.dreturn, 1) := by decide +kernel
set_option maxRecDepth 20000 in
theorem ggX3_digest_X3_minute : GoodIn wsX3_digest wsX3_minute := goodIn_r _ [6, 7, 8, 185, 186, 187, 188, 189, 190, 191, 192, 193, 194, 195] (by decide +kernel) (by decide +kernel)
set_option maxRecDepth 20000 in
theorem gX3_digest_X3_minute : GoodIn wsX3_digest (wsV RX3 170 RX3 yX3_minute wsX3_minute) := goodIn_app (goodIn_of _ (by decide +kernel)) ggX3_digest_X3_minute
set_option maxRecDepth 20000 in
theorem ggX3_digest_X3_mixed : GoodIn wsX3_digest wsX3_mixed := goodIn_r _ [11, 12] (by decide +kernel) (by decide +kernel)
set_option maxRecDepth 20000 in
theorem gX3_digest_X3_mixed : GoodIn wsX3_digest (va_wsS RX3 172 yX3_mixed wsX3_mixed) := goodIn_app (goodIn_of _ (by decide +kernel)) ggX3_digest_X3_mixed
set_option maxRecDepth 20000 in
theorem ggX3_digest_X3_topics : GoodIn wsX3_digest wsX3_topics := goodIn_r _ [16, 7, 17, 18, 185, 186, 187, 188, 189, 190, 191, 192, 193, 194, 195, 196, 197, 198] (by decide +kernel) (by decide +kernel)
set_option maxRecDepth 20000 in
theorem gX3_digest_X3_topics : GoodIn wsX3_digest (wsV RX3 176 RX3 yX3_topics wsX3_topics) := goodIn_app (goodIn_of _ (by decide +kernel)) ggX3_digest_X3_topics
set_option maxRecDepth 20000 in
theorem ggX3_digest_X3_noise : GoodIn wsX3_digest wsX3_noise := goodIn_r _ [22, 7, 17, 23, 24, 25, 26, 27, 28, 29, 185, 186, 187, 188, 189, 190, 191, 192, 193, 194, 195, 196, 197, 198] (by decide +kernel) (by decide +kernel)
set_option maxRecDepth 20000 in
theorem gX3_digest_X3_noise : GoodIn wsX3_digest (wsV RX3 179 RX3 yX3_noise wsX3_noise) := goodIn_app (goodIn_of _ (by decide +kernel)) ggX3_digest_X3_noise
set_option maxRecDepth 20000 in
theorem ggX3_digest_X3_nods : GoodIn wsX3_digest wsX3_nods := goodIn_r _ [33, 7, 34, 185, 186, 187, 188, 189, 190, 191, 192, 193, 194, 195] (by decide +kernel) (by decide +kernel)
set_option maxRecDepth 20000 in
theorem gX3_digest_X3_nods : GoodIn wsX3_digest (wsV RX3 182 RX3 yX3_nods wsX3_nods) := goodIn_app (goodIn_of _ (by decide +kernel)) ggX3_digest_X3_nods
set_option maxRecDepth 20000 in
theorem ggX3_digest_X3_bottles : GoodIn wsX3_digest wsX3_bottles := goodIn_r _ [38, 7, 39, 185, 186, 187, 188, 189, 190, 191, 192, 193, 194, 195] (by decide +kernel) (by decide +kernel)
set_option maxRecDepth 20000 in
theorem gX3_digest_X3_bottles : GoodIn wsX3_digest (wsV RX3 184 RX3 yX3_bottles wsX3_bottles) := goodIn_app (goodIn_of _ (by decide +kernel)) ggX3_digest_X3_bottles
set_option maxRecDepth 20000 in
theorem ggX3_digest_X3_sieved : GoodIn wsX3_digest wsX3_sieved := goodIn_r _ [43, 7, 44, 185, 186, 187, 188, 189, 190, 191, 192, 193, 194, 195] (by decide +kernel) (by decide +kernel)
set_option maxRecDepth 20000 in
theorem gX3_digest_X3_sieved : GoodIn wsX3_digest (wsV RX3 186 RX3 yX3_sieved wsX3_sieved) := goodIn_app (goodIn_of _ (by decide +kernel)) ggX3_digest_X3_sieved
set_option maxRecDepth 20000 in
theorem ggX3_digest_X3_gear : GoodIn wsX3_digest wsX3_gear := goodIn_r _ [48, 7, 49, 185, 186, 187, 188, 189, 190, 191, 192, 193, 194, 195] (by decide +kernel) (by decide +kernel)
set_option maxRecDepth 20000 in
theorem gX3_digest_X3_gear : GoodIn wsX3_digest (wsV RX3 188 RX3 yX3_gear wsX3_gear) := goodIn_app (goodIn_of _ (by decide +kernel)) ggX3_digest_X3_gear
set_option maxRecDepth 20000 in
theorem ggX3_digest_X3_stones : GoodIn wsX3_digest wsX3_stones := goodIn_r _ [53, 7, 54, 185, 186, 187, 188, 189, 190, 191, 192, 193, 194, 195] (by decide +kernel) (by decide +kernel)
set_option maxRecDepth 20000 in
theorem gX3_digest_X3_stones : GoodIn wsX3_digest (wsV RX3 190 RX3 yX3_stones wsX3_stones) := goodIn_app (goodIn_of _ (by decide +kernel)) ggX3_digest_X3_stones
set_option maxRecDepth 20000 in
theorem ggX3_digest_X3_mesh : GoodIn wsX3_digest wsX3_mesh := goodIn_r _ [58, 7, 59, 185, 186, 187, 188, 189, 190, 191, 192, 193, 194, 195] (by decide +kernel) (by decide +kernel)
set_option maxRecDepth 20000 in
theorem gX3_digest_X3_mesh : GoodIn wsX3_digest (wsV RX3 192 RX3 yX3_mesh wsX3_mesh) := goodIn_app (goodIn_of _ (by decide +kernel)) ggX3_digest_X3_mesh
set_option maxRecDepth 20000 in
theorem ggX3_digest_X3_talkers : GoodIn wsX3_digest wsX3_talkers := goodIn_r _ [63, 7, 64, 65, 185, 186, 187, 188, 189, 190, 191, 192, 193, 194, 195, 199, 200, 201, 202, 203, 204] (by decide +kernel) (by decide +kernel)
set_option maxRecDepth 20000 in
theorem gX3_digest_X3_talkers : GoodIn wsX3_digest (wsV RX3 194 RX3 yX3_talkers wsX3_talkers) := goodIn_app (goodIn_of _ (by decide +kernel)) ggX3_digest_X3_talkers
set_option maxRecDepth 20000 in
theorem ggX3_digest_X3_present : GoodIn wsX3_digest wsX3_present := goodIn_r _ [69, 7, 64, 70, 71, 72, 73, 74, 75, 76, 185, 186, 187, 188, 189, 190, 191, 192, 193, 194, 195, 199, 200, 201, 202, 203, 204] (by decide +kernel) (by decide +kernel)
set_option maxRecDepth 20000 in
theorem gX3_digest_X3_present : GoodIn wsX3_digest (wsV RX3 197 RX3 yX3_present wsX3_present) := goodIn_app (goodIn_of _ (by decide +kernel)) ggX3_digest_X3_present
set_option maxRecDepth 20000 in
theorem ggX3_digest_X3_bestGear : GoodIn wsX3_digest wsX3_bestGear := goodIn_r _ [80, 81, 7, 49, 17, 82, 83, 84, 85, 86, 87, 88, 89, 90, 91, 92, 93, 94, 95, 96, 97, 98, 26, 99, 28, 100, 29, 101, 102, 103, 73, 104, 75, 105, 106, 107, 108, 76, 109, 110, 111, 112, 113, 114, 115, 116, 117, 118, 119, 120, 121, 5, 122, 123, 124, 125, 126, 127, 24, 25, 27, 128, 129, 130, 131, 132, 133, 134, 135, 136, 137, 138, 139, 140, 141, 142, 143, 144, 145, 146, 147, 148, 149, 150, 151, 152, 23, 185, 186, 187, 188, 189, 190, 191, 192, 193, 194, 195, 196, 197, 198, 199, 200, 201, 202, 203, 204] (by decide +kernel) (by decide +kernel)
set_option maxRecDepth 20000 in
theorem gX3_digest_X3_bestGear : GoodIn wsX3_digest (wsV RX3 200 RX3 yX3_bestGear wsX3_bestGear) := goodIn_app (goodIn_of _ (by decide +kernel)) ggX3_digest_X3_bestGear
set_option maxRecDepth 20000 in
theorem ggX3_digest_X3_bestPush : GoodIn wsX3_digest wsX3_bestPush := goodIn_r _ [156, 7, 17, 18, 81, 82, 83, 84, 85, 86, 87, 88, 89, 90, 91, 92, 93, 94, 95, 96, 97, 98, 26, 99, 28, 100, 29, 101, 102, 103, 73, 104, 75, 105, 106, 107, 108, 76, 157, 158, 159, 160, 161, 162, 163, 164, 109, 110, 111, 112, 113, 114, 115, 116, 117, 118, 119, 120, 121, 5, 122, 123, 124, 125, 126, 127, 24, 25, 27, 128, 129, 130, 131, 132, 133, 134, 135, 136, 137, 138, 139, 140, 141, 142, 143, 144, 145, 146, 147, 148, 149, 150, 151, 152, 23, 185, 186, 187, 188, 189, 190, 191, 192, 193, 194, 195, 196, 197, 198, 199, 200, 201, 202, 203, 204] (by decide +kernel) (by decide +kernel)
set_option maxRecDepth 20000 in
theorem gX3_digest_X3_bestPush : GoodIn wsX3_digest (wsV RX3 203 RX3 yX3_bestPush wsX3_bestPush) := goodIn_app (goodIn_of _ (by decide +kernel)) ggX3_digest_X3_bestPush
set_option maxRecDepth 20000 in
theorem ggX3_digest_X3_withTopics : GoodIn wsX3_digest wsX3_withTopics := goodIn_r _ [168, 7, 17, 18, 169, 170, 9, 10, 5, 11, 12, 185, 186, 187, 188, 189, 190, 191, 192, 193, 194, 195, 196, 197, 198] (by decide +kernel) (by decide +kernel)
set_option maxRecDepth 20000 in
theorem gX3_digest_X3_withTopics : GoodIn wsX3_digest (wsV RX3 206 RX3 yX3_withTopics wsX3_withTopics) := goodIn_app (goodIn_of _ (by decide +kernel)) ggX3_digest_X3_withTopics
set_option maxRecDepth 20000 in
theorem ggX3_digest_X3_withTalkers : GoodIn wsX3_digest wsX3_withTalkers := goodIn_r _ [174, 7, 64, 65, 175, 176, 177, 178, 179, 73, 180, 76, 181, 182, 183, 184, 75, 9, 10, 5, 11, 12, 185, 186, 187, 188, 189, 190, 191, 192, 193, 194, 195, 199, 200, 201, 202, 203, 204] (by decide +kernel) (by decide +kernel)
set_option maxRecDepth 20000 in
theorem gX3_digest_X3_withTalkers : GoodIn wsX3_digest (wsV RX3 210 RX3 yX3_withTalkers wsX3_withTalkers) := goodIn_app (goodIn_of _ (by decide +kernel)) ggX3_digest_X3_withTalkers
theorem dX3_digest_0 : decode cX3_digest 0 = .ok (.ldc2_w 168, 3) := by decide +kernel
theorem dX3_digest_3 : decode cX3_digest 3 = .ok (.lstore_n 1, 1) := by decide +kernel
theorem dX3_digest_4 : decode cX3_digest 4 = .ok (.lload_n 1, 1) := by decide +kernel
theorem dX3_digest_5 : decode cX3_digest 5 = .ok (.aload_n 0, 1) := by decide +kernel
theorem dX3_digest_6 : decode cX3_digest 6 = .ok (.invokevirtual 170, 3) := by decide +kernel
theorem dX3_digest_9 : decode cX3_digest 9 = .ok (.i2l, 1) := by decide +kernel
theorem dX3_digest_10 : decode cX3_digest 10 = .ok (.invokestatic 172, 3) := by decide +kernel
theorem dX3_digest_13 : decode cX3_digest 13 = .ok (.lstore_n 1, 1) := by decide +kernel
theorem dX3_digest_14 : decode cX3_digest 14 = .ok (.lload_n 1, 1) := by decide +kernel
theorem dX3_digest_15 : decode cX3_digest 15 = .ok (.aload_n 0, 1) := by decide +kernel
theorem dX3_digest_16 : decode cX3_digest 16 = .ok (.invokevirtual 176, 3) := by decide +kernel
theorem dX3_digest_19 : decode cX3_digest 19 = .ok (.i2l, 1) := by decide +kernel
theorem dX3_digest_20 : decode cX3_digest 20 = .ok (.invokestatic 172, 3) := by decide +kernel
theorem dX3_digest_23 : decode cX3_digest 23 = .ok (.lstore_n 1, 1) := by decide +kernel
theorem dX3_digest_24 : decode cX3_digest 24 = .ok (.lload_n 1, 1) := by decide +kernel
theorem dX3_digest_25 : decode cX3_digest 25 = .ok (.aload_n 0, 1) := by decide +kernel
theorem dX3_digest_26 : decode cX3_digest 26 = .ok (.invokevirtual 179, 3) := by decide +kernel
theorem dX3_digest_29 : decode cX3_digest 29 = .ok (.i2l, 1) := by decide +kernel
theorem dX3_digest_30 : decode cX3_digest 30 = .ok (.invokestatic 172, 3) := by decide +kernel
theorem dX3_digest_33 : decode cX3_digest 33 = .ok (.lstore_n 1, 1) := by decide +kernel
theorem dX3_digest_34 : decode cX3_digest 34 = .ok (.lload_n 1, 1) := by decide +kernel
theorem dX3_digest_35 : decode cX3_digest 35 = .ok (.aload_n 0, 1) := by decide +kernel
theorem dX3_digest_36 : decode cX3_digest 36 = .ok (.invokevirtual 182, 3) := by decide +kernel
theorem dX3_digest_39 : decode cX3_digest 39 = .ok (.i2l, 1) := by decide +kernel
theorem dX3_digest_40 : decode cX3_digest 40 = .ok (.invokestatic 172, 3) := by decide +kernel
theorem dX3_digest_43 : decode cX3_digest 43 = .ok (.lstore_n 1, 1) := by decide +kernel
theorem dX3_digest_44 : decode cX3_digest 44 = .ok (.lload_n 1, 1) := by decide +kernel
theorem dX3_digest_45 : decode cX3_digest 45 = .ok (.aload_n 0, 1) := by decide +kernel
theorem dX3_digest_46 : decode cX3_digest 46 = .ok (.invokevirtual 184, 3) := by decide +kernel
theorem dX3_digest_49 : decode cX3_digest 49 = .ok (.i2l, 1) := by decide +kernel
theorem dX3_digest_50 : decode cX3_digest 50 = .ok (.invokestatic 172, 3) := by decide +kernel
theorem dX3_digest_53 : decode cX3_digest 53 = .ok (.lstore_n 1, 1) := by decide +kernel
theorem dX3_digest_54 : decode cX3_digest 54 = .ok (.lload_n 1, 1) := by decide +kernel
theorem dX3_digest_55 : decode cX3_digest 55 = .ok (.aload_n 0, 1) := by decide +kernel
theorem dX3_digest_56 : decode cX3_digest 56 = .ok (.invokevirtual 186, 3) := by decide +kernel
theorem dX3_digest_59 : decode cX3_digest 59 = .ok (.i2l, 1) := by decide +kernel
theorem dX3_digest_60 : decode cX3_digest 60 = .ok (.invokestatic 172, 3) := by decide +kernel
theorem dX3_digest_63 : decode cX3_digest 63 = .ok (.lstore_n 1, 1) := by decide +kernel
theorem dX3_digest_64 : decode cX3_digest 64 = .ok (.lload_n 1, 1) := by decide +kernel
theorem dX3_digest_65 : decode cX3_digest 65 = .ok (.aload_n 0, 1) := by decide +kernel
theorem dX3_digest_66 : decode cX3_digest 66 = .ok (.invokevirtual 188, 3) := by decide +kernel
theorem dX3_digest_69 : decode cX3_digest 69 = .ok (.i2l, 1) := by decide +kernel
theorem dX3_digest_70 : decode cX3_digest 70 = .ok (.invokestatic 172, 3) := by decide +kernel
theorem dX3_digest_73 : decode cX3_digest 73 = .ok (.lstore_n 1, 1) := by decide +kernel
theorem dX3_digest_74 : decode cX3_digest 74 = .ok (.lload_n 1, 1) := by decide +kernel
theorem dX3_digest_75 : decode cX3_digest 75 = .ok (.aload_n 0, 1) := by decide +kernel
theorem dX3_digest_76 : decode cX3_digest 76 = .ok (.invokevirtual 190, 3) := by decide +kernel
theorem dX3_digest_79 : decode cX3_digest 79 = .ok (.i2l, 1) := by decide +kernel
theorem dX3_digest_80 : decode cX3_digest 80 = .ok (.invokestatic 172, 3) := by decide +kernel
theorem dX3_digest_83 : decode cX3_digest 83 = .ok (.lstore_n 1, 1) := by decide +kernel
theorem dX3_digest_84 : decode cX3_digest 84 = .ok (.lload_n 1, 1) := by decide +kernel
theorem dX3_digest_85 : decode cX3_digest 85 = .ok (.aload_n 0, 1) := by decide +kernel
theorem dX3_digest_86 : decode cX3_digest 86 = .ok (.invokevirtual 192, 3) := by decide +kernel
theorem dX3_digest_89 : decode cX3_digest 89 = .ok (.i2l, 1) := by decide +kernel
theorem dX3_digest_90 : decode cX3_digest 90 = .ok (.invokestatic 172, 3) := by decide +kernel
theorem dX3_digest_93 : decode cX3_digest 93 = .ok (.lstore_n 1, 1) := by decide +kernel
theorem dX3_digest_94 : decode cX3_digest 94 = .ok (.lload_n 1, 1) := by decide +kernel
theorem dX3_digest_95 : decode cX3_digest 95 = .ok (.aload_n 0, 1) := by decide +kernel
theorem dX3_digest_96 : decode cX3_digest 96 = .ok (.invokevirtual 194, 3) := by decide +kernel
theorem dX3_digest_99 : decode cX3_digest 99 = .ok (.i2l, 1) := by decide +kernel
theorem dX3_digest_100 : decode cX3_digest 100 = .ok (.invokestatic 172, 3) := by decide +kernel
theorem dX3_digest_103 : decode cX3_digest 103 = .ok (.lstore_n 1, 1) := by decide +kernel
theorem dX3_digest_104 : decode cX3_digest 104 = .ok (.lload_n 1, 1) := by decide +kernel
theorem dX3_digest_105 : decode cX3_digest 105 = .ok (.aload_n 0, 1) := by decide +kernel
theorem dX3_digest_106 : decode cX3_digest 106 = .ok (.invokevirtual 197, 3) := by decide +kernel
theorem dX3_digest_109 : decode cX3_digest 109 = .ok (.i2l, 1) := by decide +kernel
theorem dX3_digest_110 : decode cX3_digest 110 = .ok (.invokestatic 172, 3) := by decide +kernel
theorem dX3_digest_113 : decode cX3_digest 113 = .ok (.lstore_n 1, 1) := by decide +kernel
theorem dX3_digest_114 : decode cX3_digest 114 = .ok (.lload_n 1, 1) := by decide +kernel
theorem dX3_digest_115 : decode cX3_digest 115 = .ok (.aload_n 0, 1) := by decide +kernel
theorem dX3_digest_116 : decode cX3_digest 116 = .ok (.invokevirtual 200, 3) := by decide +kernel
theorem dX3_digest_119 : decode cX3_digest 119 = .ok (.i2l, 1) := by decide +kernel
theorem dX3_digest_120 : decode cX3_digest 120 = .ok (.invokestatic 172, 3) := by decide +kernel
theorem dX3_digest_123 : decode cX3_digest 123 = .ok (.lstore_n 1, 1) := by decide +kernel
theorem dX3_digest_124 : decode cX3_digest 124 = .ok (.lload_n 1, 1) := by decide +kernel
theorem dX3_digest_125 : decode cX3_digest 125 = .ok (.aload_n 0, 1) := by decide +kernel
theorem dX3_digest_126 : decode cX3_digest 126 = .ok (.invokevirtual 203, 3) := by decide +kernel
theorem dX3_digest_129 : decode cX3_digest 129 = .ok (.i2l, 1) := by decide +kernel
theorem dX3_digest_130 : decode cX3_digest 130 = .ok (.invokestatic 172, 3) := by decide +kernel
theorem dX3_digest_133 : decode cX3_digest 133 = .ok (.lstore_n 1, 1) := by decide +kernel
theorem dX3_digest_134 : decode cX3_digest 134 = .ok (.aload_n 0, 1) := by decide +kernel
theorem dX3_digest_135 : decode cX3_digest 135 = .ok (.aload_n 0, 1) := by decide +kernel
theorem dX3_digest_136 : decode cX3_digest 136 = .ok (.lload_n 1, 1) := by decide +kernel
theorem dX3_digest_137 : decode cX3_digest 137 = .ok (.invokevirtual 206, 3) := by decide +kernel
theorem dX3_digest_140 : decode cX3_digest 140 = .ok (.invokevirtual 210, 3) := by decide +kernel
theorem dX3_digest_143 : decode cX3_digest 143 = .ok (.lreturn, 1) := by decide +kernel
set_option maxRecDepth 20000 in
theorem ggX3_withTopics_X3_mixed : GoodIn wsX3_withTopics wsX3_mixed := goodIn_r _ [9, 10] (by decide +kernel) (by decide +kernel)
set_option maxRecDepth 20000 in
theorem gX3_withTopics_X3_mixed : GoodIn wsX3_withTopics (va_wsS RX3 172 yX3_mixed wsX3_mixed) := goodIn_app (goodIn_of _ (by decide +kernel)) ggX3_withTopics_X3_mixed
theorem dX3_withTopics_0 : decode cX3_withTopics 0 = .ok (.lload_n 1, 1) := by decide +kernel
theorem dX3_withTopics_1 : decode cX3_withTopics 1 = .ok (.lstore_n 3, 1) := by decide +kernel
theorem dX3_withTopics_2 : decode cX3_withTopics 2 = .ok (.iconst 0, 1) := by decide +kernel
theorem dX3_withTopics_3 : decode cX3_withTopics 3 = .ok (.istore 5, 2) := by decide +kernel
theorem dX3_withTopics_5 : decode cX3_withTopics 5 = .ok (.iload 5, 2) := by decide +kernel
theorem dX3_withTopics_7 : decode cX3_withTopics 7 = .ok (.aload_n 0, 1) := by decide +kernel
theorem dX3_withTopics_8 : decode cX3_withTopics 8 = .ok (.getfield 12, 3) := by decide +kernel
theorem dX3_withTopics_11 : decode cX3_withTopics 11 = .ok (.getfield 23, 3) := by decide +kernel
theorem dX3_withTopics_14 : decode cX3_withTopics 14 = .ok (.getfield 40, 3) := by decide +kernel
theorem dX3_withTopics_17 : decode cX3_withTopics 17 = .ok (.if_icmp .ge 47, 3) := by decide +kernel
theorem dX3_withTopics_20 : decode cX3_withTopics 20 = .ok (.lload_n 3, 1) := by decide +kernel
theorem dX3_withTopics_21 : decode cX3_withTopics 21 = .ok (.aload_n 0, 1) := by decide +kernel
theorem dX3_withTopics_22 : decode cX3_withTopics 22 = .ok (.getfield 12, 3) := by decide +kernel
theorem dX3_withTopics_25 : decode cX3_withTopics 25 = .ok (.getfield 23, 3) := by decide +kernel
theorem dX3_withTopics_28 : decode cX3_withTopics 28 = .ok (.getfield 51, 3) := by decide +kernel
theorem dX3_withTopics_31 : decode cX3_withTopics 31 = .ok (.iload 5, 2) := by decide +kernel
theorem dX3_withTopics_33 : decode cX3_withTopics 33 = .ok (.iaload, 1) := by decide +kernel
theorem dX3_withTopics_34 : decode cX3_withTopics 34 = .ok (.i2l, 1) := by decide +kernel
theorem dX3_withTopics_35 : decode cX3_withTopics 35 = .ok (.invokestatic 172, 3) := by decide +kernel
theorem dX3_withTopics_38 : decode cX3_withTopics 38 = .ok (.lstore_n 3, 1) := by decide +kernel
theorem dX3_withTopics_39 : decode cX3_withTopics 39 = .ok (.lload_n 3, 1) := by decide +kernel
theorem dX3_withTopics_40 : decode cX3_withTopics 40 = .ok (.aload_n 0, 1) := by decide +kernel
theorem dX3_withTopics_41 : decode cX3_withTopics 41 = .ok (.getfield 12, 3) := by decide +kernel
theorem dX3_withTopics_44 : decode cX3_withTopics 44 = .ok (.getfield 23, 3) := by decide +kernel
theorem dX3_withTopics_47 : decode cX3_withTopics 47 = .ok (.getfield 108, 3) := by decide +kernel
theorem dX3_withTopics_50 : decode cX3_withTopics 50 = .ok (.iload 5, 2) := by decide +kernel
theorem dX3_withTopics_52 : decode cX3_withTopics 52 = .ok (.iaload, 1) := by decide +kernel
theorem dX3_withTopics_53 : decode cX3_withTopics 53 = .ok (.i2l, 1) := by decide +kernel
theorem dX3_withTopics_54 : decode cX3_withTopics 54 = .ok (.invokestatic 172, 3) := by decide +kernel
theorem dX3_withTopics_57 : decode cX3_withTopics 57 = .ok (.lstore_n 3, 1) := by decide +kernel
theorem dX3_withTopics_58 : decode cX3_withTopics 58 = .ok (.iinc 5 1, 3) := by decide +kernel
theorem dX3_withTopics_61 : decode cX3_withTopics 61 = .ok (.goto (-56), 3) := by decide +kernel
theorem dX3_withTopics_64 : decode cX3_withTopics 64 = .ok (.lload_n 3, 1) := by decide +kernel
theorem dX3_withTopics_65 : decode cX3_withTopics 65 = .ok (.lreturn, 1) := by decide +kernel
set_option maxRecDepth 20000 in
theorem ggX3_withTalkers_X1_isThere : GoodIn wsX3_withTalkers wsX1_isThere := goodIn_r _ [10, 11, 12, 13, 14, 9, 15, 16, 33, 34, 35, 36, 37, 38] (by decide +kernel) (by decide +kernel)
set_option maxRecDepth 20000 in
theorem gX3_withTalkers_X1_isThere : GoodIn wsX3_withTalkers (wsV RX3 146 RX1 yX1_isThere wsX1_isThere) := goodIn_app (goodIn_of _ (by decide +kernel)) ggX3_withTalkers_X1_isThere
set_option maxRecDepth 20000 in
theorem ggX3_withTalkers_X3_mixed : GoodIn wsX3_withTalkers wsX3_mixed := goodIn_r _ [20, 21] (by decide +kernel) (by decide +kernel)
set_option maxRecDepth 20000 in
theorem gX3_withTalkers_X3_mixed : GoodIn wsX3_withTalkers (va_wsS RX3 172 yX3_mixed wsX3_mixed) := goodIn_app (goodIn_of _ (by decide +kernel)) ggX3_withTalkers_X3_mixed
theorem dX3_withTalkers_0 : decode cX3_withTalkers 0 = .ok (.lload_n 1, 1) := by decide +kernel
theorem dX3_withTalkers_1 : decode cX3_withTalkers 1 = .ok (.lstore_n 3, 1) := by decide +kernel
theorem dX3_withTalkers_2 : decode cX3_withTalkers 2 = .ok (.iconst 0, 1) := by decide +kernel
theorem dX3_withTalkers_3 : decode cX3_withTalkers 3 = .ok (.istore 5, 2) := by decide +kernel
theorem dX3_withTalkers_5 : decode cX3_withTalkers 5 = .ok (.iload 5, 2) := by decide +kernel
theorem dX3_withTalkers_7 : decode cX3_withTalkers 7 = .ok (.aload_n 0, 1) := by decide +kernel
theorem dX3_withTalkers_8 : decode cX3_withTalkers 8 = .ok (.getfield 12, 3) := by decide +kernel
theorem dX3_withTalkers_11 : decode cX3_withTalkers 11 = .ok (.getfield 81, 3) := by decide +kernel
theorem dX3_withTalkers_14 : decode cX3_withTalkers 14 = .ok (.getfield 90, 3) := by decide +kernel
theorem dX3_withTalkers_17 : decode cX3_withTalkers 17 = .ok (.if_icmp .ge 72, 3) := by decide +kernel
theorem dX3_withTalkers_20 : decode cX3_withTalkers 20 = .ok (.lload_n 3, 1) := by decide +kernel
theorem dX3_withTalkers_21 : decode cX3_withTalkers 21 = .ok (.aload_n 0, 1) := by decide +kernel
theorem dX3_withTalkers_22 : decode cX3_withTalkers 22 = .ok (.getfield 12, 3) := by decide +kernel
theorem dX3_withTalkers_25 : decode cX3_withTalkers 25 = .ok (.getfield 81, 3) := by decide +kernel
theorem dX3_withTalkers_28 : decode cX3_withTalkers 28 = .ok (.iload 5, 2) := by decide +kernel
theorem dX3_withTalkers_30 : decode cX3_withTalkers 30 = .ok (.invokevirtual 146, 3) := by decide +kernel
theorem dX3_withTalkers_33 : decode cX3_withTalkers 33 = .ok (.ifCond .eq 7, 3) := by decide +kernel
theorem dX3_withTalkers_36 : decode cX3_withTalkers 36 = .ok (.lconst 1, 1) := by decide +kernel
theorem dX3_withTalkers_37 : decode cX3_withTalkers 37 = .ok (.goto 4, 3) := by decide +kernel
theorem dX3_withTalkers_40 : decode cX3_withTalkers 40 = .ok (.lconst 0, 1) := by decide +kernel
theorem dX3_withTalkers_41 : decode cX3_withTalkers 41 = .ok (.invokestatic 172, 3) := by decide +kernel
theorem dX3_withTalkers_44 : decode cX3_withTalkers 44 = .ok (.lstore_n 3, 1) := by decide +kernel
theorem dX3_withTalkers_45 : decode cX3_withTalkers 45 = .ok (.lload_n 3, 1) := by decide +kernel
theorem dX3_withTalkers_46 : decode cX3_withTalkers 46 = .ok (.aload_n 0, 1) := by decide +kernel
theorem dX3_withTalkers_47 : decode cX3_withTalkers 47 = .ok (.getfield 12, 3) := by decide +kernel
theorem dX3_withTalkers_50 : decode cX3_withTalkers 50 = .ok (.getfield 81, 3) := by decide +kernel
theorem dX3_withTalkers_53 : decode cX3_withTalkers 53 = .ok (.getfield 149, 3) := by decide +kernel
theorem dX3_withTalkers_56 : decode cX3_withTalkers 56 = .ok (.iload 5, 2) := by decide +kernel
theorem dX3_withTalkers_58 : decode cX3_withTalkers 58 = .ok (.iaload, 1) := by decide +kernel
theorem dX3_withTalkers_59 : decode cX3_withTalkers 59 = .ok (.i2l, 1) := by decide +kernel
theorem dX3_withTalkers_60 : decode cX3_withTalkers 60 = .ok (.invokestatic 172, 3) := by decide +kernel
theorem dX3_withTalkers_63 : decode cX3_withTalkers 63 = .ok (.lstore_n 3, 1) := by decide +kernel
theorem dX3_withTalkers_64 : decode cX3_withTalkers 64 = .ok (.lload_n 3, 1) := by decide +kernel
theorem dX3_withTalkers_65 : decode cX3_withTalkers 65 = .ok (.aload_n 0, 1) := by decide +kernel
theorem dX3_withTalkers_66 : decode cX3_withTalkers 66 = .ok (.getfield 12, 3) := by decide +kernel
theorem dX3_withTalkers_69 : decode cX3_withTalkers 69 = .ok (.getfield 81, 3) := by decide +kernel
theorem dX3_withTalkers_72 : decode cX3_withTalkers 72 = .ok (.getfield 152, 3) := by decide +kernel
theorem dX3_withTalkers_75 : decode cX3_withTalkers 75 = .ok (.iload 5, 2) := by decide +kernel
theorem dX3_withTalkers_77 : decode cX3_withTalkers 77 = .ok (.iaload, 1) := by decide +kernel
theorem dX3_withTalkers_78 : decode cX3_withTalkers 78 = .ok (.i2l, 1) := by decide +kernel
theorem dX3_withTalkers_79 : decode cX3_withTalkers 79 = .ok (.invokestatic 172, 3) := by decide +kernel
theorem dX3_withTalkers_82 : decode cX3_withTalkers 82 = .ok (.lstore_n 3, 1) := by decide +kernel
theorem dX3_withTalkers_83 : decode cX3_withTalkers 83 = .ok (.iinc 5 1, 3) := by decide +kernel
theorem dX3_withTalkers_86 : decode cX3_withTalkers 86 = .ok (.goto (-81), 3) := by decide +kernel
theorem dX3_withTalkers_89 : decode cX3_withTalkers 89 = .ok (.lload_n 3, 1) := by decide +kernel
theorem dX3_withTalkers_90 : decode cX3_withTalkers 90 = .ok (.lreturn, 1) := by decide +kernel
theorem dX3_mixed_0 : decode cX3_mixed 0 = .ok (.lload_n 0, 1) := by decide +kernel
theorem dX3_mixed_1 : decode cX3_mixed 1 = .ok (.ldc2_w 213, 3) := by decide +kernel
theorem dX3_mixed_4 : decode cX3_mixed 4 = .ok (.lmul, 1) := by decide +kernel
theorem dX3_mixed_5 : decode cX3_mixed 5 = .ok (.lload_n 2, 1) := by decide +kernel
theorem dX3_mixed_6 : decode cX3_mixed 6 = .ok (.ladd, 1) := by decide +kernel
theorem dX3_mixed_7 : decode cX3_mixed 7 = .ok (.lreturn, 1) := by decide +kernel
theorem dX3_ground_0 : decode cX3_ground 0 = .ok (.iload_n 1, 1) := by decide +kernel
theorem dX3_ground_1 : decode cX3_ground 1 = .ok (.iconst 2, 1) := by decide +kernel
theorem dX3_ground_2 : decode cX3_ground 2 = .ok (.if_icmp .ge 7, 3) := by decide +kernel
theorem dX3_ground_5 : decode cX3_ground 5 = .ok (.iload_n 0, 1) := by decide +kernel
theorem dX3_ground_6 : decode cX3_ground 6 = .ok (.goto 6, 3) := by decide +kernel
theorem dX3_ground_9 : decode cX3_ground 9 = .ok (.iload_n 0, 1) := by decide +kernel
theorem dX3_ground_10 : decode cX3_ground 10 = .ok (.iload_n 1, 1) := by decide +kernel
