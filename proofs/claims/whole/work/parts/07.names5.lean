theorem dX4_turnsToNod_41 : decode cX4_turnsToNod 41 = .ok (.getfield 26, 3) := by decide +kernel
theorem dX4_turnsToNod_44 : decode cX4_turnsToNod 44 = .ok (.iconst 5, 1) := by decide +kernel
theorem dX4_turnsToNod_45 : decode cX4_turnsToNod 45 = .ok (.iaload, 1) := by decide +kernel
theorem dX4_turnsToNod_46 : decode cX4_turnsToNod 46 = .ok (.idiv, 1) := by decide +kernel
theorem dX4_turnsToNod_47 : decode cX4_turnsToNod 47 = .ok (.istore_n 3, 1) := by decide +kernel
theorem dX4_turnsToNod_48 : decode cX4_turnsToNod 48 = .ok (.goto (-17), 3) := by decide +kernel
theorem dX4_turnsToNod_51 : decode cX4_turnsToNod 51 = .ok (.iload_n 2, 1) := by decide +kernel
theorem dX4_turnsToNod_52 : decode cX4_turnsToNod 52 = .ok (.ireturn, 1) := by decide +kernel
set_option maxRecDepth 20000 in
theorem ggX4_nods_X4_ok : GoodIn wsX4_nods wsX4_ok := goodIn_r _ [6, 7, 8, 9, 10, 11, 12, 13, 14, 15, 16] (by decide +kernel) (by decide +kernel)
set_option maxRecDepth 20000 in
theorem gX4_nods_X4_ok : GoodIn wsX4_nods (wsV RX4 97 RX4 yX4_ok wsX4_ok) := goodIn_app (goodIn_of _ (by decide +kernel)) ggX4_nods_X4_ok
theorem dX4_nods_0 : decode cX4_nods 0 = .ok (.aload_n 0, 1) := by decide +kernel
theorem dX4_nods_1 : decode cX4_nods 1 = .ok (.aload_n 0, 1) := by decide +kernel
theorem dX4_nods_2 : decode cX4_nods 2 = .ok (.getfield 26, 3) := by decide +kernel
theorem dX4_nods_5 : decode cX4_nods 5 = .ok (.iconst 2, 1) := by decide +kernel
theorem dX4_nods_6 : decode cX4_nods 6 = .ok (.iaload, 1) := by decide +kernel
theorem dX4_nods_7 : decode cX4_nods 7 = .ok (.invokevirtual 97, 3) := by decide +kernel
theorem dX4_nods_10 : decode cX4_nods 10 = .ok (.ireturn, 1) := by decide +kernel
set_option maxRecDepth 20000 in
theorem ggX4_bottles_X4_ok : GoodIn wsX4_bottles wsX4_ok := goodIn_r _ [6, 7, 8, 9, 10, 11, 12, 13, 14, 15, 16] (by decide +kernel) (by decide +kernel)
set_option maxRecDepth 20000 in
theorem gX4_bottles_X4_ok : GoodIn wsX4_bottles (wsV RX4 97 RX4 yX4_ok wsX4_ok) := goodIn_app (goodIn_of _ (by decide +kernel)) ggX4_bottles_X4_ok
theorem dX4_bottles_0 : decode cX4_bottles 0 = .ok (.aload_n 0, 1) := by decide +kernel
theorem dX4_bottles_1 : decode cX4_bottles 1 = .ok (.aload_n 0, 1) := by decide +kernel
theorem dX4_bottles_2 : decode cX4_bottles 2 = .ok (.getfield 26, 3) := by decide +kernel
theorem dX4_bottles_5 : decode cX4_bottles 5 = .ok (.iconst 3, 1) := by decide +kernel
theorem dX4_bottles_6 : decode cX4_bottles 6 = .ok (.iaload, 1) := by decide +kernel
theorem dX4_bottles_7 : decode cX4_bottles 7 = .ok (.invokevirtual 97, 3) := by decide +kernel
theorem dX4_bottles_10 : decode cX4_bottles 10 = .ok (.ireturn, 1) := by decide +kernel
set_option maxRecDepth 20000 in
theorem ggX4_sieved_X4_ok : GoodIn wsX4_sieved wsX4_ok := goodIn_r _ [6, 7, 8, 9, 10, 11, 12, 13, 14, 15, 16] (by decide +kernel) (by decide +kernel)
set_option maxRecDepth 20000 in
theorem gX4_sieved_X4_ok : GoodIn wsX4_sieved (wsV RX4 97 RX4 yX4_ok wsX4_ok) := goodIn_app (goodIn_of _ (by decide +kernel)) ggX4_sieved_X4_ok
theorem dX4_sieved_0 : decode cX4_sieved 0 = .ok (.aload_n 0, 1) := by decide +kernel
theorem dX4_sieved_1 : decode cX4_sieved 1 = .ok (.aload_n 0, 1) := by decide +kernel
theorem dX4_sieved_2 : decode cX4_sieved 2 = .ok (.getfield 26, 3) := by decide +kernel
theorem dX4_sieved_5 : decode cX4_sieved 5 = .ok (.iconst 4, 1) := by decide +kernel
theorem dX4_sieved_6 : decode cX4_sieved 6 = .ok (.iaload, 1) := by decide +kernel
theorem dX4_sieved_7 : decode cX4_sieved 7 = .ok (.invokevirtual 97, 3) := by decide +kernel
theorem dX4_sieved_10 : decode cX4_sieved 10 = .ok (.ireturn, 1) := by decide +kernel
set_option maxRecDepth 20000 in
theorem ggX4_gear_X4_ok : GoodIn wsX4_gear wsX4_ok := goodIn_r _ [6, 7, 8, 9, 10, 11, 12, 13, 14, 15, 16] (by decide +kernel) (by decide +kernel)
set_option maxRecDepth 20000 in
theorem gX4_gear_X4_ok : GoodIn wsX4_gear (wsV RX4 97 RX4 yX4_ok wsX4_ok) := goodIn_app (goodIn_of _ (by decide +kernel)) ggX4_gear_X4_ok
theorem dX4_gear_0 : decode cX4_gear 0 = .ok (.aload_n 0, 1) := by decide +kernel
theorem dX4_gear_1 : decode cX4_gear 1 = .ok (.aload_n 0, 1) := by decide +kernel
theorem dX4_gear_2 : decode cX4_gear 2 = .ok (.getfield 26, 3) := by decide +kernel
theorem dX4_gear_5 : decode cX4_gear 5 = .ok (.iconst 5, 1) := by decide +kernel
theorem dX4_gear_6 : decode cX4_gear 6 = .ok (.iaload, 1) := by decide +kernel
theorem dX4_gear_7 : decode cX4_gear 7 = .ok (.invokevirtual 97, 3) := by decide +kernel
theorem dX4_gear_10 : decode cX4_gear 10 = .ok (.ireturn, 1) := by decide +kernel
set_option maxRecDepth 20000 in
theorem ggX4_stones_X4_ok : GoodIn wsX4_stones wsX4_ok := goodIn_r _ [6, 7, 8, 9, 10, 11, 12, 13, 14, 15, 16] (by decide +kernel) (by decide +kernel)
set_option maxRecDepth 20000 in
theorem gX4_stones_X4_ok : GoodIn wsX4_stones (wsV RX4 97 RX4 yX4_ok wsX4_ok) := goodIn_app (goodIn_of _ (by decide +kernel)) ggX4_stones_X4_ok
theorem dX4_stones_0 : decode cX4_stones 0 = .ok (.aload_n 0, 1) := by decide +kernel
theorem dX4_stones_1 : decode cX4_stones 1 = .ok (.aload_n 0, 1) := by decide +kernel
theorem dX4_stones_2 : decode cX4_stones 2 = .ok (.getfield 9, 3) := by decide +kernel
theorem dX4_stones_5 : decode cX4_stones 5 = .ok (.invokevirtual 97, 3) := by decide +kernel
theorem dX4_stones_8 : decode cX4_stones 8 = .ok (.ireturn, 1) := by decide +kernel
set_option maxRecDepth 20000 in
theorem ggX4_mesh_X4_ok : GoodIn wsX4_mesh wsX4_ok := goodIn_r _ [6, 7, 8, 9, 10, 11, 12, 13, 14, 15, 16] (by decide +kernel) (by decide +kernel)
set_option maxRecDepth 20000 in
theorem gX4_mesh_X4_ok : GoodIn wsX4_mesh (wsV RX4 97 RX4 yX4_ok wsX4_ok) := goodIn_app (goodIn_of _ (by decide +kernel)) ggX4_mesh_X4_ok
theorem dX4_mesh_0 : decode cX4_mesh 0 = .ok (.aload_n 0, 1) := by decide +kernel
theorem dX4_mesh_1 : decode cX4_mesh 1 = .ok (.aload_n 0, 1) := by decide +kernel
theorem dX4_mesh_2 : decode cX4_mesh 2 = .ok (.getfield 13, 3) := by decide +kernel
theorem dX4_mesh_5 : decode cX4_mesh 5 = .ok (.invokevirtual 97, 3) := by decide +kernel
theorem dX4_mesh_8 : decode cX4_mesh 8 = .ok (.ireturn, 1) := by decide +kernel
set_option maxRecDepth 20000 in
theorem ggX4_talkers_X4_ok : GoodIn wsX4_talkers wsX4_ok := goodIn_r _ [6, 7, 8, 9, 10, 11, 12, 13, 14, 15, 16] (by decide +kernel) (by decide +kernel)
set_option maxRecDepth 20000 in
theorem gX4_talkers_X4_ok : GoodIn wsX4_talkers (wsV RX4 97 RX4 yX4_ok wsX4_ok) := goodIn_app (goodIn_of _ (by decide +kernel)) ggX4_talkers_X4_ok
theorem dX4_talkers_0 : decode cX4_talkers 0 = .ok (.aload_n 0, 1) := by decide +kernel
theorem dX4_talkers_1 : decode cX4_talkers 1 = .ok (.aload_n 0, 1) := by decide +kernel
theorem dX4_talkers_2 : decode cX4_talkers 2 = .ok (.getfield 39, 3) := by decide +kernel
theorem dX4_talkers_5 : decode cX4_talkers 5 = .ok (.invokevirtual 97, 3) := by decide +kernel
theorem dX4_talkers_8 : decode cX4_talkers 8 = .ok (.ireturn, 1) := by decide +kernel
set_option maxRecDepth 20000 in
theorem ggX4_there_X4_isThere : GoodIn wsX4_there wsX4_isThere := goodIn_r _ [6, 7, 8, 9, 10, 11, 12, 13, 14, 15, 16] (by decide +kernel) (by decide +kernel)
set_option maxRecDepth 20000 in
theorem gX4_there_X4_isThere : GoodIn wsX4_there (wsV RX4 52 RX4 yX4_isThere wsX4_isThere) := goodIn_app (goodIn_of _ (by decide +kernel)) ggX4_there_X4_isThere
theorem dX4_there_0 : decode cX4_there 0 = .ok (.iconst 0, 1) := by decide +kernel
theorem dX4_there_1 : decode cX4_there 1 = .ok (.istore_n 1, 1) := by decide +kernel
theorem dX4_there_2 : decode cX4_there 2 = .ok (.iconst 0, 1) := by decide +kernel
theorem dX4_there_3 : decode cX4_there 3 = .ok (.istore_n 2, 1) := by decide +kernel
theorem dX4_there_4 : decode cX4_there 4 = .ok (.iload_n 2, 1) := by decide +kernel
theorem dX4_there_5 : decode cX4_there 5 = .ok (.aload_n 0, 1) := by decide +kernel
theorem dX4_there_6 : decode cX4_there 6 = .ok (.getfield 39, 3) := by decide +kernel
theorem dX4_there_9 : decode cX4_there 9 = .ok (.if_icmp .ge 25, 3) := by decide +kernel
theorem dX4_there_12 : decode cX4_there 12 = .ok (.iload_n 1, 1) := by decide +kernel
theorem dX4_there_13 : decode cX4_there 13 = .ok (.aload_n 0, 1) := by decide +kernel
theorem dX4_there_14 : decode cX4_there 14 = .ok (.iload_n 2, 1) := by decide +kernel
theorem dX4_there_15 : decode cX4_there 15 = .ok (.invokevirtual 52, 3) := by decide +kernel
theorem dX4_there_18 : decode cX4_there 18 = .ok (.ifCond .eq 7, 3) := by decide +kernel
theorem dX4_there_21 : decode cX4_there 21 = .ok (.iconst 1, 1) := by decide +kernel
theorem dX4_there_22 : decode cX4_there 22 = .ok (.goto 4, 3) := by decide +kernel
theorem dX4_there_25 : decode cX4_there 25 = .ok (.iconst 0, 1) := by decide +kernel
theorem dX4_there_26 : decode cX4_there 26 = .ok (.iadd, 1) := by decide +kernel
theorem dX4_there_27 : decode cX4_there 27 = .ok (.istore_n 1, 1) := by decide +kernel
theorem dX4_there_28 : decode cX4_there 28 = .ok (.iinc 2 1, 3) := by decide +kernel
theorem dX4_there_31 : decode cX4_there 31 = .ok (.goto (-27), 3) := by decide +kernel
theorem dX4_there_34 : decode cX4_there 34 = .ok (.iload_n 1, 1) := by decide +kernel
theorem dX4_there_35 : decode cX4_there 35 = .ok (.ireturn, 1) := by decide +kernel
set_option maxRecDepth 20000 in
theorem ggX4_present_X4_there : GoodIn wsX4_present wsX4_there := goodIn_r _ [5, 6, 7, 8, 9, 4, 10, 11, 17, 18, 19, 20, 21, 22, 23, 24, 25] (by decide +kernel) (by decide +kernel)
set_option maxRecDepth 20000 in
theorem gX4_present_X4_there : GoodIn wsX4_present (wsV RX4 100 RX4 yX4_there wsX4_there) := goodIn_app (goodIn_of _ (by decide +kernel)) ggX4_present_X4_there
set_option maxRecDepth 20000 in
theorem ggX4_present_X4_ok : GoodIn wsX4_present wsX4_ok := goodIn_r _ [15, 16, 17, 18, 19, 20, 21, 22, 23, 24, 25] (by decide +kernel) (by decide +kernel)
set_option maxRecDepth 20000 in
theorem gX4_present_X4_ok : GoodIn wsX4_present (wsV RX4 97 RX4 yX4_ok wsX4_ok) := goodIn_app (goodIn_of _ (by decide +kernel)) ggX4_present_X4_ok
theorem dX4_present_0 : decode cX4_present 0 = .ok (.aload_n 0, 1) := by decide +kernel
theorem dX4_present_1 : decode cX4_present 1 = .ok (.aload_n 0, 1) := by decide +kernel
theorem dX4_present_2 : decode cX4_present 2 = .ok (.invokevirtual 100, 3) := by decide +kernel
theorem dX4_present_5 : decode cX4_present 5 = .ok (.invokevirtual 97, 3) := by decide +kernel
theorem dX4_present_8 : decode cX4_present 8 = .ok (.ireturn, 1) := by decide +kernel
set_option maxRecDepth 20000 in
theorem ggX4_isPresent_X4_isTalker : GoodIn wsX4_isPresent wsX4_isTalker := goodIn_r _ [6, 7, 8, 9, 5, 10, 16, 17, 18, 19, 20, 21, 22, 23, 24] (by decide +kernel) (by decide +kernel)
set_option maxRecDepth 20000 in
theorem gX4_isPresent_X4_isTalker : GoodIn wsX4_isPresent (wsV RX4 103 RX4 yX4_isTalker wsX4_isTalker) := goodIn_app (goodIn_of _ (by decide +kernel)) ggX4_isPresent_X4_isTalker
set_option maxRecDepth 20000 in
theorem ggX4_isPresent_X4_isThere : GoodIn wsX4_isPresent wsX4_isThere := goodIn_r _ [14, 15, 16, 17, 18, 19, 20, 21, 22, 23, 24] (by decide +kernel) (by decide +kernel)
set_option maxRecDepth 20000 in
theorem gX4_isPresent_X4_isThere : GoodIn wsX4_isPresent (wsV RX4 52 RX4 yX4_isThere wsX4_isThere) := goodIn_app (goodIn_of _ (by decide +kernel)) ggX4_isPresent_X4_isThere
theorem dX4_isPresent_0 : decode cX4_isPresent 0 = .ok (.aload_n 0, 1) := by decide +kernel
theorem dX4_isPresent_1 : decode cX4_isPresent 1 = .ok (.aload_n 0, 1) := by decide +kernel
theorem dX4_isPresent_2 : decode cX4_isPresent 2 = .ok (.iload_n 1, 1) := by decide +kernel
theorem dX4_isPresent_3 : decode cX4_isPresent 3 = .ok (.invokevirtual 103, 3) := by decide +kernel
theorem dX4_isPresent_6 : decode cX4_isPresent 6 = .ok (.ifCond .eq 7, 3) := by decide +kernel
theorem dX4_isPresent_9 : decode cX4_isPresent 9 = .ok (.iconst 0, 1) := by decide +kernel
theorem dX4_isPresent_10 : decode cX4_isPresent 10 = .ok (.goto 4, 3) := by decide +kernel
theorem dX4_isPresent_13 : decode cX4_isPresent 13 = .ok (.iconst 1, 1) := by decide +kernel
theorem dX4_isPresent_14 : decode cX4_isPresent 14 = .ok (.putfield 32, 3) := by decide +kernel
theorem dX4_isPresent_17 : decode cX4_isPresent 17 = .ok (.aload_n 0, 1) := by decide +kernel
theorem dX4_isPresent_18 : decode cX4_isPresent 18 = .ok (.getfield 32, 3) := by decide +kernel
theorem dX4_isPresent_21 : decode cX4_isPresent 21 = .ok (.ifCond .ne 15, 3) := by decide +kernel
theorem dX4_isPresent_24 : decode cX4_isPresent 24 = .ok (.aload_n 0, 1) := by decide +kernel
theorem dX4_isPresent_25 : decode cX4_isPresent 25 = .ok (.iload_n 1, 1) := by decide +kernel
theorem dX4_isPresent_26 : decode cX4_isPresent 26 = .ok (.invokevirtual 52, 3) := by decide +kernel
theorem dX4_isPresent_29 : decode cX4_isPresent 29 = .ok (.ifCond .eq 7, 3) := by decide +kernel
theorem dX4_isPresent_32 : decode cX4_isPresent 32 = .ok (.iconst 1, 1) := by decide +kernel
theorem dX4_isPresent_33 : decode cX4_isPresent 33 = .ok (.goto 4, 3) := by decide +kernel
theorem dX4_isPresent_36 : decode cX4_isPresent 36 = .ok (.iconst 0, 1) := by decide +kernel
theorem dX4_isPresent_37 : decode cX4_isPresent 37 = .ok (.ireturn, 1) := by decide +kernel
set_option maxRecDepth 20000 in
theorem ggX4_patienceOf_X4_isTalker : GoodIn wsX4_patienceOf wsX4_isTalker := goodIn_r _ [7, 8, 9, 10, 6, 11, 16, 17, 18, 19, 20, 21, 22, 23, 24] (by decide +kernel) (by decide +kernel)
set_option maxRecDepth 20000 in
theorem gX4_patienceOf_X4_isTalker : GoodIn wsX4_patienceOf (wsV RX4 103 RX4 yX4_isTalker wsX4_isTalker) := goodIn_app (goodIn_of _ (by decide +kernel)) ggX4_patienceOf_X4_isTalker
set_option maxRecDepth 20000 in
theorem ggX4_patienceOf_X4_no : GoodIn wsX4_patienceOf wsX4_no := goodIn_r _ [15, 1, 16, 17, 18, 19, 20, 21, 22, 23, 24] (by decide +kernel) (by decide +kernel)
set_option maxRecDepth 20000 in
theorem gX4_patienceOf_X4_no : GoodIn wsX4_patienceOf (wsV RX4 83 RX4 yX4_no wsX4_no) := goodIn_app (goodIn_of _ (by decide +kernel)) ggX4_patienceOf_X4_no
theorem dX4_patienceOf_0 : decode cX4_patienceOf 0 = .ok (.aload_n 0, 1) := by decide +kernel
theorem dX4_patienceOf_1 : decode cX4_patienceOf 1 = .ok (.iconst 0, 1) := by decide +kernel
theorem dX4_patienceOf_2 : decode cX4_patienceOf 2 = .ok (.putfield 32, 3) := by decide +kernel
theorem dX4_patienceOf_5 : decode cX4_patienceOf 5 = .ok (.aload_n 0, 1) := by decide +kernel
theorem dX4_patienceOf_6 : decode cX4_patienceOf 6 = .ok (.iload_n 1, 1) := by decide +kernel
theorem dX4_patienceOf_7 : decode cX4_patienceOf 7 = .ok (.invokevirtual 103, 3) := by decide +kernel
theorem dX4_patienceOf_10 : decode cX4_patienceOf 10 = .ok (.ifCond .eq 15, 3) := by decide +kernel
theorem dX4_patienceOf_13 : decode cX4_patienceOf 13 = .ok (.aload_n 0, 1) := by decide +kernel
theorem dX4_patienceOf_14 : decode cX4_patienceOf 14 = .ok (.getfield 26, 3) := by decide +kernel
theorem dX4_patienceOf_17 : decode cX4_patienceOf 17 = .ok (.bipush 30, 2) := by decide +kernel
theorem dX4_patienceOf_19 : decode cX4_patienceOf 19 = .ok (.iload_n 1, 1) := by decide +kernel
theorem dX4_patienceOf_20 : decode cX4_patienceOf 20 = .ok (.iadd, 1) := by decide +kernel
theorem dX4_patienceOf_21 : decode cX4_patienceOf 21 = .ok (.iaload, 1) := by decide +kernel
theorem dX4_patienceOf_22 : decode cX4_patienceOf 22 = .ok (.goto 8, 3) := by decide +kernel
theorem dX4_patienceOf_25 : decode cX4_patienceOf 25 = .ok (.aload_n 0, 1) := by decide +kernel
theorem dX4_patienceOf_26 : decode cX4_patienceOf 26 = .ok (.iconst 1, 1) := by decide +kernel
theorem dX4_patienceOf_27 : decode cX4_patienceOf 27 = .ok (.invokevirtual 83, 3) := by decide +kernel
theorem dX4_patienceOf_30 : decode cX4_patienceOf 30 = .ok (.ireturn, 1) := by decide +kernel
set_option maxRecDepth 20000 in
theorem ggX4_exitOf_X4_isTalker : GoodIn wsX4_exitOf wsX4_isTalker := goodIn_r _ [7, 8, 9, 10, 6, 11, 16, 17, 18, 19, 20, 21, 22, 23, 24] (by decide +kernel) (by decide +kernel)
set_option maxRecDepth 20000 in
theorem gX4_exitOf_X4_isTalker : GoodIn wsX4_exitOf (wsV RX4 103 RX4 yX4_isTalker wsX4_isTalker) := goodIn_app (goodIn_of _ (by decide +kernel)) ggX4_exitOf_X4_isTalker
set_option maxRecDepth 20000 in
theorem ggX4_exitOf_X4_no : GoodIn wsX4_exitOf wsX4_no := goodIn_r _ [15, 1, 16, 17, 18, 19, 20, 21, 22, 23, 24] (by decide +kernel) (by decide +kernel)
set_option maxRecDepth 20000 in
theorem gX4_exitOf_X4_no : GoodIn wsX4_exitOf (wsV RX4 83 RX4 yX4_no wsX4_no) := goodIn_app (goodIn_of _ (by decide +kernel)) ggX4_exitOf_X4_no
theorem dX4_exitOf_0 : decode cX4_exitOf 0 = .ok (.aload_n 0, 1) := by decide +kernel
theorem dX4_exitOf_1 : decode cX4_exitOf 1 = .ok (.iconst 0, 1) := by decide +kernel
theorem dX4_exitOf_2 : decode cX4_exitOf 2 = .ok (.putfield 32, 3) := by decide +kernel
theorem dX4_exitOf_5 : decode cX4_exitOf 5 = .ok (.aload_n 0, 1) := by decide +kernel
theorem dX4_exitOf_6 : decode cX4_exitOf 6 = .ok (.iload_n 1, 1) := by decide +kernel
theorem dX4_exitOf_7 : decode cX4_exitOf 7 = .ok (.invokevirtual 103, 3) := by decide +kernel
theorem dX4_exitOf_10 : decode cX4_exitOf 10 = .ok (.ifCond .eq 15, 3) := by decide +kernel
theorem dX4_exitOf_13 : decode cX4_exitOf 13 = .ok (.aload_n 0, 1) := by decide +kernel
theorem dX4_exitOf_14 : decode cX4_exitOf 14 = .ok (.getfield 26, 3) := by decide +kernel
theorem dX4_exitOf_17 : decode cX4_exitOf 17 = .ok (.bipush 36, 2) := by decide +kernel
theorem dX4_exitOf_19 : decode cX4_exitOf 19 = .ok (.iload_n 1, 1) := by decide +kernel
theorem dX4_exitOf_20 : decode cX4_exitOf 20 = .ok (.iadd, 1) := by decide +kernel
theorem dX4_exitOf_21 : decode cX4_exitOf 21 = .ok (.iaload, 1) := by decide +kernel
theorem dX4_exitOf_22 : decode cX4_exitOf 22 = .ok (.goto 8, 3) := by decide +kernel
theorem dX4_exitOf_25 : decode cX4_exitOf 25 = .ok (.aload_n 0, 1) := by decide +kernel
theorem dX4_exitOf_26 : decode cX4_exitOf 26 = .ok (.iconst 1, 1) := by decide +kernel
theorem dX4_exitOf_27 : decode cX4_exitOf 27 = .ok (.invokevirtual 83, 3) := by decide +kernel
theorem dX4_exitOf_30 : decode cX4_exitOf 30 = .ok (.ireturn, 1) := by decide +kernel
set_option maxRecDepth 20000 in
theorem ggX4_nextToGo_X4_isThere : GoodIn wsX4_nextToGo wsX4_isThere := goodIn_r _ [8, 3, 9, 10, 11, 12, 13, 14, 15, 16, 17] (by decide +kernel) (by decide +kernel)
set_option maxRecDepth 20000 in
theorem gX4_nextToGo_X4_isThere : GoodIn wsX4_nextToGo (wsV RX4 52 RX4 yX4_isThere wsX4_isThere) := goodIn_app (goodIn_of _ (by decide +kernel)) ggX4_nextToGo_X4_isThere
theorem dX4_nextToGo_0 : decode cX4_nextToGo 0 = .ok (.aload_n 0, 1) := by decide +kernel
theorem dX4_nextToGo_1 : decode cX4_nextToGo 1 = .ok (.iconst 0, 1) := by decide +kernel
theorem dX4_nextToGo_2 : decode cX4_nextToGo 2 = .ok (.putfield 32, 3) := by decide +kernel
theorem dX4_nextToGo_5 : decode cX4_nextToGo 5 = .ok (.iconst (-1), 1) := by decide +kernel
theorem dX4_nextToGo_6 : decode cX4_nextToGo 6 = .ok (.istore_n 1, 1) := by decide +kernel
theorem dX4_nextToGo_7 : decode cX4_nextToGo 7 = .ok (.iconst 0, 1) := by decide +kernel
theorem dX4_nextToGo_8 : decode cX4_nextToGo 8 = .ok (.istore_n 2, 1) := by decide +kernel
theorem dX4_nextToGo_9 : decode cX4_nextToGo 9 = .ok (.iload_n 2, 1) := by decide +kernel
theorem dX4_nextToGo_10 : decode cX4_nextToGo 10 = .ok (.aload_n 0, 1) := by decide +kernel
theorem dX4_nextToGo_11 : decode cX4_nextToGo 11 = .ok (.getfield 39, 3) := by decide +kernel
theorem dX4_nextToGo_14 : decode cX4_nextToGo 14 = .ok (.if_icmp .ge 45, 3) := by decide +kernel
theorem dX4_nextToGo_17 : decode cX4_nextToGo 17 = .ok (.aload_n 0, 1) := by decide +kernel
theorem dX4_nextToGo_18 : decode cX4_nextToGo 18 = .ok (.iload_n 2, 1) := by decide +kernel
theorem dX4_nextToGo_19 : decode cX4_nextToGo 19 = .ok (.invokevirtual 52, 3) := by decide +kernel
theorem dX4_nextToGo_22 : decode cX4_nextToGo 22 = .ok (.ifCond .eq 31, 3) := by decide +kernel
theorem dX4_nextToGo_25 : decode cX4_nextToGo 25 = .ok (.iload_n 1, 1) := by decide +kernel
theorem dX4_nextToGo_26 : decode cX4_nextToGo 26 = .ok (.iconst (-1), 1) := by decide +kernel
theorem dX4_nextToGo_27 : decode cX4_nextToGo 27 = .ok (.if_icmp .eq 24, 3) := by decide +kernel
theorem dX4_nextToGo_30 : decode cX4_nextToGo 30 = .ok (.aload_n 0, 1) := by decide +kernel
theorem dX4_nextToGo_31 : decode cX4_nextToGo 31 = .ok (.getfield 26, 3) := by decide +kernel
theorem dX4_nextToGo_34 : decode cX4_nextToGo 34 = .ok (.bipush 30, 2) := by decide +kernel
theorem dX4_nextToGo_36 : decode cX4_nextToGo 36 = .ok (.iload_n 2, 1) := by decide +kernel
theorem dX4_nextToGo_37 : decode cX4_nextToGo 37 = .ok (.iadd, 1) := by decide +kernel
theorem dX4_nextToGo_38 : decode cX4_nextToGo 38 = .ok (.iaload, 1) := by decide +kernel
theorem dX4_nextToGo_39 : decode cX4_nextToGo 39 = .ok (.aload_n 0, 1) := by decide +kernel
theorem dX4_nextToGo_40 : decode cX4_nextToGo 40 = .ok (.getfield 26, 3) := by decide +kernel
theorem dX4_nextToGo_43 : decode cX4_nextToGo 43 = .ok (.bipush 30, 2) := by decide +kernel
theorem dX4_nextToGo_45 : decode cX4_nextToGo 45 = .ok (.iload_n 1, 1) := by decide +kernel
theorem dX4_nextToGo_46 : decode cX4_nextToGo 46 = .ok (.iadd, 1) := by decide +kernel
theorem dX4_nextToGo_47 : decode cX4_nextToGo 47 = .ok (.iaload, 1) := by decide +kernel
theorem dX4_nextToGo_48 : decode cX4_nextToGo 48 = .ok (.if_icmp .ge 5, 3) := by decide +kernel
theorem dX4_nextToGo_51 : decode cX4_nextToGo 51 = .ok (.iload_n 2, 1) := by decide +kernel
theorem dX4_nextToGo_52 : decode cX4_nextToGo 52 = .ok (.istore_n 1, 1) := by decide +kernel
theorem dX4_nextToGo_53 : decode cX4_nextToGo 53 = .ok (.iinc 2 1, 3) := by decide +kernel
theorem dX4_nextToGo_56 : decode cX4_nextToGo 56 = .ok (.goto (-47), 3) := by decide +kernel
theorem dX4_nextToGo_59 : decode cX4_nextToGo 59 = .ok (.iload_n 1, 1) := by decide +kernel
theorem dX4_nextToGo_60 : decode cX4_nextToGo 60 = .ok (.ireturn, 1) := by decide +kernel
set_option maxRecDepth 20000 in
theorem ggX4_noiseBehind_X4_passes : GoodIn wsX4_noiseBehind wsX4_passes := goodIn_r _ [5, 6, 7, 8, 4, 9, 10, 11, 12, 13, 14, 15, 16, 17, 18, 19, 20, 21, 22, 23, 24, 25, 26, 27, 28, 29, 30, 31, 32, 33, 34, 35, 36, 37, 38, 39, 40, 41, 42, 43, 53, 54, 55, 56, 57, 58, 59, 60, 61] (by decide +kernel) (by decide +kernel)
set_option maxRecDepth 20000 in
theorem gX4_noiseBehind_X4_passes : GoodIn wsX4_noiseBehind (wsV RX4 94 RX4 yX4_passes wsX4_passes) := goodIn_app (goodIn_of _ (by decide +kernel)) ggX4_noiseBehind_X4_passes
set_option maxRecDepth 20000 in
theorem ggX4_noiseBehind_X4_noiseNow : GoodIn wsX4_noiseBehind wsX4_noiseNow := goodIn_r _ [35, 11, 53, 54, 55, 56, 57, 58, 59, 60, 61] (by decide +kernel) (by decide +kernel)
set_option maxRecDepth 20000 in
theorem gX4_noiseBehind_X4_noiseNow : GoodIn wsX4_noiseBehind (wsV RX4 48 RX4 yX4_noiseNow wsX4_noiseNow) := goodIn_app (goodIn_of _ (by decide +kernel)) ggX4_noiseBehind_X4_noiseNow
set_option maxRecDepth 20000 in
theorem ggX4_noiseBehind_X4_bringBack : GoodIn wsX4_noiseBehind wsX4_bringBack := goodIn_r _ [47, 48, 11, 49, 50, 51, 52, 53, 54, 55, 56, 57, 58, 59, 60, 61] (by decide +kernel) (by decide +kernel)
set_option maxRecDepth 20000 in
theorem gX4_noiseBehind_X4_bringBack : GoodIn wsX4_noiseBehind (wsV RX4 106 RX4 yX4_bringBack wsX4_bringBack) := goodIn_app (goodIn_of _ (by decide +kernel)) ggX4_noiseBehind_X4_bringBack
theorem dX4_noiseBehind_0 : decode cX4_noiseBehind 0 = .ok (.aload_n 0, 1) := by decide +kernel
theorem dX4_noiseBehind_1 : decode cX4_noiseBehind 1 = .ok (.iload_n 1, 1) := by decide +kernel
theorem dX4_noiseBehind_2 : decode cX4_noiseBehind 2 = .ok (.invokevirtual 94, 3) := by decide +kernel
theorem dX4_noiseBehind_5 : decode cX4_noiseBehind 5 = .ok (.pop, 1) := by decide +kernel
theorem dX4_noiseBehind_6 : decode cX4_noiseBehind 6 = .ok (.aload_n 0, 1) := by decide +kernel
theorem dX4_noiseBehind_7 : decode cX4_noiseBehind 7 = .ok (.invokevirtual 48, 3) := by decide +kernel
theorem dX4_noiseBehind_10 : decode cX4_noiseBehind 10 = .ok (.istore_n 2, 1) := by decide +kernel
theorem dX4_noiseBehind_11 : decode cX4_noiseBehind 11 = .ok (.aload_n 0, 1) := by decide +kernel
theorem dX4_noiseBehind_12 : decode cX4_noiseBehind 12 = .ok (.invokevirtual 106, 3) := by decide +kernel
theorem dX4_noiseBehind_15 : decode cX4_noiseBehind 15 = .ok (.iload_n 2, 1) := by decide +kernel
theorem dX4_noiseBehind_16 : decode cX4_noiseBehind 16 = .ok (.ireturn, 1) := by decide +kernel
set_option maxRecDepth 20000 in
theorem ggX4_noiseIn_X4_isIn : GoodIn wsX4_noiseIn wsX4_isIn := goodIn_r _ [5] (by decide +kernel) (by decide +kernel)
set_option maxRecDepth 20000 in
theorem gX4_noiseIn_X4_isIn : GoodIn wsX4_noiseIn (va_wsS RX4 35 yX4_isIn wsX4_isIn) := goodIn_app (goodIn_of _ (by decide +kernel)) ggX4_noiseIn_X4_isIn
set_option maxRecDepth 20000 in
theorem ggX4_noiseIn_X4_no : GoodIn wsX4_noiseIn wsX4_no := goodIn_r _ [9, 1, 69, 70, 71, 72, 73, 74, 75, 76, 77] (by decide +kernel) (by decide +kernel)
set_option maxRecDepth 20000 in
theorem gX4_noiseIn_X4_no : GoodIn wsX4_noiseIn (wsV RX4 83 RX4 yX4_no wsX4_no) := goodIn_app (goodIn_of _ (by decide +kernel)) ggX4_noiseIn_X4_no
set_option maxRecDepth 20000 in
theorem ggX4_noiseIn_X4_keep : GoodIn wsX4_noiseIn wsX4_keep := goodIn_r _ [13, 14, 15, 16, 17, 18, 19, 69, 70, 71, 72, 73, 74, 75, 76, 77] (by decide +kernel) (by decide +kernel)
set_option maxRecDepth 20000 in
theorem gX4_noiseIn_X4_keep : GoodIn wsX4_noiseIn (wsV RX4 109 RX4 yX4_keep wsX4_keep) := goodIn_app (goodIn_of _ (by decide +kernel)) ggX4_noiseIn_X4_keep
set_option maxRecDepth 20000 in
theorem ggX4_noiseIn_X4_noiseBehind : GoodIn wsX4_noiseIn wsX4_noiseBehind := goodIn_r _ [23, 24, 25, 26, 4, 27, 28, 29, 30, 31, 32, 14, 33, 34, 35, 36, 37, 38, 39, 40, 41, 42, 43, 44, 45, 46, 47, 48, 49, 50, 51, 52, 53, 54, 55, 56, 57, 58, 59, 60, 61, 62, 63, 64, 65, 66, 67, 68, 15, 16, 17, 18, 19, 69, 70, 71, 72, 73, 74, 75, 76, 77] (by decide +kernel) (by decide +kernel)
set_option maxRecDepth 20000 in
theorem gX4_noiseIn_X4_noiseBehind : GoodIn wsX4_noiseIn (wsV RX4 112 RX4 yX4_noiseBehind wsX4_noiseBehind) := goodIn_app (goodIn_of _ (by decide +kernel)) ggX4_noiseIn_X4_noiseBehind
theorem dX4_noiseIn_0 : decode cX4_noiseIn 0 = .ok (.aload_n 0, 1) := by decide +kernel
theorem dX4_noiseIn_1 : decode cX4_noiseIn 1 = .ok (.iconst 0, 1) := by decide +kernel
theorem dX4_noiseIn_2 : decode cX4_noiseIn 2 = .ok (.putfield 32, 3) := by decide +kernel
theorem dX4_noiseIn_5 : decode cX4_noiseIn 5 = .ok (.iload_n 1, 1) := by decide +kernel
theorem dX4_noiseIn_6 : decode cX4_noiseIn 6 = .ok (.iconst 1, 1) := by decide +kernel
theorem dX4_noiseIn_7 : decode cX4_noiseIn 7 = .ok (.bipush 60, 2) := by decide +kernel
theorem dX4_noiseIn_9 : decode cX4_noiseIn 9 = .ok (.invokestatic 35, 3) := by decide +kernel
theorem dX4_noiseIn_12 : decode cX4_noiseIn 12 = .ok (.ifCond .ne 9, 3) := by decide +kernel
theorem dX4_noiseIn_15 : decode cX4_noiseIn 15 = .ok (.aload_n 0, 1) := by decide +kernel
theorem dX4_noiseIn_16 : decode cX4_noiseIn 16 = .ok (.iconst 1, 1) := by decide +kernel
theorem dX4_noiseIn_17 : decode cX4_noiseIn 17 = .ok (.invokevirtual 83, 3) := by decide +kernel
theorem dX4_noiseIn_20 : decode cX4_noiseIn 20 = .ok (.ireturn, 1) := by decide +kernel
theorem dX4_noiseIn_21 : decode cX4_noiseIn 21 = .ok (.aload_n 0, 1) := by decide +kernel
theorem dX4_noiseIn_22 : decode cX4_noiseIn 22 = .ok (.invokevirtual 109, 3) := by decide +kernel
theorem dX4_noiseIn_25 : decode cX4_noiseIn 25 = .ok (.aload_n 0, 1) := by decide +kernel
theorem dX4_noiseIn_26 : decode cX4_noiseIn 26 = .ok (.iload_n 1, 1) := by decide +kernel
theorem dX4_noiseIn_27 : decode cX4_noiseIn 27 = .ok (.invokevirtual 112, 3) := by decide +kernel
theorem dX4_noiseIn_30 : decode cX4_noiseIn 30 = .ok (.ireturn, 1) := by decide +kernel
set_option maxRecDepth 20000 in
theorem ggX4_minutesUntilQuiet_X4_keep : GoodIn wsX4_minutesUntilQuiet wsX4_keep := goodIn_r _ [7, 2, 8, 9, 10, 11, 12, 54, 55, 56, 57, 58, 59, 60, 61, 62] (by decide +kernel) (by decide +kernel)
set_option maxRecDepth 20000 in
theorem gX4_minutesUntilQuiet_X4_keep : GoodIn wsX4_minutesUntilQuiet (wsV RX4 109 RX4 yX4_keep wsX4_keep) := goodIn_app (goodIn_of _ (by decide +kernel)) ggX4_minutesUntilQuiet_X4_keep
set_option maxRecDepth 20000 in
theorem ggX4_minutesUntilQuiet_X4_pass : GoodIn wsX4_minutesUntilQuiet wsX4_pass := goodIn_r _ [16, 17, 2, 18, 19, 20, 21, 22, 23, 24, 25, 26, 27, 28, 6, 29, 30, 31, 32, 33, 34, 35, 36, 37, 38, 39, 40, 41, 42, 43, 44, 45, 46, 47, 48, 49, 54, 55, 56, 57, 58, 59, 60, 61, 62] (by decide +kernel) (by decide +kernel)
set_option maxRecDepth 20000 in
theorem gX4_minutesUntilQuiet_X4_pass : GoodIn wsX4_minutesUntilQuiet (wsV RX4 76 RX4 yX4_pass wsX4_pass) := goodIn_app (goodIn_of _ (by decide +kernel)) ggX4_minutesUntilQuiet_X4_pass
set_option maxRecDepth 20000 in
theorem ggX4_minutesUntilQuiet_X4_bringBack : GoodIn wsX4_minutesUntilQuiet wsX4_bringBack := goodIn_r _ [53, 8, 2, 9, 10, 11, 12, 54, 55, 56, 57, 58, 59, 60, 61, 62] (by decide +kernel) (by decide +kernel)
set_option maxRecDepth 20000 in
theorem gX4_minutesUntilQuiet_X4_bringBack : GoodIn wsX4_minutesUntilQuiet (wsV RX4 106 RX4 yX4_bringBack wsX4_bringBack) := goodIn_app (goodIn_of _ (by decide +kernel)) ggX4_minutesUntilQuiet_X4_bringBack
theorem dX4_minutesUntilQuiet_0 : decode cX4_minutesUntilQuiet 0 = .ok (.aload_n 0, 1) := by decide +kernel
theorem dX4_minutesUntilQuiet_1 : decode cX4_minutesUntilQuiet 1 = .ok (.iconst 0, 1) := by decide +kernel
theorem dX4_minutesUntilQuiet_2 : decode cX4_minutesUntilQuiet 2 = .ok (.putfield 32, 3) := by decide +kernel
theorem dX4_minutesUntilQuiet_5 : decode cX4_minutesUntilQuiet 5 = .ok (.aload_n 0, 1) := by decide +kernel
theorem dX4_minutesUntilQuiet_6 : decode cX4_minutesUntilQuiet 6 = .ok (.invokevirtual 109, 3) := by decide +kernel
theorem dX4_minutesUntilQuiet_9 : decode cX4_minutesUntilQuiet 9 = .ok (.iconst 0, 1) := by decide +kernel
theorem dX4_minutesUntilQuiet_10 : decode cX4_minutesUntilQuiet 10 = .ok (.istore_n 1, 1) := by decide +kernel
theorem dX4_minutesUntilQuiet_11 : decode cX4_minutesUntilQuiet 11 = .ok (.iload_n 1, 1) := by decide +kernel
theorem dX4_minutesUntilQuiet_12 : decode cX4_minutesUntilQuiet 12 = .ok (.bipush 100, 2) := by decide +kernel
theorem dX4_minutesUntilQuiet_14 : decode cX4_minutesUntilQuiet 14 = .ok (.if_icmp .gt 23, 3) := by decide +kernel
theorem dX4_minutesUntilQuiet_17 : decode cX4_minutesUntilQuiet 17 = .ok (.aload_n 0, 1) := by decide +kernel
theorem dX4_minutesUntilQuiet_18 : decode cX4_minutesUntilQuiet 18 = .ok (.getfield 26, 3) := by decide +kernel
theorem dX4_minutesUntilQuiet_21 : decode cX4_minutesUntilQuiet 21 = .ok (.iconst 1, 1) := by decide +kernel
theorem dX4_minutesUntilQuiet_22 : decode cX4_minutesUntilQuiet 22 = .ok (.iaload, 1) := by decide +kernel
theorem dX4_minutesUntilQuiet_23 : decode cX4_minutesUntilQuiet 23 = .ok (.ifCond .le 14, 3) := by decide +kernel
theorem dX4_minutesUntilQuiet_26 : decode cX4_minutesUntilQuiet 26 = .ok (.aload_n 0, 1) := by decide +kernel
theorem dX4_minutesUntilQuiet_27 : decode cX4_minutesUntilQuiet 27 = .ok (.invokevirtual 76, 3) := by decide +kernel
theorem dX4_minutesUntilQuiet_30 : decode cX4_minutesUntilQuiet 30 = .ok (.pop, 1) := by decide +kernel
theorem dX4_minutesUntilQuiet_31 : decode cX4_minutesUntilQuiet 31 = .ok (.iinc 1 1, 3) := by decide +kernel
theorem dX4_minutesUntilQuiet_34 : decode cX4_minutesUntilQuiet 34 = .ok (.goto (-23), 3) := by decide +kernel
theorem dX4_minutesUntilQuiet_37 : decode cX4_minutesUntilQuiet 37 = .ok (.aload_n 0, 1) := by decide +kernel
theorem dX4_minutesUntilQuiet_38 : decode cX4_minutesUntilQuiet 38 = .ok (.invokevirtual 106, 3) := by decide +kernel
theorem dX4_minutesUntilQuiet_41 : decode cX4_minutesUntilQuiet 41 = .ok (.iload_n 1, 1) := by decide +kernel
theorem dX4_minutesUntilQuiet_42 : decode cX4_minutesUntilQuiet 42 = .ok (.bipush 100, 2) := by decide +kernel
theorem dX4_minutesUntilQuiet_44 : decode cX4_minutesUntilQuiet 44 = .ok (.if_icmp .le 7, 3) := by decide +kernel
theorem dX4_minutesUntilQuiet_47 : decode cX4_minutesUntilQuiet 47 = .ok (.iconst (-1), 1) := by decide +kernel
theorem dX4_minutesUntilQuiet_48 : decode cX4_minutesUntilQuiet 48 = .ok (.goto 4, 3) := by decide +kernel
theorem dX4_minutesUntilQuiet_51 : decode cX4_minutesUntilQuiet 51 = .ok (.iload_n 1, 1) := by decide +kernel
theorem dX4_minutesUntilQuiet_52 : decode cX4_minutesUntilQuiet 52 = .ok (.ireturn, 1) := by decide +kernel
set_option maxRecDepth 20000 in
theorem ggX4_minutesUntilExit_X4_isTalker : GoodIn wsX4_minutesUntilExit wsX4_isTalker := goodIn_r _ [6, 7, 8, 9, 5, 10, 65, 66, 67, 68, 69, 70, 71, 72, 73] (by decide +kernel) (by decide +kernel)
set_option maxRecDepth 20000 in
theorem gX4_minutesUntilExit_X4_isTalker : GoodIn wsX4_minutesUntilExit (wsV RX4 103 RX4 yX4_isTalker wsX4_isTalker) := goodIn_app (goodIn_of _ (by decide +kernel)) ggX4_minutesUntilExit_X4_isTalker
set_option maxRecDepth 20000 in
theorem ggX4_minutesUntilExit_X4_no : GoodIn wsX4_minutesUntilExit wsX4_no := goodIn_r _ [14, 1, 65, 66, 67, 68, 69, 70, 71, 72, 73] (by decide +kernel) (by decide +kernel)
set_option maxRecDepth 20000 in
theorem gX4_minutesUntilExit_X4_no : GoodIn wsX4_minutesUntilExit (wsV RX4 83 RX4 yX4_no wsX4_no) := goodIn_app (goodIn_of _ (by decide +kernel)) ggX4_minutesUntilExit_X4_no
set_option maxRecDepth 20000 in
theorem ggX4_minutesUntilExit_X4_keep : GoodIn wsX4_minutesUntilExit wsX4_keep := goodIn_r _ [18, 19, 20, 21, 22, 23, 24, 65, 66, 67, 68, 69, 70, 71, 72, 73] (by decide +kernel) (by decide +kernel)
set_option maxRecDepth 20000 in
theorem gX4_minutesUntilExit_X4_keep : GoodIn wsX4_minutesUntilExit (wsV RX4 109 RX4 yX4_keep wsX4_keep) := goodIn_app (goodIn_of _ (by decide +kernel)) ggX4_minutesUntilExit_X4_keep
set_option maxRecDepth 20000 in
theorem ggX4_minutesUntilExit_X4_isThere : GoodIn wsX4_minutesUntilExit wsX4_isThere := goodIn_r _ [28, 19, 65, 66, 67, 68, 69, 70, 71, 72, 73] (by decide +kernel) (by decide +kernel)
set_option maxRecDepth 20000 in
theorem gX4_minutesUntilExit_X4_isThere : GoodIn wsX4_minutesUntilExit (wsV RX4 52 RX4 yX4_isThere wsX4_isThere) := goodIn_app (goodIn_of _ (by decide +kernel)) ggX4_minutesUntilExit_X4_isThere
set_option maxRecDepth 20000 in
theorem ggX4_minutesUntilExit_X4_pass : GoodIn wsX4_minutesUntilExit wsX4_pass := goodIn_r _ [32, 33, 19, 34, 35, 36, 37, 7, 38, 39, 40, 41, 42, 43, 5, 44, 45, 46, 47, 48, 49, 50, 51, 52, 53, 54, 55, 56, 25, 26, 27, 28, 57, 58, 59, 60, 65, 66, 67, 68, 69, 70, 71, 72, 73] (by decide +kernel) (by decide +kernel)
set_option maxRecDepth 20000 in
theorem gX4_minutesUntilExit_X4_pass : GoodIn wsX4_minutesUntilExit (wsV RX4 76 RX4 yX4_pass wsX4_pass) := goodIn_app (goodIn_of _ (by decide +kernel)) ggX4_minutesUntilExit_X4_pass
set_option maxRecDepth 20000 in
theorem ggX4_minutesUntilExit_X4_bringBack : GoodIn wsX4_minutesUntilExit wsX4_bringBack := goodIn_r _ [64, 20, 19, 21, 22, 23, 24, 65, 66, 67, 68, 69, 70, 71, 72, 73] (by decide +kernel) (by decide +kernel)
set_option maxRecDepth 20000 in
theorem gX4_minutesUntilExit_X4_bringBack : GoodIn wsX4_minutesUntilExit (wsV RX4 106 RX4 yX4_bringBack wsX4_bringBack) := goodIn_app (goodIn_of _ (by decide +kernel)) ggX4_minutesUntilExit_X4_bringBack
theorem dX4_minutesUntilExit_0 : decode cX4_minutesUntilExit 0 = .ok (.aload_n 0, 1) := by decide +kernel
theorem dX4_minutesUntilExit_1 : decode cX4_minutesUntilExit 1 = .ok (.iconst 0, 1) := by decide +kernel
theorem dX4_minutesUntilExit_2 : decode cX4_minutesUntilExit 2 = .ok (.putfield 32, 3) := by decide +kernel
theorem dX4_minutesUntilExit_5 : decode cX4_minutesUntilExit 5 = .ok (.aload_n 0, 1) := by decide +kernel
theorem dX4_minutesUntilExit_6 : decode cX4_minutesUntilExit 6 = .ok (.iload_n 1, 1) := by decide +kernel
theorem dX4_minutesUntilExit_7 : decode cX4_minutesUntilExit 7 = .ok (.invokevirtual 103, 3) := by decide +kernel
theorem dX4_minutesUntilExit_10 : decode cX4_minutesUntilExit 10 = .ok (.ifCond .ne 9, 3) := by decide +kernel
theorem dX4_minutesUntilExit_13 : decode cX4_minutesUntilExit 13 = .ok (.aload_n 0, 1) := by decide +kernel
theorem dX4_minutesUntilExit_14 : decode cX4_minutesUntilExit 14 = .ok (.iconst 1, 1) := by decide +kernel
theorem dX4_minutesUntilExit_15 : decode cX4_minutesUntilExit 15 = .ok (.invokevirtual 83, 3) := by decide +kernel
theorem dX4_minutesUntilExit_18 : decode cX4_minutesUntilExit 18 = .ok (.ireturn, 1) := by decide +kernel
theorem dX4_minutesUntilExit_19 : decode cX4_minutesUntilExit 19 = .ok (.aload_n 0, 1) := by decide +kernel
theorem dX4_minutesUntilExit_20 : decode cX4_minutesUntilExit 20 = .ok (.invokevirtual 109, 3) := by decide +kernel
theorem dX4_minutesUntilExit_23 : decode cX4_minutesUntilExit 23 = .ok (.iconst 0, 1) := by decide +kernel
theorem dX4_minutesUntilExit_24 : decode cX4_minutesUntilExit 24 = .ok (.istore_n 2, 1) := by decide +kernel
theorem dX4_minutesUntilExit_25 : decode cX4_minutesUntilExit 25 = .ok (.iload_n 2, 1) := by decide +kernel
theorem dX4_minutesUntilExit_26 : decode cX4_minutesUntilExit 26 = .ok (.bipush 100, 2) := by decide +kernel
theorem dX4_minutesUntilExit_28 : decode cX4_minutesUntilExit 28 = .ok (.if_icmp .gt 22, 3) := by decide +kernel
theorem dX4_minutesUntilExit_31 : decode cX4_minutesUntilExit 31 = .ok (.aload_n 0, 1) := by decide +kernel
theorem dX4_minutesUntilExit_32 : decode cX4_minutesUntilExit 32 = .ok (.iload_n 1, 1) := by decide +kernel
theorem dX4_minutesUntilExit_33 : decode cX4_minutesUntilExit 33 = .ok (.invokevirtual 52, 3) := by decide +kernel
theorem dX4_minutesUntilExit_36 : decode cX4_minutesUntilExit 36 = .ok (.ifCond .eq 14, 3) := by decide +kernel
theorem dX4_minutesUntilExit_39 : decode cX4_minutesUntilExit 39 = .ok (.aload_n 0, 1) := by decide +kernel
theorem dX4_minutesUntilExit_40 : decode cX4_minutesUntilExit 40 = .ok (.invokevirtual 76, 3) := by decide +kernel
theorem dX4_minutesUntilExit_43 : decode cX4_minutesUntilExit 43 = .ok (.pop, 1) := by decide +kernel
theorem dX4_minutesUntilExit_44 : decode cX4_minutesUntilExit 44 = .ok (.iinc 2 1, 3) := by decide +kernel
theorem dX4_minutesUntilExit_47 : decode cX4_minutesUntilExit 47 = .ok (.goto (-22), 3) := by decide +kernel
theorem dX4_minutesUntilExit_50 : decode cX4_minutesUntilExit 50 = .ok (.aload_n 0, 1) := by decide +kernel
theorem dX4_minutesUntilExit_51 : decode cX4_minutesUntilExit 51 = .ok (.invokevirtual 106, 3) := by decide +kernel
theorem dX4_minutesUntilExit_54 : decode cX4_minutesUntilExit 54 = .ok (.iload_n 2, 1) := by decide +kernel
theorem dX4_minutesUntilExit_55 : decode cX4_minutesUntilExit 55 = .ok (.bipush 100, 2) := by decide +kernel
theorem dX4_minutesUntilExit_57 : decode cX4_minutesUntilExit 57 = .ok (.if_icmp .le 7, 3) := by decide +kernel
theorem dX4_minutesUntilExit_60 : decode cX4_minutesUntilExit 60 = .ok (.iconst (-1), 1) := by decide +kernel
theorem dX4_minutesUntilExit_61 : decode cX4_minutesUntilExit 61 = .ok (.goto 4, 3) := by decide +kernel
theorem dX4_minutesUntilExit_64 : decode cX4_minutesUntilExit 64 = .ok (.iload_n 2, 1) := by decide +kernel
theorem dX4_minutesUntilExit_65 : decode cX4_minutesUntilExit 65 = .ok (.ireturn, 1) := by decide +kernel
set_option maxRecDepth 20000 in
theorem ggX4_gearBest_X4_keep : GoodIn wsX4_gearBest wsX4_keep := goodIn_r _ [6, 1, 7, 8, 9, 10, 11, 61, 62, 63, 64, 65, 66, 67, 68, 69] (by decide +kernel) (by decide +kernel)
set_option maxRecDepth 20000 in
theorem gX4_gearBest_X4_keep : GoodIn wsX4_gearBest (wsV RX4 109 RX4 yX4_keep wsX4_keep) := goodIn_app (goodIn_of _ (by decide +kernel)) ggX4_gearBest_X4_keep
set_option maxRecDepth 20000 in
theorem ggX4_gearBest_X4_noiseBehind : GoodIn wsX4_gearBest wsX4_noiseBehind := goodIn_r _ [15, 16, 17, 18, 5, 19, 20, 21, 22, 23, 24, 1, 25, 26, 27, 28, 29, 30, 31, 32, 33, 34, 35, 36, 37, 38, 39, 40, 41, 42, 43, 44, 45, 46, 47, 48, 49, 50, 51, 52, 53, 54, 55, 56, 57, 58, 59, 60, 7, 8, 9, 10, 11, 61, 62, 63, 64, 65, 66, 67, 68, 69] (by decide +kernel) (by decide +kernel)
set_option maxRecDepth 20000 in
theorem gX4_gearBest_X4_noiseBehind : GoodIn wsX4_gearBest (wsV RX4 112 RX4 yX4_noiseBehind wsX4_noiseBehind) := goodIn_app (goodIn_of _ (by decide +kernel)) ggX4_gearBest_X4_noiseBehind
theorem dX4_gearBest_0 : decode cX4_gearBest 0 = .ok (.iconst (-1), 1) := by decide +kernel
theorem dX4_gearBest_1 : decode cX4_gearBest 1 = .ok (.istore_n 1, 1) := by decide +kernel
theorem dX4_gearBest_2 : decode cX4_gearBest 2 = .ok (.iconst 0, 1) := by decide +kernel
theorem dX4_gearBest_3 : decode cX4_gearBest 3 = .ok (.istore_n 2, 1) := by decide +kernel
theorem dX4_gearBest_4 : decode cX4_gearBest 4 = .ok (.aload_n 0, 1) := by decide +kernel
theorem dX4_gearBest_5 : decode cX4_gearBest 5 = .ok (.invokevirtual 109, 3) := by decide +kernel
theorem dX4_gearBest_8 : decode cX4_gearBest 8 = .ok (.iconst 2, 1) := by decide +kernel
theorem dX4_gearBest_9 : decode cX4_gearBest 9 = .ok (.istore_n 3, 1) := by decide +kernel
theorem dX4_gearBest_10 : decode cX4_gearBest 10 = .ok (.iload_n 3, 1) := by decide +kernel
theorem dX4_gearBest_11 : decode cX4_gearBest 11 = .ok (.bipush 10, 2) := by decide +kernel
theorem dX4_gearBest_13 : decode cX4_gearBest 13 = .ok (.if_icmp .ge 43, 3) := by decide +kernel
theorem dX4_gearBest_16 : decode cX4_gearBest 16 = .ok (.aload_n 0, 1) := by decide +kernel
theorem dX4_gearBest_17 : decode cX4_gearBest 17 = .ok (.getfield 26, 3) := by decide +kernel
theorem dX4_gearBest_20 : decode cX4_gearBest 20 = .ok (.iconst 5, 1) := by decide +kernel
theorem dX4_gearBest_21 : decode cX4_gearBest 21 = .ok (.iload_n 3, 1) := by decide +kernel
theorem dX4_gearBest_22 : decode cX4_gearBest 22 = .ok (.iastore, 1) := by decide +kernel
theorem dX4_gearBest_23 : decode cX4_gearBest 23 = .ok (.aload_n 0, 1) := by decide +kernel
theorem dX4_gearBest_24 : decode cX4_gearBest 24 = .ok (.bipush 10, 2) := by decide +kernel
theorem dX4_gearBest_26 : decode cX4_gearBest 26 = .ok (.invokevirtual 112, 3) := by decide +kernel
theorem dX4_gearBest_29 : decode cX4_gearBest 29 = .ok (.istore 4, 2) := by decide +kernel
theorem dX4_gearBest_31 : decode cX4_gearBest 31 = .ok (.iload_n 1, 1) := by decide +kernel
theorem dX4_gearBest_32 : decode cX4_gearBest 32 = .ok (.iconst (-1), 1) := by decide +kernel
theorem dX4_gearBest_33 : decode cX4_gearBest 33 = .ok (.if_icmp .eq 12, 3) := by decide +kernel
theorem dX4_gearBest_36 : decode cX4_gearBest 36 = .ok (.iload 4, 2) := by decide +kernel
theorem dX4_gearBest_38 : decode cX4_gearBest 38 = .ok (.iload_n 2, 1) := by decide +kernel
theorem dX4_gearBest_39 : decode cX4_gearBest 39 = .ok (.if_icmp .lt 6, 3) := by decide +kernel
theorem dX4_gearBest_42 : decode cX4_gearBest 42 = .ok (.goto 8, 3) := by decide +kernel
theorem dX4_gearBest_45 : decode cX4_gearBest 45 = .ok (.iload_n 3, 1) := by decide +kernel
theorem dX4_gearBest_46 : decode cX4_gearBest 46 = .ok (.istore_n 1, 1) := by decide +kernel
theorem dX4_gearBest_47 : decode cX4_gearBest 47 = .ok (.iload 4, 2) := by decide +kernel
theorem dX4_gearBest_49 : decode cX4_gearBest 49 = .ok (.istore_n 2, 1) := by decide +kernel
theorem dX4_gearBest_50 : decode cX4_gearBest 50 = .ok (.iinc 3 1, 3) := by decide +kernel
theorem dX4_gearBest_53 : decode cX4_gearBest 53 = .ok (.goto (-43), 3) := by decide +kernel
theorem dX4_gearBest_56 : decode cX4_gearBest 56 = .ok (.iload_n 1, 1) := by decide +kernel
theorem dX4_gearBest_57 : decode cX4_gearBest 57 = .ok (.ireturn, 1) := by decide +kernel
set_option maxRecDepth 20000 in
theorem ggX4_bestGear_X4_gearBest : GoodIn wsX4_bestGear wsX4_gearBest := goodIn_r _ [5, 6, 7, 8, 9, 4, 10, 11, 12, 13, 14, 15, 16, 17, 18, 19, 20, 21, 22, 23, 24, 25, 26, 27, 28, 29, 30, 31, 32, 33, 34, 35, 36, 37, 38, 39, 40, 41, 42, 43, 44, 45, 46, 47, 48, 49, 50, 51, 52, 53, 54, 55, 56, 57, 58, 59, 60, 61, 62, 63, 64, 70, 71, 72, 73, 74, 75, 76, 77, 78] (by decide +kernel) (by decide +kernel)
set_option maxRecDepth 20000 in
theorem gX4_bestGear_X4_gearBest : GoodIn wsX4_bestGear (wsV RX4 115 RX4 yX4_gearBest wsX4_gearBest) := goodIn_app (goodIn_of _ (by decide +kernel)) ggX4_bestGear_X4_gearBest
set_option maxRecDepth 20000 in
theorem ggX4_bestGear_X4_ok : GoodIn wsX4_bestGear wsX4_ok := goodIn_r _ [68, 69, 70, 71, 72, 73, 74, 75, 76, 77, 78] (by decide +kernel) (by decide +kernel)
set_option maxRecDepth 20000 in
theorem gX4_bestGear_X4_ok : GoodIn wsX4_bestGear (wsV RX4 97 RX4 yX4_ok wsX4_ok) := goodIn_app (goodIn_of _ (by decide +kernel)) ggX4_bestGear_X4_ok
theorem dX4_bestGear_0 : decode cX4_bestGear 0 = .ok (.aload_n 0, 1) := by decide +kernel
theorem dX4_bestGear_1 : decode cX4_bestGear 1 = .ok (.aload_n 0, 1) := by decide +kernel
theorem dX4_bestGear_2 : decode cX4_bestGear 2 = .ok (.invokevirtual 115, 3) := by decide +kernel
theorem dX4_bestGear_5 : decode cX4_bestGear 5 = .ok (.invokevirtual 97, 3) := by decide +kernel
theorem dX4_bestGear_8 : decode cX4_bestGear 8 = .ok (.ireturn, 1) := by decide +kernel
set_option maxRecDepth 20000 in
theorem ggX4_pushBest_X4_keep : GoodIn wsX4_pushBest wsX4_keep := goodIn_r _ [6, 1, 7, 8, 9, 10, 11, 65, 66, 67, 68, 69, 70, 71, 72, 73] (by decide +kernel) (by decide +kernel)
set_option maxRecDepth 20000 in
theorem gX4_pushBest_X4_keep : GoodIn wsX4_pushBest (wsV RX4 109 RX4 yX4_keep wsX4_keep) := goodIn_app (goodIn_of _ (by decide +kernel)) ggX4_pushBest_X4_keep
set_option maxRecDepth 20000 in
theorem ggX4_pushBest_X4_toFront : GoodIn wsX4_pushBest wsX4_toFront := goodIn_r _ [15, 1, 65, 66, 67, 68, 69, 70, 71, 72, 73] (by decide +kernel) (by decide +kernel)
set_option maxRecDepth 20000 in
theorem gX4_pushBest_X4_toFront : GoodIn wsX4_pushBest (wsV RX4 90 RX4 yX4_toFront wsX4_toFront) := goodIn_app (goodIn_of _ (by decide +kernel)) ggX4_pushBest_X4_toFront
set_option maxRecDepth 20000 in
theorem ggX4_pushBest_X4_noiseBehind : GoodIn wsX4_pushBest wsX4_noiseBehind := goodIn_r _ [19, 20, 21, 22, 5, 23, 24, 25, 26, 27, 28, 1, 29, 30, 31, 32, 33, 34, 35, 36, 37, 38, 39, 40, 41, 42, 43, 44, 45, 46, 47, 48, 49, 50, 51, 52, 53, 54, 55, 56, 57, 58, 59, 60, 61, 62, 63, 64, 7, 8, 9, 10, 11, 65, 66, 67, 68, 69, 70, 71, 72, 73] (by decide +kernel) (by decide +kernel)
set_option maxRecDepth 20000 in
theorem gX4_pushBest_X4_noiseBehind : GoodIn wsX4_pushBest (wsV RX4 112 RX4 yX4_noiseBehind wsX4_noiseBehind) := goodIn_app (goodIn_of _ (by decide +kernel)) ggX4_pushBest_X4_noiseBehind
theorem dX4_pushBest_0 : decode cX4_pushBest 0 = .ok (.iconst (-1), 1) := by decide +kernel
theorem dX4_pushBest_1 : decode cX4_pushBest 1 = .ok (.istore_n 1, 1) := by decide +kernel
theorem dX4_pushBest_2 : decode cX4_pushBest 2 = .ok (.iconst 0, 1) := by decide +kernel
theorem dX4_pushBest_3 : decode cX4_pushBest 3 = .ok (.istore_n 2, 1) := by decide +kernel
theorem dX4_pushBest_4 : decode cX4_pushBest 4 = .ok (.aload_n 0, 1) := by decide +kernel
theorem dX4_pushBest_5 : decode cX4_pushBest 5 = .ok (.invokevirtual 109, 3) := by decide +kernel
theorem dX4_pushBest_8 : decode cX4_pushBest 8 = .ok (.iconst 0, 1) := by decide +kernel
theorem dX4_pushBest_9 : decode cX4_pushBest 9 = .ok (.istore_n 3, 1) := by decide +kernel
theorem dX4_pushBest_10 : decode cX4_pushBest 10 = .ok (.iload_n 3, 1) := by decide +kernel
theorem dX4_pushBest_11 : decode cX4_pushBest 11 = .ok (.aload_n 0, 1) := by decide +kernel
theorem dX4_pushBest_12 : decode cX4_pushBest 12 = .ok (.getfield 26, 3) := by decide +kernel
theorem dX4_pushBest_15 : decode cX4_pushBest 15 = .ok (.iconst 1, 1) := by decide +kernel
theorem dX4_pushBest_16 : decode cX4_pushBest 16 = .ok (.iaload, 1) := by decide +kernel
theorem dX4_pushBest_17 : decode cX4_pushBest 17 = .ok (.if_icmp .ge 40, 3) := by decide +kernel
theorem dX4_pushBest_20 : decode cX4_pushBest 20 = .ok (.aload_n 0, 1) := by decide +kernel
theorem dX4_pushBest_21 : decode cX4_pushBest 21 = .ok (.iload_n 3, 1) := by decide +kernel
theorem dX4_pushBest_22 : decode cX4_pushBest 22 = .ok (.invokevirtual 90, 3) := by decide +kernel
theorem dX4_pushBest_25 : decode cX4_pushBest 25 = .ok (.aload_n 0, 1) := by decide +kernel
theorem dX4_pushBest_26 : decode cX4_pushBest 26 = .ok (.iconst 5, 1) := by decide +kernel
theorem dX4_pushBest_27 : decode cX4_pushBest 27 = .ok (.invokevirtual 112, 3) := by decide +kernel
theorem dX4_pushBest_30 : decode cX4_pushBest 30 = .ok (.istore 4, 2) := by decide +kernel
theorem dX4_pushBest_32 : decode cX4_pushBest 32 = .ok (.iload_n 1, 1) := by decide +kernel
theorem dX4_pushBest_33 : decode cX4_pushBest 33 = .ok (.iconst (-1), 1) := by decide +kernel
theorem dX4_pushBest_34 : decode cX4_pushBest 34 = .ok (.if_icmp .eq 12, 3) := by decide +kernel
theorem dX4_pushBest_37 : decode cX4_pushBest 37 = .ok (.iload 4, 2) := by decide +kernel
theorem dX4_pushBest_39 : decode cX4_pushBest 39 = .ok (.iload_n 2, 1) := by decide +kernel
theorem dX4_pushBest_40 : decode cX4_pushBest 40 = .ok (.if_icmp .lt 6, 3) := by decide +kernel
theorem dX4_pushBest_43 : decode cX4_pushBest 43 = .ok (.goto 8, 3) := by decide +kernel
theorem dX4_pushBest_46 : decode cX4_pushBest 46 = .ok (.iload_n 3, 1) := by decide +kernel
theorem dX4_pushBest_47 : decode cX4_pushBest 47 = .ok (.istore_n 1, 1) := by decide +kernel
theorem dX4_pushBest_48 : decode cX4_pushBest 48 = .ok (.iload 4, 2) := by decide +kernel
theorem dX4_pushBest_50 : decode cX4_pushBest 50 = .ok (.istore_n 2, 1) := by decide +kernel
theorem dX4_pushBest_51 : decode cX4_pushBest 51 = .ok (.iinc 3 1, 3) := by decide +kernel
theorem dX4_pushBest_54 : decode cX4_pushBest 54 = .ok (.goto (-44), 3) := by decide +kernel
theorem dX4_pushBest_57 : decode cX4_pushBest 57 = .ok (.iload_n 1, 1) := by decide +kernel
theorem dX4_pushBest_58 : decode cX4_pushBest 58 = .ok (.ireturn, 1) := by decide +kernel
set_option maxRecDepth 20000 in
theorem ggX4_bestPush_X4_pushBest : GoodIn wsX4_bestPush wsX4_pushBest := goodIn_r _ [5, 6, 7, 8, 9, 4, 10, 11, 12, 13, 14, 15, 16, 17, 18, 19, 20, 21, 22, 23, 24, 25, 26, 27, 28, 29, 30, 31, 32, 33, 34, 35, 36, 37, 38, 39, 40, 41, 42, 43, 44, 45, 46, 47, 48, 49, 50, 51, 52, 53, 54, 55, 56, 57, 58, 59, 60, 61, 62, 63, 64, 65, 66, 67, 68, 74, 75, 76, 77, 78, 79, 80, 81, 82] (by decide +kernel) (by decide +kernel)
set_option maxRecDepth 20000 in
theorem gX4_bestPush_X4_pushBest : GoodIn wsX4_bestPush (wsV RX4 118 RX4 yX4_pushBest wsX4_pushBest) := goodIn_app (goodIn_of _ (by decide +kernel)) ggX4_bestPush_X4_pushBest
set_option maxRecDepth 20000 in
theorem ggX4_bestPush_X4_ok : GoodIn wsX4_bestPush wsX4_ok := goodIn_r _ [72, 73, 74, 75, 76, 77, 78, 79, 80, 81, 82] (by decide +kernel) (by decide +kernel)
set_option maxRecDepth 20000 in
theorem gX4_bestPush_X4_ok : GoodIn wsX4_bestPush (wsV RX4 97 RX4 yX4_ok wsX4_ok) := goodIn_app (goodIn_of _ (by decide +kernel)) ggX4_bestPush_X4_ok
theorem dX4_bestPush_0 : decode cX4_bestPush 0 = .ok (.aload_n 0, 1) := by decide +kernel
theorem dX4_bestPush_1 : decode cX4_bestPush 1 = .ok (.aload_n 0, 1) := by decide +kernel
theorem dX4_bestPush_2 : decode cX4_bestPush 2 = .ok (.invokevirtual 118, 3) := by decide +kernel
theorem dX4_bestPush_5 : decode cX4_bestPush 5 = .ok (.invokevirtual 97, 3) := by decide +kernel
theorem dX4_bestPush_8 : decode cX4_bestPush 8 = .ok (.ireturn, 1) := by decide +kernel
set_option maxRecDepth 20000 in
theorem ggX4_bottlesIn_X4_isIn : GoodIn wsX4_bottlesIn wsX4_isIn := goodIn_r _ [6] (by decide +kernel) (by decide +kernel)
set_option maxRecDepth 20000 in
theorem gX4_bottlesIn_X4_isIn : GoodIn wsX4_bottlesIn (va_wsS RX4 35 yX4_isIn wsX4_isIn) := goodIn_app (goodIn_of _ (by decide +kernel)) ggX4_bottlesIn_X4_isIn
set_option maxRecDepth 20000 in
theorem ggX4_bottlesIn_X4_no : GoodIn wsX4_bottlesIn wsX4_no := goodIn_r _ [10, 1, 65, 66, 67, 68, 69, 70, 71, 72, 73] (by decide +kernel) (by decide +kernel)
set_option maxRecDepth 20000 in
theorem gX4_bottlesIn_X4_no : GoodIn wsX4_bottlesIn (wsV RX4 83 RX4 yX4_no wsX4_no) := goodIn_app (goodIn_of _ (by decide +kernel)) ggX4_bottlesIn_X4_no
set_option maxRecDepth 20000 in
theorem ggX4_bottlesIn_X4_keep : GoodIn wsX4_bottlesIn wsX4_keep := goodIn_r _ [14, 2, 15, 16, 17, 18, 19, 65, 66, 67, 68, 69, 70, 71, 72, 73] (by decide +kernel) (by decide +kernel)
set_option maxRecDepth 20000 in
theorem gX4_bottlesIn_X4_keep : GoodIn wsX4_bottlesIn (wsV RX4 109 RX4 yX4_keep wsX4_keep) := goodIn_app (goodIn_of _ (by decide +kernel)) ggX4_bottlesIn_X4_keep
set_option maxRecDepth 20000 in
theorem ggX4_bottlesIn_X4_passes : GoodIn wsX4_bottlesIn wsX4_passes := goodIn_r _ [23, 24, 25, 26, 5, 27, 28, 2, 29, 30, 31, 32, 33, 34, 35, 36, 37, 38, 39, 40, 41, 42, 43, 44, 45, 46, 47, 48, 49, 50, 51, 52, 53, 54, 55, 56, 57, 58, 59, 60, 65, 66, 67, 68, 69, 70, 71, 72, 73] (by decide +kernel) (by decide +kernel)
set_option maxRecDepth 20000 in
theorem gX4_bottlesIn_X4_passes : GoodIn wsX4_bottlesIn (wsV RX4 94 RX4 yX4_passes wsX4_passes) := goodIn_app (goodIn_of _ (by decide +kernel)) ggX4_bottlesIn_X4_passes
set_option maxRecDepth 20000 in
theorem ggX4_bottlesIn_X4_bringBack : GoodIn wsX4_bottlesIn wsX4_bringBack := goodIn_r _ [64, 15, 2, 16, 17, 18, 19, 65, 66, 67, 68, 69, 70, 71, 72, 73] (by decide +kernel) (by decide +kernel)
set_option maxRecDepth 20000 in
theorem gX4_bottlesIn_X4_bringBack : GoodIn wsX4_bottlesIn (wsV RX4 106 RX4 yX4_bringBack wsX4_bringBack) := goodIn_app (goodIn_of _ (by decide +kernel)) ggX4_bottlesIn_X4_bringBack
theorem dX4_bottlesIn_0 : decode cX4_bottlesIn 0 = .ok (.aload_n 0, 1) := by decide +kernel
theorem dX4_bottlesIn_1 : decode cX4_bottlesIn 1 = .ok (.iconst 0, 1) := by decide +kernel
theorem dX4_bottlesIn_2 : decode cX4_bottlesIn 2 = .ok (.putfield 32, 3) := by decide +kernel
theorem dX4_bottlesIn_5 : decode cX4_bottlesIn 5 = .ok (.iload_n 1, 1) := by decide +kernel
theorem dX4_bottlesIn_6 : decode cX4_bottlesIn 6 = .ok (.iconst 1, 1) := by decide +kernel
theorem dX4_bottlesIn_7 : decode cX4_bottlesIn 7 = .ok (.bipush 60, 2) := by decide +kernel
theorem dX4_bottlesIn_9 : decode cX4_bottlesIn 9 = .ok (.invokestatic 35, 3) := by decide +kernel
theorem dX4_bottlesIn_12 : decode cX4_bottlesIn 12 = .ok (.ifCond .ne 9, 3) := by decide +kernel
theorem dX4_bottlesIn_15 : decode cX4_bottlesIn 15 = .ok (.aload_n 0, 1) := by decide +kernel
theorem dX4_bottlesIn_16 : decode cX4_bottlesIn 16 = .ok (.iconst 1, 1) := by decide +kernel
theorem dX4_bottlesIn_17 : decode cX4_bottlesIn 17 = .ok (.invokevirtual 83, 3) := by decide +kernel
theorem dX4_bottlesIn_20 : decode cX4_bottlesIn 20 = .ok (.ireturn, 1) := by decide +kernel
theorem dX4_bottlesIn_21 : decode cX4_bottlesIn 21 = .ok (.aload_n 0, 1) := by decide +kernel
theorem dX4_bottlesIn_22 : decode cX4_bottlesIn 22 = .ok (.invokevirtual 109, 3) := by decide +kernel
theorem dX4_bottlesIn_25 : decode cX4_bottlesIn 25 = .ok (.aload_n 0, 1) := by decide +kernel
theorem dX4_bottlesIn_26 : decode cX4_bottlesIn 26 = .ok (.iload_n 1, 1) := by decide +kernel
theorem dX4_bottlesIn_27 : decode cX4_bottlesIn 27 = .ok (.invokevirtual 94, 3) := by decide +kernel
theorem dX4_bottlesIn_30 : decode cX4_bottlesIn 30 = .ok (.pop, 1) := by decide +kernel
theorem dX4_bottlesIn_31 : decode cX4_bottlesIn 31 = .ok (.aload_n 0, 1) := by decide +kernel
theorem dX4_bottlesIn_32 : decode cX4_bottlesIn 32 = .ok (.getfield 26, 3) := by decide +kernel
theorem dX4_bottlesIn_35 : decode cX4_bottlesIn 35 = .ok (.iconst 3, 1) := by decide +kernel
theorem dX4_bottlesIn_36 : decode cX4_bottlesIn 36 = .ok (.iaload, 1) := by decide +kernel
theorem dX4_bottlesIn_37 : decode cX4_bottlesIn 37 = .ok (.istore_n 2, 1) := by decide +kernel
theorem dX4_bottlesIn_38 : decode cX4_bottlesIn 38 = .ok (.aload_n 0, 1) := by decide +kernel
theorem dX4_bottlesIn_39 : decode cX4_bottlesIn 39 = .ok (.invokevirtual 106, 3) := by decide +kernel
theorem dX4_bottlesIn_42 : decode cX4_bottlesIn 42 = .ok (.iload_n 2, 1) := by decide +kernel
theorem dX4_bottlesIn_43 : decode cX4_bottlesIn 43 = .ok (.ireturn, 1) := by decide +kernel
set_option maxRecDepth 20000 in
theorem ggX4_meanPatience_X4_isThere : GoodIn wsX4_meanPatience wsX4_isThere := goodIn_r _ [8, 3, 13, 14, 15, 16, 17, 18, 19, 20, 21] (by decide +kernel) (by decide +kernel)
set_option maxRecDepth 20000 in
theorem gX4_meanPatience_X4_isThere : GoodIn wsX4_meanPatience (wsV RX4 52 RX4 yX4_isThere wsX4_isThere) := goodIn_app (goodIn_of _ (by decide +kernel)) ggX4_meanPatience_X4_isThere
set_option maxRecDepth 20000 in
theorem ggX4_meanPatience_X4_there : GoodIn wsX4_meanPatience wsX4_there := goodIn_r _ [12, 2, 4, 5, 6, 7, 8, 3, 13, 14, 15, 16, 17, 18, 19, 20, 21] (by decide +kernel) (by decide +kernel)
set_option maxRecDepth 20000 in
theorem gX4_meanPatience_X4_there : GoodIn wsX4_meanPatience (wsV RX4 100 RX4 yX4_there wsX4_there) := goodIn_app (goodIn_of _ (by decide +kernel)) ggX4_meanPatience_X4_there
theorem dX4_meanPatience_0 : decode cX4_meanPatience 0 = .ok (.aload_n 0, 1) := by decide +kernel
theorem dX4_meanPatience_1 : decode cX4_meanPatience 1 = .ok (.iconst 0, 1) := by decide +kernel
theorem dX4_meanPatience_2 : decode cX4_meanPatience 2 = .ok (.putfield 32, 3) := by decide +kernel
theorem dX4_meanPatience_5 : decode cX4_meanPatience 5 = .ok (.iconst 0, 1) := by decide +kernel
theorem dX4_meanPatience_6 : decode cX4_meanPatience 6 = .ok (.istore_n 1, 1) := by decide +kernel
theorem dX4_meanPatience_7 : decode cX4_meanPatience 7 = .ok (.iconst 0, 1) := by decide +kernel
theorem dX4_meanPatience_8 : decode cX4_meanPatience 8 = .ok (.istore_n 2, 1) := by decide +kernel
theorem dX4_meanPatience_9 : decode cX4_meanPatience 9 = .ok (.iload_n 2, 1) := by decide +kernel
theorem dX4_meanPatience_10 : decode cX4_meanPatience 10 = .ok (.aload_n 0, 1) := by decide +kernel
theorem dX4_meanPatience_11 : decode cX4_meanPatience 11 = .ok (.getfield 39, 3) := by decide +kernel
theorem dX4_meanPatience_14 : decode cX4_meanPatience 14 = .ok (.if_icmp .ge 33, 3) := by decide +kernel
theorem dX4_meanPatience_17 : decode cX4_meanPatience 17 = .ok (.iload_n 1, 1) := by decide +kernel
theorem dX4_meanPatience_18 : decode cX4_meanPatience 18 = .ok (.aload_n 0, 1) := by decide +kernel
theorem dX4_meanPatience_19 : decode cX4_meanPatience 19 = .ok (.iload_n 2, 1) := by decide +kernel
theorem dX4_meanPatience_20 : decode cX4_meanPatience 20 = .ok (.invokevirtual 52, 3) := by decide +kernel
theorem dX4_meanPatience_23 : decode cX4_meanPatience 23 = .ok (.ifCond .eq 15, 3) := by decide +kernel
theorem dX4_meanPatience_26 : decode cX4_meanPatience 26 = .ok (.aload_n 0, 1) := by decide +kernel
theorem dX4_meanPatience_27 : decode cX4_meanPatience 27 = .ok (.getfield 26, 3) := by decide +kernel
theorem dX4_meanPatience_30 : decode cX4_meanPatience 30 = .ok (.bipush 30, 2) := by decide +kernel
theorem dX4_meanPatience_32 : decode cX4_meanPatience 32 = .ok (.iload_n 2, 1) := by decide +kernel
theorem dX4_meanPatience_33 : decode cX4_meanPatience 33 = .ok (.iadd, 1) := by decide +kernel
theorem dX4_meanPatience_34 : decode cX4_meanPatience 34 = .ok (.iaload, 1) := by decide +kernel
theorem dX4_meanPatience_35 : decode cX4_meanPatience 35 = .ok (.goto 4, 3) := by decide +kernel
theorem dX4_meanPatience_38 : decode cX4_meanPatience 38 = .ok (.iconst 0, 1) := by decide +kernel
theorem dX4_meanPatience_39 : decode cX4_meanPatience 39 = .ok (.iadd, 1) := by decide +kernel
theorem dX4_meanPatience_40 : decode cX4_meanPatience 40 = .ok (.istore_n 1, 1) := by decide +kernel
theorem dX4_meanPatience_41 : decode cX4_meanPatience 41 = .ok (.iinc 2 1, 3) := by decide +kernel
theorem dX4_meanPatience_44 : decode cX4_meanPatience 44 = .ok (.goto (-35), 3) := by decide +kernel
theorem dX4_meanPatience_47 : decode cX4_meanPatience 47 = .ok (.aload_n 0, 1) := by decide +kernel
theorem dX4_meanPatience_48 : decode cX4_meanPatience 48 = .ok (.invokevirtual 100, 3) := by decide +kernel
theorem dX4_meanPatience_51 : decode cX4_meanPatience 51 = .ok (.ifCond .ne 7, 3) := by decide +kernel
theorem dX4_meanPatience_54 : decode cX4_meanPatience 54 = .ok (.dconst 0, 1) := by decide +kernel
theorem dX4_meanPatience_55 : decode cX4_meanPatience 55 = .ok (.goto 11, 3) := by decide +kernel
theorem dX4_meanPatience_58 : decode cX4_meanPatience 58 = .ok (.iload_n 1, 1) := by decide +kernel
theorem dX4_meanPatience_59 : decode cX4_meanPatience 59 = .ok (.i2d, 1) := by decide +kernel
theorem dX4_meanPatience_60 : decode cX4_meanPatience 60 = .ok (.aload_n 0, 1) := by decide +kernel
theorem dX4_meanPatience_61 : decode cX4_meanPatience 61 = .ok (.invokevirtual 100, 3) := by decide +kernel
theorem dX4_meanPatience_64 : decode cX4_meanPatience 64 = .ok (.i2d, 1) := by decide +kernel
theorem dX4_meanPatience_65 : decode cX4_meanPatience 65 = .ok (.ddiv, 1) := by decide +kernel
theorem dX4_meanPatience_66 : decode cX4_meanPatience 66 = .ok (.dreturn, 1) := by decide +kernel
set_option maxRecDepth 20000 in
theorem ggX4_digest_X4_noiseNow : GoodIn wsX4_digest wsX4_noiseNow := goodIn_r _ [13, 3, 81, 82, 83, 84, 85, 86, 87, 88, 89] (by decide +kernel) (by decide +kernel)
set_option maxRecDepth 20000 in
theorem gX4_digest_X4_noiseNow : GoodIn wsX4_digest (wsV RX4 48 RX4 yX4_noiseNow wsX4_noiseNow) := goodIn_app (goodIn_of _ (by decide +kernel)) ggX4_digest_X4_noiseNow
set_option maxRecDepth 20000 in
theorem ggX4_digest_X4_there : GoodIn wsX4_digest wsX4_there := goodIn_r _ [17, 6, 18, 19, 20, 12, 21, 3, 81, 82, 83, 84, 85, 86, 87, 88, 89] (by decide +kernel) (by decide +kernel)
set_option maxRecDepth 20000 in
theorem gX4_digest_X4_there : GoodIn wsX4_digest (wsV RX4 100 RX4 yX4_there wsX4_there) := goodIn_app (goodIn_of _ (by decide +kernel)) ggX4_digest_X4_there
set_option maxRecDepth 20000 in
theorem ggX4_digest_X4_gearBest : GoodIn wsX4_digest wsX4_gearBest := goodIn_r _ [25, 3, 26, 27, 28, 12, 29, 30, 31, 32, 33, 34, 35, 36, 37, 38, 39, 40, 41, 42, 43, 44, 45, 46, 4, 47, 48, 49, 50, 6, 51, 52, 53, 54, 55, 56, 57, 5, 58, 59, 60, 61, 62, 63, 64, 9, 10, 11, 13, 18, 19, 20, 21, 65, 66, 67, 68, 69, 70, 71, 72, 81, 82, 83, 84, 85, 86, 87, 88, 89] (by decide +kernel) (by decide +kernel)
set_option maxRecDepth 20000 in
theorem gX4_digest_X4_gearBest : GoodIn wsX4_digest (wsV RX4 115 RX4 yX4_gearBest wsX4_gearBest) := goodIn_app (goodIn_of _ (by decide +kernel)) ggX4_digest_X4_gearBest
set_option maxRecDepth 20000 in
theorem ggX4_digest_X4_pushBest : GoodIn wsX4_digest wsX4_pushBest := goodIn_r _ [76, 3, 26, 27, 28, 12, 29, 30, 31, 32, 33, 34, 77, 78, 79, 80, 35, 36, 37, 38, 39, 40, 41, 42, 43, 44, 45, 46, 4, 47, 48, 49, 50, 6, 51, 52, 53, 54, 55, 56, 57, 5, 58, 59, 60, 61, 62, 63, 64, 9, 10, 11, 13, 18, 19, 20, 21, 65, 66, 67, 68, 69, 70, 71, 72, 81, 82, 83, 84, 85, 86, 87, 88, 89] (by decide +kernel) (by decide +kernel)
set_option maxRecDepth 20000 in
theorem gX4_digest_X4_pushBest : GoodIn wsX4_digest (wsV RX4 118 RX4 yX4_pushBest wsX4_pushBest) := goodIn_app (goodIn_of _ (by decide +kernel)) ggX4_digest_X4_pushBest
set_option maxRecDepth 20000 in
theorem ggX4_digest_X4_isThere : GoodIn wsX4_digest wsX4_isThere := goodIn_r _ [21, 3, 81, 82, 83, 84, 85, 86, 87, 88, 89] (by decide +kernel) (by decide +kernel)
set_option maxRecDepth 20000 in
theorem gX4_digest_X4_isThere : GoodIn wsX4_digest (wsV RX4 52 RX4 yX4_isThere wsX4_isThere) := goodIn_app (goodIn_of _ (by decide +kernel)) ggX4_digest_X4_isThere
theorem dX4_digest_0 : decode cX4_digest 0 = .ok (.aload_n 0, 1) := by decide +kernel
theorem dX4_digest_1 : decode cX4_digest 1 = .ok (.iconst 0, 1) := by decide +kernel
theorem dX4_digest_2 : decode cX4_digest 2 = .ok (.putfield 32, 3) := by decide +kernel
theorem dX4_digest_5 : decode cX4_digest 5 = .ok (.bipush 13, 2) := by decide +kernel
theorem dX4_digest_7 : decode cX4_digest 7 = .ok (.newarray .int, 2) := by decide +kernel
theorem dX4_digest_9 : decode cX4_digest 9 = .ok (.dup, 1) := by decide +kernel
theorem dX4_digest_10 : decode cX4_digest 10 = .ok (.iconst 0, 1) := by decide +kernel
theorem dX4_digest_11 : decode cX4_digest 11 = .ok (.aload_n 0, 1) := by decide +kernel
theorem dX4_digest_12 : decode cX4_digest 12 = .ok (.getfield 26, 3) := by decide +kernel
theorem dX4_digest_15 : decode cX4_digest 15 = .ok (.iconst 0, 1) := by decide +kernel
theorem dX4_digest_16 : decode cX4_digest 16 = .ok (.iaload, 1) := by decide +kernel
theorem dX4_digest_17 : decode cX4_digest 17 = .ok (.iastore, 1) := by decide +kernel
theorem dX4_digest_18 : decode cX4_digest 18 = .ok (.dup, 1) := by decide +kernel
theorem dX4_digest_19 : decode cX4_digest 19 = .ok (.iconst 1, 1) := by decide +kernel
theorem dX4_digest_20 : decode cX4_digest 20 = .ok (.aload_n 0, 1) := by decide +kernel
theorem dX4_digest_21 : decode cX4_digest 21 = .ok (.getfield 26, 3) := by decide +kernel
theorem dX4_digest_24 : decode cX4_digest 24 = .ok (.iconst 1, 1) := by decide +kernel
theorem dX4_digest_25 : decode cX4_digest 25 = .ok (.iaload, 1) := by decide +kernel
theorem dX4_digest_26 : decode cX4_digest 26 = .ok (.iastore, 1) := by decide +kernel
theorem dX4_digest_27 : decode cX4_digest 27 = .ok (.dup, 1) := by decide +kernel
theorem dX4_digest_28 : decode cX4_digest 28 = .ok (.iconst 2, 1) := by decide +kernel
theorem dX4_digest_29 : decode cX4_digest 29 = .ok (.aload_n 0, 1) := by decide +kernel
theorem dX4_digest_30 : decode cX4_digest 30 = .ok (.invokevirtual 48, 3) := by decide +kernel
theorem dX4_digest_33 : decode cX4_digest 33 = .ok (.iastore, 1) := by decide +kernel
theorem dX4_digest_34 : decode cX4_digest 34 = .ok (.dup, 1) := by decide +kernel
theorem dX4_digest_35 : decode cX4_digest 35 = .ok (.iconst 3, 1) := by decide +kernel
theorem dX4_digest_36 : decode cX4_digest 36 = .ok (.aload_n 0, 1) := by decide +kernel
theorem dX4_digest_37 : decode cX4_digest 37 = .ok (.getfield 26, 3) := by decide +kernel
theorem dX4_digest_40 : decode cX4_digest 40 = .ok (.iconst 2, 1) := by decide +kernel
theorem dX4_digest_41 : decode cX4_digest 41 = .ok (.iaload, 1) := by decide +kernel
theorem dX4_digest_42 : decode cX4_digest 42 = .ok (.iastore, 1) := by decide +kernel
theorem dX4_digest_43 : decode cX4_digest 43 = .ok (.dup, 1) := by decide +kernel
theorem dX4_digest_44 : decode cX4_digest 44 = .ok (.iconst 4, 1) := by decide +kernel
theorem dX4_digest_45 : decode cX4_digest 45 = .ok (.aload_n 0, 1) := by decide +kernel
theorem dX4_digest_46 : decode cX4_digest 46 = .ok (.getfield 26, 3) := by decide +kernel
theorem dX4_digest_49 : decode cX4_digest 49 = .ok (.iconst 3, 1) := by decide +kernel
theorem dX4_digest_50 : decode cX4_digest 50 = .ok (.iaload, 1) := by decide +kernel
theorem dX4_digest_51 : decode cX4_digest 51 = .ok (.iastore, 1) := by decide +kernel
theorem dX4_digest_52 : decode cX4_digest 52 = .ok (.dup, 1) := by decide +kernel
theorem dX4_digest_53 : decode cX4_digest 53 = .ok (.iconst 5, 1) := by decide +kernel
theorem dX4_digest_54 : decode cX4_digest 54 = .ok (.aload_n 0, 1) := by decide +kernel
theorem dX4_digest_55 : decode cX4_digest 55 = .ok (.getfield 26, 3) := by decide +kernel
theorem dX4_digest_58 : decode cX4_digest 58 = .ok (.iconst 4, 1) := by decide +kernel
theorem dX4_digest_59 : decode cX4_digest 59 = .ok (.iaload, 1) := by decide +kernel
theorem dX4_digest_60 : decode cX4_digest 60 = .ok (.iastore, 1) := by decide +kernel
theorem dX4_digest_61 : decode cX4_digest 61 = .ok (.dup, 1) := by decide +kernel
theorem dX4_digest_62 : decode cX4_digest 62 = .ok (.bipush 6, 2) := by decide +kernel
theorem dX4_digest_64 : decode cX4_digest 64 = .ok (.aload_n 0, 1) := by decide +kernel
theorem dX4_digest_65 : decode cX4_digest 65 = .ok (.getfield 26, 3) := by decide +kernel
theorem dX4_digest_68 : decode cX4_digest 68 = .ok (.iconst 5, 1) := by decide +kernel
theorem dX4_digest_69 : decode cX4_digest 69 = .ok (.iaload, 1) := by decide +kernel
theorem dX4_digest_70 : decode cX4_digest 70 = .ok (.iastore, 1) := by decide +kernel
theorem dX4_digest_71 : decode cX4_digest 71 = .ok (.dup, 1) := by decide +kernel
theorem dX4_digest_72 : decode cX4_digest 72 = .ok (.bipush 7, 2) := by decide +kernel
theorem dX4_digest_74 : decode cX4_digest 74 = .ok (.aload_n 0, 1) := by decide +kernel
theorem dX4_digest_75 : decode cX4_digest 75 = .ok (.getfield 9, 3) := by decide +kernel
theorem dX4_digest_78 : decode cX4_digest 78 = .ok (.iastore, 1) := by decide +kernel
theorem dX4_digest_79 : decode cX4_digest 79 = .ok (.dup, 1) := by decide +kernel
theorem dX4_digest_80 : decode cX4_digest 80 = .ok (.bipush 8, 2) := by decide +kernel
theorem dX4_digest_82 : decode cX4_digest 82 = .ok (.aload_n 0, 1) := by decide +kernel
theorem dX4_digest_83 : decode cX4_digest 83 = .ok (.getfield 13, 3) := by decide +kernel
theorem dX4_digest_86 : decode cX4_digest 86 = .ok (.iastore, 1) := by decide +kernel
theorem dX4_digest_87 : decode cX4_digest 87 = .ok (.dup, 1) := by decide +kernel
theorem dX4_digest_88 : decode cX4_digest 88 = .ok (.bipush 9, 2) := by decide +kernel
theorem dX4_digest_90 : decode cX4_digest 90 = .ok (.aload_n 0, 1) := by decide +kernel
theorem dX4_digest_91 : decode cX4_digest 91 = .ok (.getfield 39, 3) := by decide +kernel
theorem dX4_digest_94 : decode cX4_digest 94 = .ok (.iastore, 1) := by decide +kernel
theorem dX4_digest_95 : decode cX4_digest 95 = .ok (.dup, 1) := by decide +kernel
theorem dX4_digest_96 : decode cX4_digest 96 = .ok (.bipush 10, 2) := by decide +kernel
theorem dX4_digest_98 : decode cX4_digest 98 = .ok (.aload_n 0, 1) := by decide +kernel
theorem dX4_digest_99 : decode cX4_digest 99 = .ok (.invokevirtual 100, 3) := by decide +kernel
theorem dX4_digest_102 : decode cX4_digest 102 = .ok (.iastore, 1) := by decide +kernel
theorem dX4_digest_103 : decode cX4_digest 103 = .ok (.dup, 1) := by decide +kernel
theorem dX4_digest_104 : decode cX4_digest 104 = .ok (.bipush 11, 2) := by decide +kernel
theorem dX4_digest_106 : decode cX4_digest 106 = .ok (.aload_n 0, 1) := by decide +kernel
theorem dX4_digest_107 : decode cX4_digest 107 = .ok (.invokevirtual 115, 3) := by decide +kernel
theorem dX4_digest_110 : decode cX4_digest 110 = .ok (.iastore, 1) := by decide +kernel
theorem dX4_digest_111 : decode cX4_digest 111 = .ok (.dup, 1) := by decide +kernel
theorem dX4_digest_112 : decode cX4_digest 112 = .ok (.bipush 12, 2) := by decide +kernel
theorem dX4_digest_114 : decode cX4_digest 114 = .ok (.aload_n 0, 1) := by decide +kernel
theorem dX4_digest_115 : decode cX4_digest 115 = .ok (.invokevirtual 118, 3) := by decide +kernel
theorem dX4_digest_118 : decode cX4_digest 118 = .ok (.iastore, 1) := by decide +kernel
theorem dX4_digest_119 : decode cX4_digest 119 = .ok (.astore_n 1, 1) := by decide +kernel
theorem dX4_digest_120 : decode cX4_digest 120 = .ok (.ldc2_w 121, 3) := by decide +kernel
theorem dX4_digest_123 : decode cX4_digest 123 = .ok (.lstore_n 2, 1) := by decide +kernel
theorem dX4_digest_124 : decode cX4_digest 124 = .ok (.aload_n 1, 1) := by decide +kernel
theorem dX4_digest_125 : decode cX4_digest 125 = .ok (.astore 4, 2) := by decide +kernel
theorem dX4_digest_127 : decode cX4_digest 127 = .ok (.aload 4, 2) := by decide +kernel
theorem dX4_digest_129 : decode cX4_digest 129 = .ok (.arraylength, 1) := by decide +kernel
theorem dX4_digest_130 : decode cX4_digest 130 = .ok (.istore 5, 2) := by decide +kernel
theorem dX4_digest_132 : decode cX4_digest 132 = .ok (.iconst 0, 1) := by decide +kernel
theorem dX4_digest_133 : decode cX4_digest 133 = .ok (.istore 6, 2) := by decide +kernel
theorem dX4_digest_135 : decode cX4_digest 135 = .ok (.iload 6, 2) := by decide +kernel
theorem dX4_digest_137 : decode cX4_digest 137 = .ok (.iload 5, 2) := by decide +kernel
theorem dX4_digest_139 : decode cX4_digest 139 = .ok (.if_icmp .ge 26, 3) := by decide +kernel
theorem dX4_digest_142 : decode cX4_digest 142 = .ok (.aload 4, 2) := by decide +kernel
theorem dX4_digest_144 : decode cX4_digest 144 = .ok (.iload 6, 2) := by decide +kernel
theorem dX4_digest_146 : decode cX4_digest 146 = .ok (.iaload, 1) := by decide +kernel
theorem dX4_digest_147 : decode cX4_digest 147 = .ok (.istore 7, 2) := by decide +kernel
theorem dX4_digest_149 : decode cX4_digest 149 = .ok (.lload_n 2, 1) := by decide +kernel
theorem dX4_digest_150 : decode cX4_digest 150 = .ok (.ldc2_w 123, 3) := by decide +kernel
theorem dX4_digest_153 : decode cX4_digest 153 = .ok (.lmul, 1) := by decide +kernel
theorem dX4_digest_154 : decode cX4_digest 154 = .ok (.iload 7, 2) := by decide +kernel
theorem dX4_digest_156 : decode cX4_digest 156 = .ok (.i2l, 1) := by decide +kernel
theorem dX4_digest_157 : decode cX4_digest 157 = .ok (.ladd, 1) := by decide +kernel
theorem dX4_digest_158 : decode cX4_digest 158 = .ok (.lstore_n 2, 1) := by decide +kernel
theorem dX4_digest_159 : decode cX4_digest 159 = .ok (.iinc 6 1, 3) := by decide +kernel
theorem dX4_digest_162 : decode cX4_digest 162 = .ok (.goto (-27), 3) := by decide +kernel
theorem dX4_digest_165 : decode cX4_digest 165 = .ok (.iconst 0, 1) := by decide +kernel
theorem dX4_digest_166 : decode cX4_digest 166 = .ok (.istore 4, 2) := by decide +kernel
theorem dX4_digest_168 : decode cX4_digest 168 = .ok (.iload 4, 2) := by decide +kernel
theorem dX4_digest_170 : decode cX4_digest 170 = .ok (.aload_n 0, 1) := by decide +kernel
theorem dX4_digest_171 : decode cX4_digest 171 = .ok (.getfield 26, 3) := by decide +kernel
theorem dX4_digest_174 : decode cX4_digest 174 = .ok (.iconst 1, 1) := by decide +kernel
theorem dX4_digest_175 : decode cX4_digest 175 = .ok (.iaload, 1) := by decide +kernel
theorem dX4_digest_176 : decode cX4_digest 176 = .ok (.if_icmp .ge 43, 3) := by decide +kernel
theorem dX4_digest_179 : decode cX4_digest 179 = .ok (.lload_n 2, 1) := by decide +kernel
theorem dX4_digest_180 : decode cX4_digest 180 = .ok (.ldc2_w 123, 3) := by decide +kernel
theorem dX4_digest_183 : decode cX4_digest 183 = .ok (.lmul, 1) := by decide +kernel
theorem dX4_digest_184 : decode cX4_digest 184 = .ok (.aload_n 0, 1) := by decide +kernel
theorem dX4_digest_185 : decode cX4_digest 185 = .ok (.getfield 26, 3) := by decide +kernel
theorem dX4_digest_188 : decode cX4_digest 188 = .ok (.bipush 6, 2) := by decide +kernel
theorem dX4_digest_190 : decode cX4_digest 190 = .ok (.iload 4, 2) := by decide +kernel
theorem dX4_digest_192 : decode cX4_digest 192 = .ok (.iadd, 1) := by decide +kernel
theorem dX4_digest_193 : decode cX4_digest 193 = .ok (.iaload, 1) := by decide +kernel
theorem dX4_digest_194 : decode cX4_digest 194 = .ok (.i2l, 1) := by decide +kernel
theorem dX4_digest_195 : decode cX4_digest 195 = .ok (.ladd, 1) := by decide +kernel
theorem dX4_digest_196 : decode cX4_digest 196 = .ok (.ldc2_w 123, 3) := by decide +kernel
theorem dX4_digest_199 : decode cX4_digest 199 = .ok (.lmul, 1) := by decide +kernel
theorem dX4_digest_200 : decode cX4_digest 200 = .ok (.aload_n 0, 1) := by decide +kernel
