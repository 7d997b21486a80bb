theorem inJx8e188 : ∀ w ∈ wsJx8e1880, w ∈ lw_tbl := by decide +kernel
theorem inJ9 : ∀ w ∈ wsJ90, w ∈ lw_tbl := by decide +kernel
theorem inJ0 : ∀ w ∈ wsJ00, w ∈ lw_tbl := by decide +kernel
theorem dX0_init_0 : decode cX0_init 0 = .ok (.aload_n 0, 1) := by decide +kernel
theorem dX0_init_1 : decode cX0_init 1 = .ok (.invokespecial 3, 3) := by decide +kernel
theorem dX0_init_4 : decode cX0_init 4 = .ok (.aload_n 0, 1) := by decide +kernel
theorem dX0_init_5 : decode cX0_init 5 = .ok (.bipush 12, 2) := by decide +kernel
theorem dX0_init_7 : decode cX0_init 7 = .ok (.newarray .int, 2) := by decide +kernel
theorem dX0_init_9 : decode cX0_init 9 = .ok (.putfield 9, 3) := by decide +kernel
theorem dX0_init_12 : decode cX0_init 12 = .ok (.aload_n 0, 1) := by decide +kernel
theorem dX0_init_13 : decode cX0_init 13 = .ok (.bipush 12, 2) := by decide +kernel
theorem dX0_init_15 : decode cX0_init 15 = .ok (.newarray .int, 2) := by decide +kernel
theorem dX0_init_17 : decode cX0_init 17 = .ok (.putfield 15, 3) := by decide +kernel
theorem dX0_init_20 : decode cX0_init 20 = .ok (.aload_n 0, 1) := by decide +kernel
theorem dX0_init_21 : decode cX0_init 21 = .ok (.iconst 0, 1) := by decide +kernel
theorem dX0_init_22 : decode cX0_init 22 = .ok (.putfield 18, 3) := by decide +kernel
theorem dX0_init_25 : decode cX0_init 25 = .ok (.return_, 1) := by decide +kernel
theorem dX0_copyFrom_0 : decode cX0_copyFrom 0 = .ok (.iconst 0, 1) := by decide +kernel
theorem dX0_copyFrom_1 : decode cX0_copyFrom 1 = .ok (.istore_n 2, 1) := by decide +kernel
theorem dX0_copyFrom_2 : decode cX0_copyFrom 2 = .ok (.iload_n 2, 1) := by decide +kernel
theorem dX0_copyFrom_3 : decode cX0_copyFrom 3 = .ok (.aload_n 1, 1) := by decide +kernel
theorem dX0_copyFrom_4 : decode cX0_copyFrom 4 = .ok (.getfield 18, 3) := by decide +kernel
theorem dX0_copyFrom_7 : decode cX0_copyFrom 7 = .ok (.if_icmp .ge 33, 3) := by decide +kernel
theorem dX0_copyFrom_10 : decode cX0_copyFrom 10 = .ok (.aload_n 0, 1) := by decide +kernel
theorem dX0_copyFrom_11 : decode cX0_copyFrom 11 = .ok (.getfield 9, 3) := by decide +kernel
theorem dX0_copyFrom_14 : decode cX0_copyFrom 14 = .ok (.iload_n 2, 1) := by decide +kernel
theorem dX0_copyFrom_15 : decode cX0_copyFrom 15 = .ok (.aload_n 1, 1) := by decide +kernel
theorem dX0_copyFrom_16 : decode cX0_copyFrom 16 = .ok (.getfield 9, 3) := by decide +kernel
theorem dX0_copyFrom_19 : decode cX0_copyFrom 19 = .ok (.iload_n 2, 1) := by decide +kernel
theorem dX0_copyFrom_20 : decode cX0_copyFrom 20 = .ok (.iaload, 1) := by decide +kernel
theorem dX0_copyFrom_21 : decode cX0_copyFrom 21 = .ok (.iastore, 1) := by decide +kernel
theorem dX0_copyFrom_22 : decode cX0_copyFrom 22 = .ok (.aload_n 0, 1) := by decide +kernel
theorem dX0_copyFrom_23 : decode cX0_copyFrom 23 = .ok (.getfield 15, 3) := by decide +kernel
theorem dX0_copyFrom_26 : decode cX0_copyFrom 26 = .ok (.iload_n 2, 1) := by decide +kernel
theorem dX0_copyFrom_27 : decode cX0_copyFrom 27 = .ok (.aload_n 1, 1) := by decide +kernel
theorem dX0_copyFrom_28 : decode cX0_copyFrom 28 = .ok (.getfield 15, 3) := by decide +kernel
theorem dX0_copyFrom_31 : decode cX0_copyFrom 31 = .ok (.iload_n 2, 1) := by decide +kernel
theorem dX0_copyFrom_32 : decode cX0_copyFrom 32 = .ok (.iaload, 1) := by decide +kernel
theorem dX0_copyFrom_33 : decode cX0_copyFrom 33 = .ok (.iastore, 1) := by decide +kernel
theorem dX0_copyFrom_34 : decode cX0_copyFrom 34 = .ok (.iinc 2 1, 3) := by decide +kernel
theorem dX0_copyFrom_37 : decode cX0_copyFrom 37 = .ok (.goto (-35), 3) := by decide +kernel
theorem dX0_copyFrom_40 : decode cX0_copyFrom 40 = .ok (.aload_n 0, 1) := by decide +kernel
theorem dX0_copyFrom_41 : decode cX0_copyFrom 41 = .ok (.aload_n 1, 1) := by decide +kernel
theorem dX0_copyFrom_42 : decode cX0_copyFrom 42 = .ok (.getfield 18, 3) := by decide +kernel
theorem dX0_copyFrom_45 : decode cX0_copyFrom 45 = .ok (.putfield 18, 3) := by decide +kernel
theorem dX0_copyFrom_48 : decode cX0_copyFrom 48 = .ok (.return_, 1) := by decide +kernel
theorem dX0_isFull_0 : decode cX0_isFull 0 = .ok (.aload_n 0, 1) := by decide +kernel
theorem dX0_isFull_1 : decode cX0_isFull 1 = .ok (.getfield 18, 3) := by decide +kernel
theorem dX0_isFull_4 : decode cX0_isFull 4 = .ok (.bipush 12, 2) := by decide +kernel
theorem dX0_isFull_6 : decode cX0_isFull 6 = .ok (.if_icmp .lt 7, 3) := by decide +kernel
theorem dX0_isFull_9 : decode cX0_isFull 9 = .ok (.iconst 1, 1) := by decide +kernel
theorem dX0_isFull_10 : decode cX0_isFull 10 = .ok (.goto 4, 3) := by decide +kernel
theorem dX0_isFull_13 : decode cX0_isFull 13 = .ok (.iconst 0, 1) := by decide +kernel
theorem dX0_isFull_14 : decode cX0_isFull 14 = .ok (.ireturn, 1) := by decide +kernel
theorem dX0_holds_0 : decode cX0_holds 0 = .ok (.iload_n 1, 1) := by decide +kernel
theorem dX0_holds_1 : decode cX0_holds 1 = .ok (.ifCond .lt 15, 3) := by decide +kernel
theorem dX0_holds_4 : decode cX0_holds 4 = .ok (.iload_n 1, 1) := by decide +kernel
theorem dX0_holds_5 : decode cX0_holds 5 = .ok (.aload_n 0, 1) := by decide +kernel
theorem dX0_holds_6 : decode cX0_holds 6 = .ok (.getfield 18, 3) := by decide +kernel
theorem dX0_holds_9 : decode cX0_holds 9 = .ok (.if_icmp .ge 7, 3) := by decide +kernel
theorem dX0_holds_12 : decode cX0_holds 12 = .ok (.iconst 1, 1) := by decide +kernel
theorem dX0_holds_13 : decode cX0_holds 13 = .ok (.goto 4, 3) := by decide +kernel
theorem dX0_holds_16 : decode cX0_holds 16 = .ok (.iconst 0, 1) := by decide +kernel
theorem dX0_holds_17 : decode cX0_holds 17 = .ok (.ireturn, 1) := by decide +kernel
set_option maxRecDepth 20000 in
theorem ggX0_append_X0_isFull : GoodIn wsX0_append wsX0_isFull := goodIn_r _ [8, 2, 9, 10, 11] (by decide +kernel) (by decide +kernel)
set_option maxRecDepth 20000 in
theorem gX0_append_X0_isFull : GoodIn wsX0_append (wsV RX0 22 RX0 yX0_isFull wsX0_isFull) := goodIn_app (goodIn_of _ (by decide +kernel)) ggX0_append_X0_isFull
theorem dX0_append_0 : decode cX0_append 0 = .ok (.aload_n 0, 1) := by decide +kernel
theorem dX0_append_1 : decode cX0_append 1 = .ok (.invokevirtual 22, 3) := by decide +kernel
theorem dX0_append_4 : decode cX0_append 4 = .ok (.ifCond .eq 4, 3) := by decide +kernel
theorem dX0_append_7 : decode cX0_append 7 = .ok (.return_, 1) := by decide +kernel
theorem dX0_append_8 : decode cX0_append 8 = .ok (.aload_n 0, 1) := by decide +kernel
theorem dX0_append_9 : decode cX0_append 9 = .ok (.getfield 9, 3) := by decide +kernel
theorem dX0_append_12 : decode cX0_append 12 = .ok (.aload_n 0, 1) := by decide +kernel
theorem dX0_append_13 : decode cX0_append 13 = .ok (.getfield 18, 3) := by decide +kernel
theorem dX0_append_16 : decode cX0_append 16 = .ok (.iload_n 1, 1) := by decide +kernel
theorem dX0_append_17 : decode cX0_append 17 = .ok (.iastore, 1) := by decide +kernel
theorem dX0_append_18 : decode cX0_append 18 = .ok (.aload_n 0, 1) := by decide +kernel
theorem dX0_append_19 : decode cX0_append 19 = .ok (.getfield 15, 3) := by decide +kernel
theorem dX0_append_22 : decode cX0_append 22 = .ok (.aload_n 0, 1) := by decide +kernel
theorem dX0_append_23 : decode cX0_append 23 = .ok (.getfield 18, 3) := by decide +kernel
theorem dX0_append_26 : decode cX0_append 26 = .ok (.iload_n 2, 1) := by decide +kernel
theorem dX0_append_27 : decode cX0_append 27 = .ok (.iastore, 1) := by decide +kernel
theorem dX0_append_28 : decode cX0_append 28 = .ok (.aload_n 0, 1) := by decide +kernel
theorem dX0_append_29 : decode cX0_append 29 = .ok (.dup, 1) := by decide +kernel
theorem dX0_append_30 : decode cX0_append 30 = .ok (.getfield 18, 3) := by decide +kernel
theorem dX0_append_33 : decode cX0_append 33 = .ok (.iconst 1, 1) := by decide +kernel
theorem dX0_append_34 : decode cX0_append 34 = .ok (.iadd, 1) := by decide +kernel
theorem dX0_append_35 : decode cX0_append 35 = .ok (.putfield 18, 3) := by decide +kernel
theorem dX0_append_38 : decode cX0_append 38 = .ok (.return_, 1) := by decide +kernel
set_option maxRecDepth 20000 in
theorem ggX0_moveToFront_X0_holds : GoodIn wsX0_moveToFront wsX0_holds := goodIn_r _ [7, 8, 9, 10, 11] (by decide +kernel) (by decide +kernel)
set_option maxRecDepth 20000 in
theorem gX0_moveToFront_X0_holds : GoodIn wsX0_moveToFront (wsV RX0 26 RX0 yX0_holds wsX0_holds) := goodIn_app (goodIn_of _ (by decide +kernel)) ggX0_moveToFront_X0_holds
theorem dX0_moveToFront_0 : decode cX0_moveToFront 0 = .ok (.aload_n 0, 1) := by decide +kernel
theorem dX0_moveToFront_1 : decode cX0_moveToFront 1 = .ok (.iload_n 1, 1) := by decide +kernel
theorem dX0_moveToFront_2 : decode cX0_moveToFront 2 = .ok (.invokevirtual 26, 3) := by decide +kernel
theorem dX0_moveToFront_5 : decode cX0_moveToFront 5 = .ok (.ifCond .ne 4, 3) := by decide +kernel
theorem dX0_moveToFront_8 : decode cX0_moveToFront 8 = .ok (.return_, 1) := by decide +kernel
theorem dX0_moveToFront_9 : decode cX0_moveToFront 9 = .ok (.aload_n 0, 1) := by decide +kernel
theorem dX0_moveToFront_10 : decode cX0_moveToFront 10 = .ok (.getfield 9, 3) := by decide +kernel
theorem dX0_moveToFront_13 : decode cX0_moveToFront 13 = .ok (.iload_n 1, 1) := by decide +kernel
theorem dX0_moveToFront_14 : decode cX0_moveToFront 14 = .ok (.iaload, 1) := by decide +kernel
theorem dX0_moveToFront_15 : decode cX0_moveToFront 15 = .ok (.istore_n 2, 1) := by decide +kernel
theorem dX0_moveToFront_16 : decode cX0_moveToFront 16 = .ok (.aload_n 0, 1) := by decide +kernel
theorem dX0_moveToFront_17 : decode cX0_moveToFront 17 = .ok (.getfield 15, 3) := by decide +kernel
theorem dX0_moveToFront_20 : decode cX0_moveToFront 20 = .ok (.iload_n 1, 1) := by decide +kernel
theorem dX0_moveToFront_21 : decode cX0_moveToFront 21 = .ok (.iaload, 1) := by decide +kernel
theorem dX0_moveToFront_22 : decode cX0_moveToFront 22 = .ok (.istore_n 3, 1) := by decide +kernel
theorem dX0_moveToFront_23 : decode cX0_moveToFront 23 = .ok (.iload_n 1, 1) := by decide +kernel
theorem dX0_moveToFront_24 : decode cX0_moveToFront 24 = .ok (.istore 4, 2) := by decide +kernel
theorem dX0_moveToFront_26 : decode cX0_moveToFront 26 = .ok (.iload 4, 2) := by decide +kernel
theorem dX0_moveToFront_28 : decode cX0_moveToFront 28 = .ok (.ifCond .le 41, 3) := by decide +kernel
theorem dX0_moveToFront_31 : decode cX0_moveToFront 31 = .ok (.aload_n 0, 1) := by decide +kernel
theorem dX0_moveToFront_32 : decode cX0_moveToFront 32 = .ok (.getfield 9, 3) := by decide +kernel
theorem dX0_moveToFront_35 : decode cX0_moveToFront 35 = .ok (.iload 4, 2) := by decide +kernel
theorem dX0_moveToFront_37 : decode cX0_moveToFront 37 = .ok (.aload_n 0, 1) := by decide +kernel
theorem dX0_moveToFront_38 : decode cX0_moveToFront 38 = .ok (.getfield 9, 3) := by decide +kernel
theorem dX0_moveToFront_41 : decode cX0_moveToFront 41 = .ok (.iload 4, 2) := by decide +kernel
theorem dX0_moveToFront_43 : decode cX0_moveToFront 43 = .ok (.iconst 1, 1) := by decide +kernel
theorem dX0_moveToFront_44 : decode cX0_moveToFront 44 = .ok (.isub, 1) := by decide +kernel
theorem dX0_moveToFront_45 : decode cX0_moveToFront 45 = .ok (.iaload, 1) := by decide +kernel
theorem dX0_moveToFront_46 : decode cX0_moveToFront 46 = .ok (.iastore, 1) := by decide +kernel
theorem dX0_moveToFront_47 : decode cX0_moveToFront 47 = .ok (.aload_n 0, 1) := by decide +kernel
theorem dX0_moveToFront_48 : decode cX0_moveToFront 48 = .ok (.getfield 15, 3) := by decide +kernel
theorem dX0_moveToFront_51 : decode cX0_moveToFront 51 = .ok (.iload 4, 2) := by decide +kernel
theorem dX0_moveToFront_53 : decode cX0_moveToFront 53 = .ok (.aload_n 0, 1) := by decide +kernel
theorem dX0_moveToFront_54 : decode cX0_moveToFront 54 = .ok (.getfield 15, 3) := by decide +kernel
theorem dX0_moveToFront_57 : decode cX0_moveToFront 57 = .ok (.iload 4, 2) := by decide +kernel
theorem dX0_moveToFront_59 : decode cX0_moveToFront 59 = .ok (.iconst 1, 1) := by decide +kernel
theorem dX0_moveToFront_60 : decode cX0_moveToFront 60 = .ok (.isub, 1) := by decide +kernel
theorem dX0_moveToFront_61 : decode cX0_moveToFront 61 = .ok (.iaload, 1) := by decide +kernel
theorem dX0_moveToFront_62 : decode cX0_moveToFront 62 = .ok (.iastore, 1) := by decide +kernel
theorem dX0_moveToFront_63 : decode cX0_moveToFront 63 = .ok (.iinc 4 (-1), 3) := by decide +kernel
theorem dX0_moveToFront_66 : decode cX0_moveToFront 66 = .ok (.goto (-40), 3) := by decide +kernel
theorem dX0_moveToFront_69 : decode cX0_moveToFront 69 = .ok (.aload_n 0, 1) := by decide +kernel
theorem dX0_moveToFront_70 : decode cX0_moveToFront 70 = .ok (.getfield 9, 3) := by decide +kernel
theorem dX0_moveToFront_73 : decode cX0_moveToFront 73 = .ok (.iconst 0, 1) := by decide +kernel
theorem dX0_moveToFront_74 : decode cX0_moveToFront 74 = .ok (.iload_n 2, 1) := by decide +kernel
theorem dX0_moveToFront_75 : decode cX0_moveToFront 75 = .ok (.iastore, 1) := by decide +kernel
theorem dX0_moveToFront_76 : decode cX0_moveToFront 76 = .ok (.aload_n 0, 1) := by decide +kernel
theorem dX0_moveToFront_77 : decode cX0_moveToFront 77 = .ok (.getfield 15, 3) := by decide +kernel
theorem dX0_moveToFront_80 : decode cX0_moveToFront 80 = .ok (.iconst 0, 1) := by decide +kernel
theorem dX0_moveToFront_81 : decode cX0_moveToFront 81 = .ok (.iload_n 3, 1) := by decide +kernel
theorem dX0_moveToFront_82 : decode cX0_moveToFront 82 = .ok (.iastore, 1) := by decide +kernel
theorem dX0_moveToFront_83 : decode cX0_moveToFront 83 = .ok (.return_, 1) := by decide +kernel
set_option maxRecDepth 20000 in
theorem ggX0_takeOff_X0_holds : GoodIn wsX0_takeOff wsX0_holds := goodIn_r _ [8, 1, 9, 10, 11] (by decide +kernel) (by decide +kernel)
set_option maxRecDepth 20000 in
theorem gX0_takeOff_X0_holds : GoodIn wsX0_takeOff (wsV RX0 26 RX0 yX0_holds wsX0_holds) := goodIn_app (goodIn_of _ (by decide +kernel)) ggX0_takeOff_X0_holds
theorem dX0_takeOff_0 : decode cX0_takeOff 0 = .ok (.aload_n 0, 1) := by decide +kernel
theorem dX0_takeOff_1 : decode cX0_takeOff 1 = .ok (.iload_n 1, 1) := by decide +kernel
theorem dX0_takeOff_2 : decode cX0_takeOff 2 = .ok (.invokevirtual 26, 3) := by decide +kernel
theorem dX0_takeOff_5 : decode cX0_takeOff 5 = .ok (.ifCond .ne 4, 3) := by decide +kernel
theorem dX0_takeOff_8 : decode cX0_takeOff 8 = .ok (.return_, 1) := by decide +kernel
theorem dX0_takeOff_9 : decode cX0_takeOff 9 = .ok (.iload_n 1, 1) := by decide +kernel
theorem dX0_takeOff_10 : decode cX0_takeOff 10 = .ok (.iconst 1, 1) := by decide +kernel
theorem dX0_takeOff_11 : decode cX0_takeOff 11 = .ok (.iadd, 1) := by decide +kernel
theorem dX0_takeOff_12 : decode cX0_takeOff 12 = .ok (.istore_n 2, 1) := by decide +kernel
theorem dX0_takeOff_13 : decode cX0_takeOff 13 = .ok (.iload_n 2, 1) := by decide +kernel
theorem dX0_takeOff_14 : decode cX0_takeOff 14 = .ok (.aload_n 0, 1) := by decide +kernel
theorem dX0_takeOff_15 : decode cX0_takeOff 15 = .ok (.getfield 18, 3) := by decide +kernel
theorem dX0_takeOff_18 : decode cX0_takeOff 18 = .ok (.if_icmp .ge 37, 3) := by decide +kernel
theorem dX0_takeOff_21 : decode cX0_takeOff 21 = .ok (.aload_n 0, 1) := by decide +kernel
theorem dX0_takeOff_22 : decode cX0_takeOff 22 = .ok (.getfield 9, 3) := by decide +kernel
theorem dX0_takeOff_25 : decode cX0_takeOff 25 = .ok (.iload_n 2, 1) := by decide +kernel
theorem dX0_takeOff_26 : decode cX0_takeOff 26 = .ok (.iconst 1, 1) := by decide +kernel
theorem dX0_takeOff_27 : decode cX0_takeOff 27 = .ok (.isub, 1) := by decide +kernel
theorem dX0_takeOff_28 : decode cX0_takeOff 28 = .ok (.aload_n 0, 1) := by decide +kernel
theorem dX0_takeOff_29 : decode cX0_takeOff 29 = .ok (.getfield 9, 3) := by decide +kernel
theorem dX0_takeOff_32 : decode cX0_takeOff 32 = .ok (.iload_n 2, 1) := by decide +kernel
theorem dX0_takeOff_33 : decode cX0_takeOff 33 = .ok (.iaload, 1) := by decide +kernel
theorem dX0_takeOff_34 : decode cX0_takeOff 34 = .ok (.iastore, 1) := by decide +kernel
theorem dX0_takeOff_35 : decode cX0_takeOff 35 = .ok (.aload_n 0, 1) := by decide +kernel
theorem dX0_takeOff_36 : decode cX0_takeOff 36 = .ok (.getfield 15, 3) := by decide +kernel
theorem dX0_takeOff_39 : decode cX0_takeOff 39 = .ok (.iload_n 2, 1) := by decide +kernel
theorem dX0_takeOff_40 : decode cX0_takeOff 40 = .ok (.iconst 1, 1) := by decide +kernel
theorem dX0_takeOff_41 : decode cX0_takeOff 41 = .ok (.isub, 1) := by decide +kernel
theorem dX0_takeOff_42 : decode cX0_takeOff 42 = .ok (.aload_n 0, 1) := by decide +kernel
theorem dX0_takeOff_43 : decode cX0_takeOff 43 = .ok (.getfield 15, 3) := by decide +kernel
theorem dX0_takeOff_46 : decode cX0_takeOff 46 = .ok (.iload_n 2, 1) := by decide +kernel
theorem dX0_takeOff_47 : decode cX0_takeOff 47 = .ok (.iaload, 1) := by decide +kernel
theorem dX0_takeOff_48 : decode cX0_takeOff 48 = .ok (.iastore, 1) := by decide +kernel
theorem dX0_takeOff_49 : decode cX0_takeOff 49 = .ok (.iinc 2 1, 3) := by decide +kernel
theorem dX0_takeOff_52 : decode cX0_takeOff 52 = .ok (.goto (-39), 3) := by decide +kernel
theorem dX0_takeOff_55 : decode cX0_takeOff 55 = .ok (.aload_n 0, 1) := by decide +kernel
theorem dX0_takeOff_56 : decode cX0_takeOff 56 = .ok (.dup, 1) := by decide +kernel
theorem dX0_takeOff_57 : decode cX0_takeOff 57 = .ok (.getfield 18, 3) := by decide +kernel
theorem dX0_takeOff_60 : decode cX0_takeOff 60 = .ok (.iconst 1, 1) := by decide +kernel
theorem dX0_takeOff_61 : decode cX0_takeOff 61 = .ok (.isub, 1) := by decide +kernel
theorem dX0_takeOff_62 : decode cX0_takeOff 62 = .ok (.putfield 18, 3) := by decide +kernel
theorem dX0_takeOff_65 : decode cX0_takeOff 65 = .ok (.return_, 1) := by decide +kernel
theorem dX0_loudness_0 : decode cX0_loudness 0 = .ok (.iconst 0, 1) := by decide +kernel
theorem dX0_loudness_1 : decode cX0_loudness 1 = .ok (.istore_n 1, 1) := by decide +kernel
theorem dX0_loudness_2 : decode cX0_loudness 2 = .ok (.iconst 0, 1) := by decide +kernel
theorem dX0_loudness_3 : decode cX0_loudness 3 = .ok (.istore_n 2, 1) := by decide +kernel
theorem dX0_loudness_4 : decode cX0_loudness 4 = .ok (.iload_n 2, 1) := by decide +kernel
theorem dX0_loudness_5 : decode cX0_loudness 5 = .ok (.aload_n 0, 1) := by decide +kernel
theorem dX0_loudness_6 : decode cX0_loudness 6 = .ok (.getfield 18, 3) := by decide +kernel
theorem dX0_loudness_9 : decode cX0_loudness 9 = .ok (.if_icmp .ge 18, 3) := by decide +kernel
theorem dX0_loudness_12 : decode cX0_loudness 12 = .ok (.iload_n 1, 1) := by decide +kernel
theorem dX0_loudness_13 : decode cX0_loudness 13 = .ok (.aload_n 0, 1) := by decide +kernel
theorem dX0_loudness_14 : decode cX0_loudness 14 = .ok (.getfield 15, 3) := by decide +kernel
theorem dX0_loudness_17 : decode cX0_loudness 17 = .ok (.iload_n 2, 1) := by decide +kernel
theorem dX0_loudness_18 : decode cX0_loudness 18 = .ok (.iaload, 1) := by decide +kernel
theorem dX0_loudness_19 : decode cX0_loudness 19 = .ok (.iadd, 1) := by decide +kernel
theorem dX0_loudness_20 : decode cX0_loudness 20 = .ok (.istore_n 1, 1) := by decide +kernel
theorem dX0_loudness_21 : decode cX0_loudness 21 = .ok (.iinc 2 1, 3) := by decide +kernel
theorem dX0_loudness_24 : decode cX0_loudness 24 = .ok (.goto (-20), 3) := by decide +kernel
theorem dX0_loudness_27 : decode cX0_loudness 27 = .ok (.iload_n 1, 1) := by decide +kernel
theorem dX0_loudness_28 : decode cX0_loudness 28 = .ok (.ireturn, 1) := by decide +kernel
theorem dX0_placeOfLargest_0 : decode cX0_placeOfLargest 0 = .ok (.iconst (-1), 1) := by decide +kernel
theorem dX0_placeOfLargest_1 : decode cX0_placeOfLargest 1 = .ok (.istore_n 1, 1) := by decide +kernel
theorem dX0_placeOfLargest_2 : decode cX0_placeOfLargest 2 = .ok (.iconst 0, 1) := by decide +kernel
theorem dX0_placeOfLargest_3 : decode cX0_placeOfLargest 3 = .ok (.istore_n 2, 1) := by decide +kernel
theorem dX0_placeOfLargest_4 : decode cX0_placeOfLargest 4 = .ok (.iconst 0, 1) := by decide +kernel
theorem dX0_placeOfLargest_5 : decode cX0_placeOfLargest 5 = .ok (.istore_n 3, 1) := by decide +kernel
theorem dX0_placeOfLargest_6 : decode cX0_placeOfLargest 6 = .ok (.iload_n 3, 1) := by decide +kernel
theorem dX0_placeOfLargest_7 : decode cX0_placeOfLargest 7 = .ok (.aload_n 0, 1) := by decide +kernel
theorem dX0_placeOfLargest_8 : decode cX0_placeOfLargest 8 = .ok (.getfield 18, 3) := by decide +kernel
theorem dX0_placeOfLargest_11 : decode cX0_placeOfLargest 11 = .ok (.if_icmp .ge 28, 3) := by decide +kernel
theorem dX0_placeOfLargest_14 : decode cX0_placeOfLargest 14 = .ok (.aload_n 0, 1) := by decide +kernel
theorem dX0_placeOfLargest_15 : decode cX0_placeOfLargest 15 = .ok (.getfield 15, 3) := by decide +kernel
theorem dX0_placeOfLargest_18 : decode cX0_placeOfLargest 18 = .ok (.iload_n 3, 1) := by decide +kernel
theorem dX0_placeOfLargest_19 : decode cX0_placeOfLargest 19 = .ok (.iaload, 1) := by decide +kernel
theorem dX0_placeOfLargest_20 : decode cX0_placeOfLargest 20 = .ok (.iload_n 2, 1) := by decide +kernel
theorem dX0_placeOfLargest_21 : decode cX0_placeOfLargest 21 = .ok (.if_icmp .le 12, 3) := by decide +kernel
theorem dX0_placeOfLargest_24 : decode cX0_placeOfLargest 24 = .ok (.aload_n 0, 1) := by decide +kernel
theorem dX0_placeOfLargest_25 : decode cX0_placeOfLargest 25 = .ok (.getfield 15, 3) := by decide +kernel
theorem dX0_placeOfLargest_28 : decode cX0_placeOfLargest 28 = .ok (.iload_n 3, 1) := by decide +kernel
theorem dX0_placeOfLargest_29 : decode cX0_placeOfLargest 29 = .ok (.iaload, 1) := by decide +kernel
theorem dX0_placeOfLargest_30 : decode cX0_placeOfLargest 30 = .ok (.istore_n 2, 1) := by decide +kernel
theorem dX0_placeOfLargest_31 : decode cX0_placeOfLargest 31 = .ok (.iload_n 3, 1) := by decide +kernel
theorem dX0_placeOfLargest_32 : decode cX0_placeOfLargest 32 = .ok (.istore_n 1, 1) := by decide +kernel
theorem dX0_placeOfLargest_33 : decode cX0_placeOfLargest 33 = .ok (.iinc 3 1, 3) := by decide +kernel
theorem dX0_placeOfLargest_36 : decode cX0_placeOfLargest 36 = .ok (.goto (-30), 3) := by decide +kernel
theorem dX0_placeOfLargest_39 : decode cX0_placeOfLargest 39 = .ok (.iload_n 1, 1) := by decide +kernel
theorem dX0_placeOfLargest_40 : decode cX0_placeOfLargest 40 = .ok (.ireturn, 1) := by decide +kernel
theorem dX0_countOf_0 : decode cX0_countOf 0 = .ok (.iconst 0, 1) := by decide +kernel
theorem dX0_countOf_1 : decode cX0_countOf 1 = .ok (.istore_n 2, 1) := by decide +kernel
theorem dX0_countOf_2 : decode cX0_countOf 2 = .ok (.iconst 0, 1) := by decide +kernel
theorem dX0_countOf_3 : decode cX0_countOf 3 = .ok (.istore_n 3, 1) := by decide +kernel
theorem dX0_countOf_4 : decode cX0_countOf 4 = .ok (.iload_n 3, 1) := by decide +kernel
theorem dX0_countOf_5 : decode cX0_countOf 5 = .ok (.aload_n 0, 1) := by decide +kernel
theorem dX0_countOf_6 : decode cX0_countOf 6 = .ok (.getfield 18, 3) := by decide +kernel
theorem dX0_countOf_9 : decode cX0_countOf 9 = .ok (.if_icmp .ge 22, 3) := by decide +kernel
theorem dX0_countOf_12 : decode cX0_countOf 12 = .ok (.aload_n 0, 1) := by decide +kernel
theorem dX0_countOf_13 : decode cX0_countOf 13 = .ok (.getfield 9, 3) := by decide +kernel
theorem dX0_countOf_16 : decode cX0_countOf 16 = .ok (.iload_n 3, 1) := by decide +kernel
theorem dX0_countOf_17 : decode cX0_countOf 17 = .ok (.iaload, 1) := by decide +kernel
theorem dX0_countOf_18 : decode cX0_countOf 18 = .ok (.iload_n 1, 1) := by decide +kernel
theorem dX0_countOf_19 : decode cX0_countOf 19 = .ok (.if_icmp .ne 6, 3) := by decide +kernel
theorem dX0_countOf_22 : decode cX0_countOf 22 = .ok (.iinc 2 1, 3) := by decide +kernel
theorem dX0_countOf_25 : decode cX0_countOf 25 = .ok (.iinc 3 1, 3) := by decide +kernel
theorem dX0_countOf_28 : decode cX0_countOf 28 = .ok (.goto (-24), 3) := by decide +kernel
theorem dX0_countOf_31 : decode cX0_countOf 31 = .ok (.iload_n 2, 1) := by decide +kernel
theorem dX0_countOf_32 : decode cX0_countOf 32 = .ok (.ireturn, 1) := by decide +kernel
set_option maxRecDepth 20000 in
theorem ggX0_grind_X3_ground : GoodIn wsX0_grind wsX3_ground := goodIn_r _ [6] (by decide +kernel) (by decide +kernel)
set_option maxRecDepth 20000 in
theorem gX0_grind_X3_ground_n30 : GoodIn wsX0_grind (wsX3_ground) := ggX0_grind_X3_ground
theorem dX0_grind_0 : decode cX0_grind 0 = .ok (.aload_n 0, 1) := by decide +kernel
theorem dX0_grind_1 : decode cX0_grind 1 = .ok (.getfield 18, 3) := by decide +kernel
theorem dX0_grind_4 : decode cX0_grind 4 = .ok (.istore_n 3, 1) := by decide +kernel
theorem dX0_grind_5 : decode cX0_grind 5 = .ok (.iconst 0, 1) := by decide +kernel
theorem dX0_grind_6 : decode cX0_grind 6 = .ok (.istore 4, 2) := by decide +kernel
theorem dX0_grind_8 : decode cX0_grind 8 = .ok (.iconst 0, 1) := by decide +kernel
theorem dX0_grind_9 : decode cX0_grind 9 = .ok (.istore 5, 2) := by decide +kernel
theorem dX0_grind_11 : decode cX0_grind 11 = .ok (.iload 5, 2) := by decide +kernel
theorem dX0_grind_13 : decode cX0_grind 13 = .ok (.iload_n 3, 1) := by decide +kernel
theorem dX0_grind_14 : decode cX0_grind 14 = .ok (.if_icmp .ge 70, 3) := by decide +kernel
theorem dX0_grind_17 : decode cX0_grind 17 = .ok (.iload 5, 2) := by decide +kernel
theorem dX0_grind_19 : decode cX0_grind 19 = .ok (.iload_n 1, 1) := by decide +kernel
theorem dX0_grind_20 : decode cX0_grind 20 = .ok (.if_icmp .ge 17, 3) := by decide +kernel
theorem dX0_grind_23 : decode cX0_grind 23 = .ok (.aload_n 0, 1) := by decide +kernel
theorem dX0_grind_24 : decode cX0_grind 24 = .ok (.getfield 15, 3) := by decide +kernel
theorem dX0_grind_27 : decode cX0_grind 27 = .ok (.iload 5, 2) := by decide +kernel
theorem dX0_grind_29 : decode cX0_grind 29 = .ok (.iaload, 1) := by decide +kernel
theorem dX0_grind_30 : decode cX0_grind 30 = .ok (.iload_n 2, 1) := by decide +kernel
theorem dX0_grind_31 : decode cX0_grind 31 = .ok (.invokestatic 30, 3) := by decide +kernel
theorem dX0_grind_34 : decode cX0_grind 34 = .ok (.goto 10, 3) := by decide +kernel
theorem dX0_grind_37 : decode cX0_grind 37 = .ok (.aload_n 0, 1) := by decide +kernel
theorem dX0_grind_38 : decode cX0_grind 38 = .ok (.getfield 15, 3) := by decide +kernel
theorem dX0_grind_41 : decode cX0_grind 41 = .ok (.iload 5, 2) := by decide +kernel
theorem dX0_grind_43 : decode cX0_grind 43 = .ok (.iaload, 1) := by decide +kernel
theorem dX0_grind_44 : decode cX0_grind 44 = .ok (.istore 6, 2) := by decide +kernel
theorem dX0_grind_46 : decode cX0_grind 46 = .ok (.iload 6, 2) := by decide +kernel
theorem dX0_grind_48 : decode cX0_grind 48 = .ok (.iconst 2, 1) := by decide +kernel
theorem dX0_grind_49 : decode cX0_grind 49 = .ok (.if_icmp .lt 29, 3) := by decide +kernel
theorem dX0_grind_52 : decode cX0_grind 52 = .ok (.aload_n 0, 1) := by decide +kernel
theorem dX0_grind_53 : decode cX0_grind 53 = .ok (.getfield 9, 3) := by decide +kernel
theorem dX0_grind_56 : decode cX0_grind 56 = .ok (.iload 4, 2) := by decide +kernel
theorem dX0_grind_58 : decode cX0_grind 58 = .ok (.aload_n 0, 1) := by decide +kernel
theorem dX0_grind_59 : decode cX0_grind 59 = .ok (.getfield 9, 3) := by decide +kernel
theorem dX0_grind_62 : decode cX0_grind 62 = .ok (.iload 5, 2) := by decide +kernel
theorem dX0_grind_64 : decode cX0_grind 64 = .ok (.iaload, 1) := by decide +kernel
theorem dX0_grind_65 : decode cX0_grind 65 = .ok (.iastore, 1) := by decide +kernel
theorem dX0_grind_66 : decode cX0_grind 66 = .ok (.aload_n 0, 1) := by decide +kernel
theorem dX0_grind_67 : decode cX0_grind 67 = .ok (.getfield 15, 3) := by decide +kernel
theorem dX0_grind_70 : decode cX0_grind 70 = .ok (.iload 4, 2) := by decide +kernel
theorem dX0_grind_72 : decode cX0_grind 72 = .ok (.iload 6, 2) := by decide +kernel
theorem dX0_grind_74 : decode cX0_grind 74 = .ok (.iastore, 1) := by decide +kernel
theorem dX0_grind_75 : decode cX0_grind 75 = .ok (.iinc 4 1, 3) := by decide +kernel
theorem dX0_grind_78 : decode cX0_grind 78 = .ok (.iinc 5 1, 3) := by decide +kernel
theorem dX0_grind_81 : decode cX0_grind 81 = .ok (.goto (-70), 3) := by decide +kernel
theorem dX0_grind_84 : decode cX0_grind 84 = .ok (.aload_n 0, 1) := by decide +kernel
theorem dX0_grind_85 : decode cX0_grind 85 = .ok (.iload 4, 2) := by decide +kernel
theorem dX0_grind_87 : decode cX0_grind 87 = .ok (.putfield 18, 3) := by decide +kernel
theorem dX0_grind_90 : decode cX0_grind 90 = .ok (.iload_n 3, 1) := by decide +kernel
theorem dX0_grind_91 : decode cX0_grind 91 = .ok (.iload 4, 2) := by decide +kernel
theorem dX0_grind_93 : decode cX0_grind 93 = .ok (.isub, 1) := by decide +kernel
theorem dX0_grind_94 : decode cX0_grind 94 = .ok (.ireturn, 1) := by decide +kernel
theorem dX0_sift_0 : decode cX0_sift 0 = .ok (.aload_n 0, 1) := by decide +kernel
theorem dX0_sift_1 : decode cX0_sift 1 = .ok (.getfield 18, 3) := by decide +kernel
theorem dX0_sift_4 : decode cX0_sift 4 = .ok (.istore_n 2, 1) := by decide +kernel
theorem dX0_sift_5 : decode cX0_sift 5 = .ok (.iconst 0, 1) := by decide +kernel
theorem dX0_sift_6 : decode cX0_sift 6 = .ok (.istore_n 3, 1) := by decide +kernel
theorem dX0_sift_7 : decode cX0_sift 7 = .ok (.iconst 0, 1) := by decide +kernel
theorem dX0_sift_8 : decode cX0_sift 8 = .ok (.istore 4, 2) := by decide +kernel
theorem dX0_sift_10 : decode cX0_sift 10 = .ok (.iload 4, 2) := by decide +kernel
theorem dX0_sift_12 : decode cX0_sift 12 = .ok (.iload_n 2, 1) := by decide +kernel
theorem dX0_sift_13 : decode cX0_sift 13 = .ok (.if_icmp .ge 59, 3) := by decide +kernel
theorem dX0_sift_16 : decode cX0_sift 16 = .ok (.aload_n 0, 1) := by decide +kernel
theorem dX0_sift_17 : decode cX0_sift 17 = .ok (.getfield 9, 3) := by decide +kernel
theorem dX0_sift_20 : decode cX0_sift 20 = .ok (.iload 4, 2) := by decide +kernel
theorem dX0_sift_22 : decode cX0_sift 22 = .ok (.iaload, 1) := by decide +kernel
theorem dX0_sift_23 : decode cX0_sift 23 = .ok (.ifCond .ne 14, 3) := by decide +kernel
theorem dX0_sift_26 : decode cX0_sift 26 = .ok (.aload_n 0, 1) := by decide +kernel
theorem dX0_sift_27 : decode cX0_sift 27 = .ok (.getfield 15, 3) := by decide +kernel
theorem dX0_sift_30 : decode cX0_sift 30 = .ok (.iload 4, 2) := by decide +kernel
theorem dX0_sift_32 : decode cX0_sift 32 = .ok (.iaload, 1) := by decide +kernel
theorem dX0_sift_33 : decode cX0_sift 33 = .ok (.iload_n 1, 1) := by decide +kernel
theorem dX0_sift_34 : decode cX0_sift 34 = .ok (.if_icmp .lt 32, 3) := by decide +kernel
theorem dX0_sift_37 : decode cX0_sift 37 = .ok (.aload_n 0, 1) := by decide +kernel
theorem dX0_sift_38 : decode cX0_sift 38 = .ok (.getfield 9, 3) := by decide +kernel
theorem dX0_sift_41 : decode cX0_sift 41 = .ok (.iload_n 3, 1) := by decide +kernel
theorem dX0_sift_42 : decode cX0_sift 42 = .ok (.aload_n 0, 1) := by decide +kernel
theorem dX0_sift_43 : decode cX0_sift 43 = .ok (.getfield 9, 3) := by decide +kernel
theorem dX0_sift_46 : decode cX0_sift 46 = .ok (.iload 4, 2) := by decide +kernel
theorem dX0_sift_48 : decode cX0_sift 48 = .ok (.iaload, 1) := by decide +kernel
theorem dX0_sift_49 : decode cX0_sift 49 = .ok (.iastore, 1) := by decide +kernel
theorem dX0_sift_50 : decode cX0_sift 50 = .ok (.aload_n 0, 1) := by decide +kernel
theorem dX0_sift_51 : decode cX0_sift 51 = .ok (.getfield 15, 3) := by decide +kernel
theorem dX0_sift_54 : decode cX0_sift 54 = .ok (.iload_n 3, 1) := by decide +kernel
theorem dX0_sift_55 : decode cX0_sift 55 = .ok (.aload_n 0, 1) := by decide +kernel
theorem dX0_sift_56 : decode cX0_sift 56 = .ok (.getfield 15, 3) := by decide +kernel
theorem dX0_sift_59 : decode cX0_sift 59 = .ok (.iload 4, 2) := by decide +kernel
theorem dX0_sift_61 : decode cX0_sift 61 = .ok (.iaload, 1) := by decide +kernel
theorem dX0_sift_62 : decode cX0_sift 62 = .ok (.iastore, 1) := by decide +kernel
theorem dX0_sift_63 : decode cX0_sift 63 = .ok (.iinc 3 1, 3) := by decide +kernel
theorem dX0_sift_66 : decode cX0_sift 66 = .ok (.iinc 4 1, 3) := by decide +kernel
theorem dX0_sift_69 : decode cX0_sift 69 = .ok (.goto (-59), 3) := by decide +kernel
theorem dX0_sift_72 : decode cX0_sift 72 = .ok (.aload_n 0, 1) := by decide +kernel
theorem dX0_sift_73 : decode cX0_sift 73 = .ok (.iload_n 3, 1) := by decide +kernel
theorem dX0_sift_74 : decode cX0_sift 74 = .ok (.putfield 18, 3) := by decide +kernel
theorem dX0_sift_77 : decode cX0_sift 77 = .ok (.iload_n 2, 1) := by decide +kernel
theorem dX0_sift_78 : decode cX0_sift 78 = .ok (.iload_n 3, 1) := by decide +kernel
theorem dX0_sift_79 : decode cX0_sift 79 = .ok (.isub, 1) := by decide +kernel
theorem dX0_sift_80 : decode cX0_sift 80 = .ok (.ireturn, 1) := by decide +kernel
theorem dX1_init_0 : decode cX1_init 0 = .ok (.aload_n 0, 1) := by decide +kernel
theorem dX1_init_1 : decode cX1_init 1 = .ok (.invokespecial 3, 3) := by decide +kernel
theorem dX1_init_4 : decode cX1_init 4 = .ok (.aload_n 0, 1) := by decide +kernel
theorem dX1_init_5 : decode cX1_init 5 = .ok (.bipush 6, 2) := by decide +kernel
theorem dX1_init_7 : decode cX1_init 7 = .ok (.newarray .int, 2) := by decide +kernel
theorem dX1_init_9 : decode cX1_init 9 = .ok (.putfield 9, 3) := by decide +kernel
theorem dX1_init_12 : decode cX1_init 12 = .ok (.aload_n 0, 1) := by decide +kernel
theorem dX1_init_13 : decode cX1_init 13 = .ok (.bipush 6, 2) := by decide +kernel
theorem dX1_init_15 : decode cX1_init 15 = .ok (.newarray .int, 2) := by decide +kernel
theorem dX1_init_17 : decode cX1_init 17 = .ok (.putfield 15, 3) := by decide +kernel
theorem dX1_init_20 : decode cX1_init 20 = .ok (.aload_n 0, 1) := by decide +kernel
theorem dX1_init_21 : decode cX1_init 21 = .ok (.bipush 6, 2) := by decide +kernel
theorem dX1_init_23 : decode cX1_init 23 = .ok (.newarray .int, 2) := by decide +kernel
theorem dX1_init_25 : decode cX1_init 25 = .ok (.putfield 18, 3) := by decide +kernel
theorem dX1_init_28 : decode cX1_init 28 = .ok (.aload_n 0, 1) := by decide +kernel
theorem dX1_init_29 : decode cX1_init 29 = .ok (.bipush 6, 2) := by decide +kernel
theorem dX1_init_31 : decode cX1_init 31 = .ok (.newarray .int, 2) := by decide +kernel
theorem dX1_init_33 : decode cX1_init 33 = .ok (.putfield 21, 3) := by decide +kernel
theorem dX1_init_36 : decode cX1_init 36 = .ok (.aload_n 0, 1) := by decide +kernel
theorem dX1_init_37 : decode cX1_init 37 = .ok (.bipush 6, 2) := by decide +kernel
theorem dX1_init_39 : decode cX1_init 39 = .ok (.newarray .int, 2) := by decide +kernel
theorem dX1_init_41 : decode cX1_init 41 = .ok (.putfield 24, 3) := by decide +kernel
theorem dX1_init_44 : decode cX1_init 44 = .ok (.aload_n 0, 1) := by decide +kernel
theorem dX1_init_45 : decode cX1_init 45 = .ok (.iconst 0, 1) := by decide +kernel
theorem dX1_init_46 : decode cX1_init 46 = .ok (.putfield 27, 3) := by decide +kernel
theorem dX1_init_49 : decode cX1_init 49 = .ok (.return_, 1) := by decide +kernel
theorem dX1_copyFrom_0 : decode cX1_copyFrom 0 = .ok (.iconst 0, 1) := by decide +kernel
theorem dX1_copyFrom_1 : decode cX1_copyFrom 1 = .ok (.istore_n 2, 1) := by decide +kernel
theorem dX1_copyFrom_2 : decode cX1_copyFrom 2 = .ok (.iload_n 2, 1) := by decide +kernel
theorem dX1_copyFrom_3 : decode cX1_copyFrom 3 = .ok (.aload_n 1, 1) := by decide +kernel
theorem dX1_copyFrom_4 : decode cX1_copyFrom 4 = .ok (.getfield 27, 3) := by decide +kernel
theorem dX1_copyFrom_7 : decode cX1_copyFrom 7 = .ok (.if_icmp .ge 69, 3) := by decide +kernel
theorem dX1_copyFrom_10 : decode cX1_copyFrom 10 = .ok (.aload_n 0, 1) := by decide +kernel
theorem dX1_copyFrom_11 : decode cX1_copyFrom 11 = .ok (.getfield 9, 3) := by decide +kernel
theorem dX1_copyFrom_14 : decode cX1_copyFrom 14 = .ok (.iload_n 2, 1) := by decide +kernel
theorem dX1_copyFrom_15 : decode cX1_copyFrom 15 = .ok (.aload_n 1, 1) := by decide +kernel
theorem dX1_copyFrom_16 : decode cX1_copyFrom 16 = .ok (.getfield 9, 3) := by decide +kernel
theorem dX1_copyFrom_19 : decode cX1_copyFrom 19 = .ok (.iload_n 2, 1) := by decide +kernel
theorem dX1_copyFrom_20 : decode cX1_copyFrom 20 = .ok (.iaload, 1) := by decide +kernel
theorem dX1_copyFrom_21 : decode cX1_copyFrom 21 = .ok (.iastore, 1) := by decide +kernel
theorem dX1_copyFrom_22 : decode cX1_copyFrom 22 = .ok (.aload_n 0, 1) := by decide +kernel
theorem dX1_copyFrom_23 : decode cX1_copyFrom 23 = .ok (.getfield 15, 3) := by decide +kernel
theorem dX1_copyFrom_26 : decode cX1_copyFrom 26 = .ok (.iload_n 2, 1) := by decide +kernel
theorem dX1_copyFrom_27 : decode cX1_copyFrom 27 = .ok (.aload_n 1, 1) := by decide +kernel
theorem dX1_copyFrom_28 : decode cX1_copyFrom 28 = .ok (.getfield 15, 3) := by decide +kernel
theorem dX1_copyFrom_31 : decode cX1_copyFrom 31 = .ok (.iload_n 2, 1) := by decide +kernel
theorem dX1_copyFrom_32 : decode cX1_copyFrom 32 = .ok (.iaload, 1) := by decide +kernel
theorem dX1_copyFrom_33 : decode cX1_copyFrom 33 = .ok (.iastore, 1) := by decide +kernel
theorem dX1_copyFrom_34 : decode cX1_copyFrom 34 = .ok (.aload_n 0, 1) := by decide +kernel
theorem dX1_copyFrom_35 : decode cX1_copyFrom 35 = .ok (.getfield 18, 3) := by decide +kernel
theorem dX1_copyFrom_38 : decode cX1_copyFrom 38 = .ok (.iload_n 2, 1) := by decide +kernel
theorem dX1_copyFrom_39 : decode cX1_copyFrom 39 = .ok (.aload_n 1, 1) := by decide +kernel
theorem dX1_copyFrom_40 : decode cX1_copyFrom 40 = .ok (.getfield 18, 3) := by decide +kernel
theorem dX1_copyFrom_43 : decode cX1_copyFrom 43 = .ok (.iload_n 2, 1) := by decide +kernel
theorem dX1_copyFrom_44 : decode cX1_copyFrom 44 = .ok (.iaload, 1) := by decide +kernel
theorem dX1_copyFrom_45 : decode cX1_copyFrom 45 = .ok (.iastore, 1) := by decide +kernel
theorem dX1_copyFrom_46 : decode cX1_copyFrom 46 = .ok (.aload_n 0, 1) := by decide +kernel
theorem dX1_copyFrom_47 : decode cX1_copyFrom 47 = .ok (.getfield 21, 3) := by decide +kernel
theorem dX1_copyFrom_50 : decode cX1_copyFrom 50 = .ok (.iload_n 2, 1) := by decide +kernel
theorem dX1_copyFrom_51 : decode cX1_copyFrom 51 = .ok (.aload_n 1, 1) := by decide +kernel
theorem dX1_copyFrom_52 : decode cX1_copyFrom 52 = .ok (.getfield 21, 3) := by decide +kernel
theorem dX1_copyFrom_55 : decode cX1_copyFrom 55 = .ok (.iload_n 2, 1) := by decide +kernel
theorem dX1_copyFrom_56 : decode cX1_copyFrom 56 = .ok (.iaload, 1) := by decide +kernel
theorem dX1_copyFrom_57 : decode cX1_copyFrom 57 = .ok (.iastore, 1) := by decide +kernel
theorem dX1_copyFrom_58 : decode cX1_copyFrom 58 = .ok (.aload_n 0, 1) := by decide +kernel
theorem dX1_copyFrom_59 : decode cX1_copyFrom 59 = .ok (.getfield 24, 3) := by decide +kernel
theorem dX1_copyFrom_62 : decode cX1_copyFrom 62 = .ok (.iload_n 2, 1) := by decide +kernel
theorem dX1_copyFrom_63 : decode cX1_copyFrom 63 = .ok (.aload_n 1, 1) := by decide +kernel
theorem dX1_copyFrom_64 : decode cX1_copyFrom 64 = .ok (.getfield 24, 3) := by decide +kernel
theorem dX1_copyFrom_67 : decode cX1_copyFrom 67 = .ok (.iload_n 2, 1) := by decide +kernel
theorem dX1_copyFrom_68 : decode cX1_copyFrom 68 = .ok (.iaload, 1) := by decide +kernel
theorem dX1_copyFrom_69 : decode cX1_copyFrom 69 = .ok (.iastore, 1) := by decide +kernel
theorem dX1_copyFrom_70 : decode cX1_copyFrom 70 = .ok (.iinc 2 1, 3) := by decide +kernel
theorem dX1_copyFrom_73 : decode cX1_copyFrom 73 = .ok (.goto (-71), 3) := by decide +kernel
theorem dX1_copyFrom_76 : decode cX1_copyFrom 76 = .ok (.aload_n 0, 1) := by decide +kernel
theorem dX1_copyFrom_77 : decode cX1_copyFrom 77 = .ok (.aload_n 1, 1) := by decide +kernel
theorem dX1_copyFrom_78 : decode cX1_copyFrom 78 = .ok (.getfield 27, 3) := by decide +kernel
theorem dX1_copyFrom_81 : decode cX1_copyFrom 81 = .ok (.putfield 27, 3) := by decide +kernel
theorem dX1_copyFrom_84 : decode cX1_copyFrom 84 = .ok (.return_, 1) := by decide +kernel
theorem dX1_isFull_0 : decode cX1_isFull 0 = .ok (.aload_n 0, 1) := by decide +kernel
theorem dX1_isFull_1 : decode cX1_isFull 1 = .ok (.getfield 27, 3) := by decide +kernel
theorem dX1_isFull_4 : decode cX1_isFull 4 = .ok (.bipush 6, 2) := by decide +kernel
theorem dX1_isFull_6 : decode cX1_isFull 6 = .ok (.if_icmp .lt 7, 3) := by decide +kernel
theorem dX1_isFull_9 : decode cX1_isFull 9 = .ok (.iconst 1, 1) := by decide +kernel
theorem dX1_isFull_10 : decode cX1_isFull 10 = .ok (.goto 4, 3) := by decide +kernel
theorem dX1_isFull_13 : decode cX1_isFull 13 = .ok (.iconst 0, 1) := by decide +kernel
theorem dX1_isFull_14 : decode cX1_isFull 14 = .ok (.ireturn, 1) := by decide +kernel
theorem dX1_knows_0 : decode cX1_knows 0 = .ok (.iload_n 1, 1) := by decide +kernel
theorem dX1_knows_1 : decode cX1_knows 1 = .ok (.ifCond .lt 15, 3) := by decide +kernel
theorem dX1_knows_4 : decode cX1_knows 4 = .ok (.iload_n 1, 1) := by decide +kernel
theorem dX1_knows_5 : decode cX1_knows 5 = .ok (.aload_n 0, 1) := by decide +kernel
theorem dX1_knows_6 : decode cX1_knows 6 = .ok (.getfield 27, 3) := by decide +kernel
theorem dX1_knows_9 : decode cX1_knows 9 = .ok (.if_icmp .ge 7, 3) := by decide +kernel
theorem dX1_knows_12 : decode cX1_knows 12 = .ok (.iconst 1, 1) := by decide +kernel
theorem dX1_knows_13 : decode cX1_knows 13 = .ok (.goto 4, 3) := by decide +kernel
theorem dX1_knows_16 : decode cX1_knows 16 = .ok (.iconst 0, 1) := by decide +kernel
theorem dX1_knows_17 : decode cX1_knows 17 = .ok (.ireturn, 1) := by decide +kernel
set_option maxRecDepth 20000 in
theorem ggX1_isThere_X1_knows : GoodIn wsX1_isThere wsX1_knows := goodIn_r _ [6, 7, 8, 9, 10, 11, 12, 13] (by decide +kernel) (by decide +kernel)
set_option maxRecDepth 20000 in
theorem gX1_isThere_X1_knows : GoodIn wsX1_isThere (wsV RX1 31 RX1 yX1_knows wsX1_knows) := goodIn_app (goodIn_of _ (by decide +kernel)) ggX1_isThere_X1_knows
theorem dX1_isThere_0 : decode cX1_isThere 0 = .ok (.aload_n 0, 1) := by decide +kernel
theorem dX1_isThere_1 : decode cX1_isThere 1 = .ok (.iload_n 1, 1) := by decide +kernel
theorem dX1_isThere_2 : decode cX1_isThere 2 = .ok (.invokevirtual 31, 3) := by decide +kernel
theorem dX1_isThere_5 : decode cX1_isThere 5 = .ok (.ifCond .eq 17, 3) := by decide +kernel
theorem dX1_isThere_8 : decode cX1_isThere 8 = .ok (.aload_n 0, 1) := by decide +kernel
theorem dX1_isThere_9 : decode cX1_isThere 9 = .ok (.getfield 24, 3) := by decide +kernel
theorem dX1_isThere_12 : decode cX1_isThere 12 = .ok (.iload_n 1, 1) := by decide +kernel
theorem dX1_isThere_13 : decode cX1_isThere 13 = .ok (.iaload, 1) := by decide +kernel
theorem dX1_isThere_14 : decode cX1_isThere 14 = .ok (.iconst (-1), 1) := by decide +kernel
theorem dX1_isThere_15 : decode cX1_isThere 15 = .ok (.if_icmp .ne 7, 3) := by decide +kernel
theorem dX1_isThere_18 : decode cX1_isThere 18 = .ok (.iconst 1, 1) := by decide +kernel
theorem dX1_isThere_19 : decode cX1_isThere 19 = .ok (.goto 4, 3) := by decide +kernel
theorem dX1_isThere_22 : decode cX1_isThere 22 = .ok (.iconst 0, 1) := by decide +kernel
theorem dX1_isThere_23 : decode cX1_isThere 23 = .ok (.ireturn, 1) := by decide +kernel
set_option maxRecDepth 20000 in
theorem ggX1_join_X1_isFull : GoodIn wsX1_join wsX1_isFull := goodIn_r _ [11, 2, 12, 13, 14, 15, 16, 17] (by decide +kernel) (by decide +kernel)
set_option maxRecDepth 20000 in
theorem gX1_join_X1_isFull : GoodIn wsX1_join (wsV RX1 35 RX1 yX1_isFull wsX1_isFull) := goodIn_app (goodIn_of _ (by decide +kernel)) ggX1_join_X1_isFull
theorem dX1_join_0 : decode cX1_join 0 = .ok (.aload_n 0, 1) := by decide +kernel
theorem dX1_join_1 : decode cX1_join 1 = .ok (.invokevirtual 35, 3) := by decide +kernel
theorem dX1_join_4 : decode cX1_join 4 = .ok (.ifCond .eq 4, 3) := by decide +kernel
theorem dX1_join_7 : decode cX1_join 7 = .ok (.return_, 1) := by decide +kernel
theorem dX1_join_8 : decode cX1_join 8 = .ok (.aload_n 0, 1) := by decide +kernel
theorem dX1_join_9 : decode cX1_join 9 = .ok (.getfield 9, 3) := by decide +kernel
theorem dX1_join_12 : decode cX1_join 12 = .ok (.aload_n 0, 1) := by decide +kernel
theorem dX1_join_13 : decode cX1_join 13 = .ok (.getfield 27, 3) := by decide +kernel
theorem dX1_join_16 : decode cX1_join 16 = .ok (.iload_n 1, 1) := by decide +kernel
theorem dX1_join_17 : decode cX1_join 17 = .ok (.iastore, 1) := by decide +kernel
theorem dX1_join_18 : decode cX1_join 18 = .ok (.aload_n 0, 1) := by decide +kernel
theorem dX1_join_19 : decode cX1_join 19 = .ok (.getfield 15, 3) := by decide +kernel
theorem dX1_join_22 : decode cX1_join 22 = .ok (.aload_n 0, 1) := by decide +kernel
theorem dX1_join_23 : decode cX1_join 23 = .ok (.getfield 27, 3) := by decide +kernel
theorem dX1_join_26 : decode cX1_join 26 = .ok (.iload_n 2, 1) := by decide +kernel
theorem dX1_join_27 : decode cX1_join 27 = .ok (.iastore, 1) := by decide +kernel
theorem dX1_join_28 : decode cX1_join 28 = .ok (.aload_n 0, 1) := by decide +kernel
theorem dX1_join_29 : decode cX1_join 29 = .ok (.getfield 18, 3) := by decide +kernel
theorem dX1_join_32 : decode cX1_join 32 = .ok (.aload_n 0, 1) := by decide +kernel
theorem dX1_join_33 : decode cX1_join 33 = .ok (.getfield 27, 3) := by decide +kernel
theorem dX1_join_36 : decode cX1_join 36 = .ok (.iload_n 3, 1) := by decide +kernel
theorem dX1_join_37 : decode cX1_join 37 = .ok (.iastore, 1) := by decide +kernel
theorem dX1_join_38 : decode cX1_join 38 = .ok (.aload_n 0, 1) := by decide +kernel
theorem dX1_join_39 : decode cX1_join 39 = .ok (.getfield 21, 3) := by decide +kernel
theorem dX1_join_42 : decode cX1_join 42 = .ok (.aload_n 0, 1) := by decide +kernel
theorem dX1_join_43 : decode cX1_join 43 = .ok (.getfield 27, 3) := by decide +kernel
theorem dX1_join_46 : decode cX1_join 46 = .ok (.bipush 30, 2) := by decide +kernel
theorem dX1_join_48 : decode cX1_join 48 = .ok (.iastore, 1) := by decide +kernel
theorem dX1_join_49 : decode cX1_join 49 = .ok (.aload_n 0, 1) := by decide +kernel
theorem dX1_join_50 : decode cX1_join 50 = .ok (.getfield 24, 3) := by decide +kernel
theorem dX1_join_53 : decode cX1_join 53 = .ok (.aload_n 0, 1) := by decide +kernel
theorem dX1_join_54 : decode cX1_join 54 = .ok (.getfield 27, 3) := by decide +kernel
theorem dX1_join_57 : decode cX1_join 57 = .ok (.iconst (-1), 1) := by decide +kernel
theorem dX1_join_58 : decode cX1_join 58 = .ok (.iastore, 1) := by decide +kernel
theorem dX1_join_59 : decode cX1_join 59 = .ok (.aload_n 0, 1) := by decide +kernel
theorem dX1_join_60 : decode cX1_join 60 = .ok (.dup, 1) := by decide +kernel
theorem dX1_join_61 : decode cX1_join 61 = .ok (.getfield 27, 3) := by decide +kernel
theorem dX1_join_64 : decode cX1_join 64 = .ok (.iconst 1, 1) := by decide +kernel
theorem dX1_join_65 : decode cX1_join 65 = .ok (.iadd, 1) := by decide +kernel
theorem dX1_join_66 : decode cX1_join 66 = .ok (.putfield 27, 3) := by decide +kernel
theorem dX1_join_69 : decode cX1_join 69 = .ok (.return_, 1) := by decide +kernel
theorem dX1_countPresent_0 : decode cX1_countPresent 0 = .ok (.iconst 0, 1) := by decide +kernel
theorem dX1_countPresent_1 : decode cX1_countPresent 1 = .ok (.istore_n 1, 1) := by decide +kernel
theorem dX1_countPresent_2 : decode cX1_countPresent 2 = .ok (.iconst 0, 1) := by decide +kernel
theorem dX1_countPresent_3 : decode cX1_countPresent 3 = .ok (.istore_n 2, 1) := by decide +kernel
theorem dX1_countPresent_4 : decode cX1_countPresent 4 = .ok (.iload_n 2, 1) := by decide +kernel
theorem dX1_countPresent_5 : decode cX1_countPresent 5 = .ok (.aload_n 0, 1) := by decide +kernel
theorem dX1_countPresent_6 : decode cX1_countPresent 6 = .ok (.getfield 27, 3) := by decide +kernel
theorem dX1_countPresent_9 : decode cX1_countPresent 9 = .ok (.if_icmp .ge 22, 3) := by decide +kernel
theorem dX1_countPresent_12 : decode cX1_countPresent 12 = .ok (.aload_n 0, 1) := by decide +kernel
theorem dX1_countPresent_13 : decode cX1_countPresent 13 = .ok (.getfield 24, 3) := by decide +kernel
theorem dX1_countPresent_16 : decode cX1_countPresent 16 = .ok (.iload_n 2, 1) := by decide +kernel
theorem dX1_countPresent_17 : decode cX1_countPresent 17 = .ok (.iaload, 1) := by decide +kernel
theorem dX1_countPresent_18 : decode cX1_countPresent 18 = .ok (.iconst (-1), 1) := by decide +kernel
theorem dX1_countPresent_19 : decode cX1_countPresent 19 = .ok (.if_icmp .ne 6, 3) := by decide +kernel
theorem dX1_countPresent_22 : decode cX1_countPresent 22 = .ok (.iinc 1 1, 3) := by decide +kernel
theorem dX1_countPresent_25 : decode cX1_countPresent 25 = .ok (.iinc 2 1, 3) := by decide +kernel
theorem dX1_countPresent_28 : decode cX1_countPresent 28 = .ok (.goto (-24), 3) := by decide +kernel
theorem dX1_countPresent_31 : decode cX1_countPresent 31 = .ok (.iload_n 1, 1) := by decide +kernel
theorem dX1_countPresent_32 : decode cX1_countPresent 32 = .ok (.ireturn, 1) := by decide +kernel
theorem dX1_patienceInAll_0 : decode cX1_patienceInAll 0 = .ok (.iconst 0, 1) := by decide +kernel
theorem dX1_patienceInAll_1 : decode cX1_patienceInAll 1 = .ok (.istore_n 1, 1) := by decide +kernel
theorem dX1_patienceInAll_2 : decode cX1_patienceInAll 2 = .ok (.iconst 0, 1) := by decide +kernel
theorem dX1_patienceInAll_3 : decode cX1_patienceInAll 3 = .ok (.istore_n 2, 1) := by decide +kernel
theorem dX1_patienceInAll_4 : decode cX1_patienceInAll 4 = .ok (.iload_n 2, 1) := by decide +kernel
theorem dX1_patienceInAll_5 : decode cX1_patienceInAll 5 = .ok (.aload_n 0, 1) := by decide +kernel
theorem dX1_patienceInAll_6 : decode cX1_patienceInAll 6 = .ok (.getfield 27, 3) := by decide +kernel
theorem dX1_patienceInAll_9 : decode cX1_patienceInAll 9 = .ok (.if_icmp .ge 28, 3) := by decide +kernel
theorem dX1_patienceInAll_12 : decode cX1_patienceInAll 12 = .ok (.aload_n 0, 1) := by decide +kernel
theorem dX1_patienceInAll_13 : decode cX1_patienceInAll 13 = .ok (.getfield 24, 3) := by decide +kernel
theorem dX1_patienceInAll_16 : decode cX1_patienceInAll 16 = .ok (.iload_n 2, 1) := by decide +kernel
theorem dX1_patienceInAll_17 : decode cX1_patienceInAll 17 = .ok (.iaload, 1) := by decide +kernel
theorem dX1_patienceInAll_18 : decode cX1_patienceInAll 18 = .ok (.iconst (-1), 1) := by decide +kernel
theorem dX1_patienceInAll_19 : decode cX1_patienceInAll 19 = .ok (.if_icmp .ne 12, 3) := by decide +kernel
theorem dX1_patienceInAll_22 : decode cX1_patienceInAll 22 = .ok (.iload_n 1, 1) := by decide +kernel
theorem dX1_patienceInAll_23 : decode cX1_patienceInAll 23 = .ok (.aload_n 0, 1) := by decide +kernel
theorem dX1_patienceInAll_24 : decode cX1_patienceInAll 24 = .ok (.getfield 21, 3) := by decide +kernel
theorem dX1_patienceInAll_27 : decode cX1_patienceInAll 27 = .ok (.iload_n 2, 1) := by decide +kernel
theorem dX1_patienceInAll_28 : decode cX1_patienceInAll 28 = .ok (.iaload, 1) := by decide +kernel
theorem dX1_patienceInAll_29 : decode cX1_patienceInAll 29 = .ok (.iadd, 1) := by decide +kernel
theorem dX1_patienceInAll_30 : decode cX1_patienceInAll 30 = .ok (.istore_n 1, 1) := by decide +kernel
theorem dX1_patienceInAll_31 : decode cX1_patienceInAll 31 = .ok (.iinc 2 1, 3) := by decide +kernel
theorem dX1_patienceInAll_34 : decode cX1_patienceInAll 34 = .ok (.goto (-30), 3) := by decide +kernel
theorem dX1_patienceInAll_37 : decode cX1_patienceInAll 37 = .ok (.iload_n 1, 1) := by decide +kernel
theorem dX1_patienceInAll_38 : decode cX1_patienceInAll 38 = .ok (.ireturn, 1) := by decide +kernel
theorem dX1_leastPatient_0 : decode cX1_leastPatient 0 = .ok (.iconst (-1), 1) := by decide +kernel
theorem dX1_leastPatient_1 : decode cX1_leastPatient 1 = .ok (.istore_n 1, 1) := by decide +kernel
theorem dX1_leastPatient_2 : decode cX1_leastPatient 2 = .ok (.bipush 31, 2) := by decide +kernel
theorem dX1_leastPatient_4 : decode cX1_leastPatient 4 = .ok (.istore_n 2, 1) := by decide +kernel
theorem dX1_leastPatient_5 : decode cX1_leastPatient 5 = .ok (.iconst 0, 1) := by decide +kernel
theorem dX1_leastPatient_6 : decode cX1_leastPatient 6 = .ok (.istore_n 3, 1) := by decide +kernel
theorem dX1_leastPatient_7 : decode cX1_leastPatient 7 = .ok (.iload_n 3, 1) := by decide +kernel
theorem dX1_leastPatient_8 : decode cX1_leastPatient 8 = .ok (.aload_n 0, 1) := by decide +kernel
theorem dX1_leastPatient_9 : decode cX1_leastPatient 9 = .ok (.getfield 27, 3) := by decide +kernel
theorem dX1_leastPatient_12 : decode cX1_leastPatient 12 = .ok (.if_icmp .ge 38, 3) := by decide +kernel
theorem dX1_leastPatient_15 : decode cX1_leastPatient 15 = .ok (.aload_n 0, 1) := by decide +kernel
theorem dX1_leastPatient_16 : decode cX1_leastPatient 16 = .ok (.getfield 24, 3) := by decide +kernel
theorem dX1_leastPatient_19 : decode cX1_leastPatient 19 = .ok (.iload_n 3, 1) := by decide +kernel
theorem dX1_leastPatient_20 : decode cX1_leastPatient 20 = .ok (.iaload, 1) := by decide +kernel
theorem dX1_leastPatient_21 : decode cX1_leastPatient 21 = .ok (.iconst (-1), 1) := by decide +kernel
theorem dX1_leastPatient_22 : decode cX1_leastPatient 22 = .ok (.if_icmp .ne 22, 3) := by decide +kernel
theorem dX1_leastPatient_25 : decode cX1_leastPatient 25 = .ok (.aload_n 0, 1) := by decide +kernel
theorem dX1_leastPatient_26 : decode cX1_leastPatient 26 = .ok (.getfield 21, 3) := by decide +kernel
theorem dX1_leastPatient_29 : decode cX1_leastPatient 29 = .ok (.iload_n 3, 1) := by decide +kernel
theorem dX1_leastPatient_30 : decode cX1_leastPatient 30 = .ok (.iaload, 1) := by decide +kernel
theorem dX1_leastPatient_31 : decode cX1_leastPatient 31 = .ok (.iload_n 2, 1) := by decide +kernel
theorem dX1_leastPatient_32 : decode cX1_leastPatient 32 = .ok (.if_icmp .ge 12, 3) := by decide +kernel
theorem dX1_leastPatient_35 : decode cX1_leastPatient 35 = .ok (.aload_n 0, 1) := by decide +kernel
theorem dX1_leastPatient_36 : decode cX1_leastPatient 36 = .ok (.getfield 21, 3) := by decide +kernel
theorem dX1_leastPatient_39 : decode cX1_leastPatient 39 = .ok (.iload_n 3, 1) := by decide +kernel
theorem dX1_leastPatient_40 : decode cX1_leastPatient 40 = .ok (.iaload, 1) := by decide +kernel
theorem dX1_leastPatient_41 : decode cX1_leastPatient 41 = .ok (.istore_n 2, 1) := by decide +kernel
theorem dX1_leastPatient_42 : decode cX1_leastPatient 42 = .ok (.iload_n 3, 1) := by decide +kernel
theorem dX1_leastPatient_43 : decode cX1_leastPatient 43 = .ok (.istore_n 1, 1) := by decide +kernel
theorem dX1_leastPatient_44 : decode cX1_leastPatient 44 = .ok (.iinc 3 1, 3) := by decide +kernel
theorem dX1_leastPatient_47 : decode cX1_leastPatient 47 = .ok (.goto (-40), 3) := by decide +kernel
theorem dX1_leastPatient_50 : decode cX1_leastPatient 50 = .ok (.iload_n 1, 1) := by decide +kernel
theorem dX1_leastPatient_51 : decode cX1_leastPatient 51 = .ok (.ireturn, 1) := by decide +kernel
theorem dX1_hear_0 : decode cX1_hear 0 = .ok (.iload_n 1, 1) := by decide +kernel
theorem dX1_hear_1 : decode cX1_hear 1 = .ok (.ifCond .le 13, 3) := by decide +kernel
theorem dX1_hear_4 : decode cX1_hear 4 = .ok (.iload_n 1, 1) := by decide +kernel
theorem dX1_hear_5 : decode cX1_hear 5 = .ok (.bipush 20, 2) := by decide +kernel
theorem dX1_hear_7 : decode cX1_hear 7 = .ok (.idiv, 1) := by decide +kernel
theorem dX1_hear_8 : decode cX1_hear 8 = .ok (.iconst 1, 1) := by decide +kernel
