theorem dX3_ground_11 : decode cX3_ground 11 = .ok (.idiv, 1) := by decide +kernel
theorem dX3_ground_12 : decode cX3_ground 12 = .ok (.ireturn, 1) := by decide +kernel
theorem dX3_divides_0 : decode cX3_divides 0 = .ok (.iload_n 0, 1) := by decide +kernel
theorem dX3_divides_1 : decode cX3_divides 1 = .ok (.ifCond .eq 13, 3) := by decide +kernel
theorem dX3_divides_4 : decode cX3_divides 4 = .ok (.iload_n 1, 1) := by decide +kernel
theorem dX3_divides_5 : decode cX3_divides 5 = .ok (.iload_n 0, 1) := by decide +kernel
theorem dX3_divides_6 : decode cX3_divides 6 = .ok (.irem, 1) := by decide +kernel
theorem dX3_divides_7 : decode cX3_divides 7 = .ok (.ifCond .ne 7, 3) := by decide +kernel
theorem dX3_divides_10 : decode cX3_divides 10 = .ok (.iconst 1, 1) := by decide +kernel
theorem dX3_divides_11 : decode cX3_divides 11 = .ok (.goto 4, 3) := by decide +kernel
theorem dX3_divides_14 : decode cX3_divides 14 = .ok (.iconst 0, 1) := by decide +kernel
theorem dX3_divides_15 : decode cX3_divides 15 = .ok (.ireturn, 1) := by decide +kernel
theorem dX3_isKind_0 : decode cX3_isKind 0 = .ok (.iload_n 0, 1) := by decide +kernel
theorem dX3_isKind_1 : decode cX3_isKind 1 = .ok (.ifCond .lt 12, 3) := by decide +kernel
theorem dX3_isKind_4 : decode cX3_isKind 4 = .ok (.iload_n 0, 1) := by decide +kernel
theorem dX3_isKind_5 : decode cX3_isKind 5 = .ok (.iconst 5, 1) := by decide +kernel
theorem dX3_isKind_6 : decode cX3_isKind 6 = .ok (.if_icmp .ge 7, 3) := by decide +kernel
theorem dX3_isKind_9 : decode cX3_isKind 9 = .ok (.iconst 1, 1) := by decide +kernel
theorem dX3_isKind_10 : decode cX3_isKind 10 = .ok (.goto 4, 3) := by decide +kernel
theorem dX3_isKind_13 : decode cX3_isKind 13 = .ok (.iconst 0, 1) := by decide +kernel
theorem dX3_isKind_14 : decode cX3_isKind 14 = .ok (.ireturn, 1) := by decide +kernel
set_option maxRecDepth 20000 in
theorem ggX3_requireTopic_X3_isKind : GoodIn wsX3_requireTopic wsX3_isKind := goodIn_r _ [6] (by decide +kernel) (by decide +kernel)
set_option maxRecDepth 20000 in
theorem gX3_requireTopic_X3_isKind : GoodIn wsX3_requireTopic (va_wsS RX3 117 yX3_isKind wsX3_isKind) := goodIn_app (goodIn_of _ (by decide +kernel)) ggX3_requireTopic_X3_isKind
theorem dX3_requireTopic_0 : decode cX3_requireTopic 0 = .ok (.iload_n 0, 1) := by decide +kernel
theorem dX3_requireTopic_1 : decode cX3_requireTopic 1 = .ok (.invokestatic 117, 3) := by decide +kernel
theorem dX3_requireTopic_4 : decode cX3_requireTopic 4 = .ok (.ifCond .ne 13, 3) := by decide +kernel
theorem dX3_requireTopic_7 : decode cX3_requireTopic 7 = .ok (.new 61, 3) := by decide +kernel
theorem dX3_requireTopic_10 : decode cX3_requireTopic 10 = .ok (.dup, 1) := by decide +kernel
theorem dX3_requireTopic_11 : decode cX3_requireTopic 11 = .ok (.ldc 123, 2) := by decide +kernel
theorem dX3_requireTopic_13 : decode cX3_requireTopic 13 = .ok (.invokespecial 65, 3) := by decide +kernel
theorem dX3_requireTopic_16 : decode cX3_requireTopic 16 = .ok (.athrow, 1) := by decide +kernel
theorem dX3_requireTopic_17 : decode cX3_requireTopic 17 = .ok (.iload_n 1, 1) := by decide +kernel
theorem dX3_requireTopic_18 : decode cX3_requireTopic 18 = .ok (.iconst 2, 1) := by decide +kernel
theorem dX3_requireTopic_19 : decode cX3_requireTopic 19 = .ok (.if_icmp .lt 9, 3) := by decide +kernel
theorem dX3_requireTopic_22 : decode cX3_requireTopic 22 = .ok (.iload_n 1, 1) := by decide +kernel
theorem dX3_requireTopic_23 : decode cX3_requireTopic 23 = .ok (.bipush 99, 2) := by decide +kernel
theorem dX3_requireTopic_25 : decode cX3_requireTopic 25 = .ok (.if_icmp .le 13, 3) := by decide +kernel
theorem dX3_requireTopic_28 : decode cX3_requireTopic 28 = .ok (.new 61, 3) := by decide +kernel
theorem dX3_requireTopic_31 : decode cX3_requireTopic 31 = .ok (.dup, 1) := by decide +kernel
theorem dX3_requireTopic_32 : decode cX3_requireTopic 32 = .ok (.ldc 215, 2) := by decide +kernel
theorem dX3_requireTopic_34 : decode cX3_requireTopic 34 = .ok (.invokespecial 65, 3) := by decide +kernel
theorem dX3_requireTopic_37 : decode cX3_requireTopic 37 = .ok (.athrow, 1) := by decide +kernel
theorem dX3_requireTopic_38 : decode cX3_requireTopic 38 = .ok (.return_, 1) := by decide +kernel
theorem dX3_requireMinutes_0 : decode cX3_requireMinutes 0 = .ok (.iload_n 0, 1) := by decide +kernel
theorem dX3_requireMinutes_1 : decode cX3_requireMinutes 1 = .ok (.iconst 1, 1) := by decide +kernel
theorem dX3_requireMinutes_2 : decode cX3_requireMinutes 2 = .ok (.if_icmp .lt 9, 3) := by decide +kernel
theorem dX3_requireMinutes_5 : decode cX3_requireMinutes 5 = .ok (.iload_n 0, 1) := by decide +kernel
theorem dX3_requireMinutes_6 : decode cX3_requireMinutes 6 = .ok (.bipush 60, 2) := by decide +kernel
theorem dX3_requireMinutes_8 : decode cX3_requireMinutes 8 = .ok (.if_icmp .le 13, 3) := by decide +kernel
theorem dX3_requireMinutes_11 : decode cX3_requireMinutes 11 = .ok (.new 61, 3) := by decide +kernel
theorem dX3_requireMinutes_14 : decode cX3_requireMinutes 14 = .ok (.dup, 1) := by decide +kernel
theorem dX3_requireMinutes_15 : decode cX3_requireMinutes 15 = .ok (.ldc 217, 2) := by decide +kernel
theorem dX3_requireMinutes_17 : decode cX3_requireMinutes 17 = .ok (.invokespecial 65, 3) := by decide +kernel
theorem dX3_requireMinutes_20 : decode cX3_requireMinutes 20 = .ok (.athrow, 1) := by decide +kernel
theorem dX3_requireMinutes_21 : decode cX3_requireMinutes 21 = .ok (.return_, 1) := by decide +kernel
set_option maxRecDepth 20000 in
theorem ggX3_requirePlace_X0_holds : GoodIn wsX3_requirePlace wsX0_holds := goodIn_r _ [9, 10, 22, 23, 24] (by decide +kernel) (by decide +kernel)
set_option maxRecDepth 20000 in
theorem gX3_requirePlace_X0_holds : GoodIn wsX3_requirePlace (wsV RX3 219 RX0 yX0_holds wsX0_holds) := goodIn_app (goodIn_of _ (by decide +kernel)) ggX3_requirePlace_X0_holds
theorem dX3_requirePlace_0 : decode cX3_requirePlace 0 = .ok (.aload_n 0, 1) := by decide +kernel
theorem dX3_requirePlace_1 : decode cX3_requirePlace 1 = .ok (.getfield 12, 3) := by decide +kernel
theorem dX3_requirePlace_4 : decode cX3_requirePlace 4 = .ok (.getfield 23, 3) := by decide +kernel
theorem dX3_requirePlace_7 : decode cX3_requirePlace 7 = .ok (.iload_n 1, 1) := by decide +kernel
theorem dX3_requirePlace_8 : decode cX3_requirePlace 8 = .ok (.invokevirtual 219, 3) := by decide +kernel
theorem dX3_requirePlace_11 : decode cX3_requirePlace 11 = .ok (.ifCond .ne 13, 3) := by decide +kernel
theorem dX3_requirePlace_14 : decode cX3_requirePlace 14 = .ok (.new 121, 3) := by decide +kernel
theorem dX3_requirePlace_17 : decode cX3_requirePlace 17 = .ok (.dup, 1) := by decide +kernel
theorem dX3_requirePlace_18 : decode cX3_requirePlace 18 = .ok (.ldc 222, 2) := by decide +kernel
theorem dX3_requirePlace_20 : decode cX3_requirePlace 20 = .ok (.invokespecial 125, 3) := by decide +kernel
theorem dX3_requirePlace_23 : decode cX3_requirePlace 23 = .ok (.athrow, 1) := by decide +kernel
theorem dX3_requirePlace_24 : decode cX3_requirePlace 24 = .ok (.return_, 1) := by decide +kernel
set_option maxRecDepth 20000 in
theorem ggX3_requireTalker_X1_knows : GoodIn wsX3_requireTalker wsX1_knows := goodIn_r _ [9, 10, 22, 23, 24, 25, 26, 27] (by decide +kernel) (by decide +kernel)
set_option maxRecDepth 20000 in
theorem gX3_requireTalker_X1_knows : GoodIn wsX3_requireTalker (wsV RX3 224 RX1 yX1_knows wsX1_knows) := goodIn_app (goodIn_of _ (by decide +kernel)) ggX3_requireTalker_X1_knows
theorem dX3_requireTalker_0 : decode cX3_requireTalker 0 = .ok (.aload_n 0, 1) := by decide +kernel
theorem dX3_requireTalker_1 : decode cX3_requireTalker 1 = .ok (.getfield 12, 3) := by decide +kernel
theorem dX3_requireTalker_4 : decode cX3_requireTalker 4 = .ok (.getfield 81, 3) := by decide +kernel
theorem dX3_requireTalker_7 : decode cX3_requireTalker 7 = .ok (.iload_n 1, 1) := by decide +kernel
theorem dX3_requireTalker_8 : decode cX3_requireTalker 8 = .ok (.invokevirtual 224, 3) := by decide +kernel
theorem dX3_requireTalker_11 : decode cX3_requireTalker 11 = .ok (.ifCond .ne 13, 3) := by decide +kernel
theorem dX3_requireTalker_14 : decode cX3_requireTalker 14 = .ok (.new 121, 3) := by decide +kernel
theorem dX3_requireTalker_17 : decode cX3_requireTalker 17 = .ok (.dup, 1) := by decide +kernel
theorem dX3_requireTalker_18 : decode cX3_requireTalker 18 = .ok (.ldc 227, 2) := by decide +kernel
theorem dX3_requireTalker_20 : decode cX3_requireTalker 20 = .ok (.invokespecial 125, 3) := by decide +kernel
theorem dX3_requireTalker_23 : decode cX3_requireTalker 23 = .ok (.athrow, 1) := by decide +kernel
theorem dX3_requireTalker_24 : decode cX3_requireTalker 24 = .ok (.return_, 1) := by decide +kernel
theorem dX4_init_0 : decode cX4_init 0 = .ok (.aload_n 0, 1) := by decide +kernel
theorem dX4_init_1 : decode cX4_init 1 = .ok (.invokespecial 1, 3) := by decide +kernel
theorem dX4_init_4 : decode cX4_init 4 = .ok (.aload_n 0, 1) := by decide +kernel
theorem dX4_init_5 : decode cX4_init 5 = .ok (.iconst 2, 1) := by decide +kernel
theorem dX4_init_6 : decode cX4_init 6 = .ok (.putfield 7, 3) := by decide +kernel
theorem dX4_init_9 : decode cX4_init 9 = .ok (.aload_n 0, 1) := by decide +kernel
theorem dX4_init_10 : decode cX4_init 10 = .ok (.iconst 1, 1) := by decide +kernel
theorem dX4_init_11 : decode cX4_init 11 = .ok (.putfield 13, 3) := by decide +kernel
theorem dX4_init_14 : decode cX4_init 14 = .ok (.aload_n 0, 1) := by decide +kernel
theorem dX4_init_15 : decode cX4_init 15 = .ok (.iconst 3, 1) := by decide +kernel
theorem dX4_init_16 : decode cX4_init 16 = .ok (.putfield 16, 3) := by decide +kernel
theorem dX4_init_19 : decode cX4_init 19 = .ok (.aload_n 0, 1) := by decide +kernel
theorem dX4_init_20 : decode cX4_init 20 = .ok (.iconst 0, 1) := by decide +kernel
theorem dX4_init_21 : decode cX4_init 21 = .ok (.anewarray 19, 3) := by decide +kernel
theorem dX4_init_24 : decode cX4_init 24 = .ok (.putfield 21, 3) := by decide +kernel
theorem dX4_init_27 : decode cX4_init 27 = .ok (.aload_n 0, 1) := by decide +kernel
theorem dX4_init_28 : decode cX4_init 28 = .ok (.iconst 0, 1) := by decide +kernel
theorem dX4_init_29 : decode cX4_init 29 = .ok (.anewarray 19, 3) := by decide +kernel
theorem dX4_init_32 : decode cX4_init 32 = .ok (.putfield 25, 3) := by decide +kernel
theorem dX4_init_35 : decode cX4_init 35 = .ok (.return_, 1) := by decide +kernel
theorem dX4_with_0 : decode cX4_with 0 = .ok (.aload_n 0, 1) := by decide +kernel
theorem dX4_with_1 : decode cX4_with 1 = .ok (.arraylength, 1) := by decide +kernel
theorem dX4_with_2 : decode cX4_with 2 = .ok (.iconst 1, 1) := by decide +kernel
theorem dX4_with_3 : decode cX4_with 3 = .ok (.iadd, 1) := by decide +kernel
theorem dX4_with_4 : decode cX4_with 4 = .ok (.anewarray 19, 3) := by decide +kernel
theorem dX4_with_7 : decode cX4_with 7 = .ok (.astore_n 2, 1) := by decide +kernel
theorem dX4_with_8 : decode cX4_with 8 = .ok (.iconst 0, 1) := by decide +kernel
theorem dX4_with_9 : decode cX4_with 9 = .ok (.istore_n 3, 1) := by decide +kernel
theorem dX4_with_10 : decode cX4_with 10 = .ok (.iload_n 3, 1) := by decide +kernel
theorem dX4_with_11 : decode cX4_with 11 = .ok (.aload_n 0, 1) := by decide +kernel
theorem dX4_with_12 : decode cX4_with 12 = .ok (.arraylength, 1) := by decide +kernel
theorem dX4_with_13 : decode cX4_with 13 = .ok (.if_icmp .ge 15, 3) := by decide +kernel
theorem dX4_with_16 : decode cX4_with 16 = .ok (.aload_n 2, 1) := by decide +kernel
theorem dX4_with_17 : decode cX4_with 17 = .ok (.iload_n 3, 1) := by decide +kernel
theorem dX4_with_18 : decode cX4_with 18 = .ok (.aload_n 0, 1) := by decide +kernel
theorem dX4_with_19 : decode cX4_with 19 = .ok (.iload_n 3, 1) := by decide +kernel
theorem dX4_with_20 : decode cX4_with 20 = .ok (.aaload, 1) := by decide +kernel
theorem dX4_with_21 : decode cX4_with 21 = .ok (.aastore, 1) := by decide +kernel
theorem dX4_with_22 : decode cX4_with 22 = .ok (.iinc 3 1, 3) := by decide +kernel
theorem dX4_with_25 : decode cX4_with 25 = .ok (.goto (-15), 3) := by decide +kernel
theorem dX4_with_28 : decode cX4_with 28 = .ok (.aload_n 2, 1) := by decide +kernel
theorem dX4_with_29 : decode cX4_with 29 = .ok (.aload_n 0, 1) := by decide +kernel
theorem dX4_with_30 : decode cX4_with 30 = .ok (.arraylength, 1) := by decide +kernel
theorem dX4_with_31 : decode cX4_with 31 = .ok (.aload_n 1, 1) := by decide +kernel
theorem dX4_with_32 : decode cX4_with 32 = .ok (.aastore, 1) := by decide +kernel
theorem dX4_with_33 : decode cX4_with 33 = .ok (.aload_n 2, 1) := by decide +kernel
theorem dX4_with_34 : decode cX4_with 34 = .ok (.areturn, 1) := by decide +kernel
set_option maxRecDepth 20000 in
theorem ggX4_copy_X4_init : GoodIn wsX4_copy wsX4_init := goodIn_r _ [21, 22, 23, 24, 8, 9, 10, 17, 11, 18, 28, 29, 30, 31, 32, 33, 34, 35, 36] (by decide +kernel) (by decide +kernel)
set_option maxRecDepth 20000 in
theorem gX4_copy_X4_init : GoodIn wsX4_copy (wsX4_init) := ggX4_copy_X4_init
set_option maxRecDepth 20000 in
theorem ggX4_copy_X4_with : GoodIn wsX4_copy wsX4_with := goodIn_r _ [27, 17] (by decide +kernel) (by decide +kernel)
set_option maxRecDepth 20000 in
theorem gX4_copy_X4_with : GoodIn wsX4_copy (va_wsS RX4 45 yX4_with wsX4_with) := goodIn_app (goodIn_of _ (by decide +kernel)) ggX4_copy_X4_with
theorem dX4_copy_0 : decode cX4_copy 0 = .ok (.new 8, 3) := by decide +kernel
theorem dX4_copy_3 : decode cX4_copy 3 = .ok (.dup, 1) := by decide +kernel
theorem dX4_copy_4 : decode cX4_copy 4 = .ok (.invokespecial 28, 3) := by decide +kernel
theorem dX4_copy_7 : decode cX4_copy 7 = .ok (.astore_n 1, 1) := by decide +kernel
theorem dX4_copy_8 : decode cX4_copy 8 = .ok (.aload_n 1, 1) := by decide +kernel
theorem dX4_copy_9 : decode cX4_copy 9 = .ok (.aload_n 0, 1) := by decide +kernel
theorem dX4_copy_10 : decode cX4_copy 10 = .ok (.getfield 29, 3) := by decide +kernel
theorem dX4_copy_13 : decode cX4_copy 13 = .ok (.putfield 29, 3) := by decide +kernel
theorem dX4_copy_16 : decode cX4_copy 16 = .ok (.aload_n 1, 1) := by decide +kernel
theorem dX4_copy_17 : decode cX4_copy 17 = .ok (.aload_n 0, 1) := by decide +kernel
theorem dX4_copy_18 : decode cX4_copy 18 = .ok (.getfield 32, 3) := by decide +kernel
theorem dX4_copy_21 : decode cX4_copy 21 = .ok (.putfield 32, 3) := by decide +kernel
theorem dX4_copy_24 : decode cX4_copy 24 = .ok (.aload_n 1, 1) := by decide +kernel
theorem dX4_copy_25 : decode cX4_copy 25 = .ok (.aload_n 0, 1) := by decide +kernel
theorem dX4_copy_26 : decode cX4_copy 26 = .ok (.getfield 35, 3) := by decide +kernel
theorem dX4_copy_29 : decode cX4_copy 29 = .ok (.putfield 35, 3) := by decide +kernel
theorem dX4_copy_32 : decode cX4_copy 32 = .ok (.aload_n 1, 1) := by decide +kernel
theorem dX4_copy_33 : decode cX4_copy 33 = .ok (.aload_n 0, 1) := by decide +kernel
theorem dX4_copy_34 : decode cX4_copy 34 = .ok (.getfield 38, 3) := by decide +kernel
theorem dX4_copy_37 : decode cX4_copy 37 = .ok (.putfield 38, 3) := by decide +kernel
theorem dX4_copy_40 : decode cX4_copy 40 = .ok (.aload_n 1, 1) := by decide +kernel
theorem dX4_copy_41 : decode cX4_copy 41 = .ok (.aload_n 0, 1) := by decide +kernel
theorem dX4_copy_42 : decode cX4_copy 42 = .ok (.getfield 7, 3) := by decide +kernel
theorem dX4_copy_45 : decode cX4_copy 45 = .ok (.putfield 7, 3) := by decide +kernel
theorem dX4_copy_48 : decode cX4_copy 48 = .ok (.aload_n 1, 1) := by decide +kernel
theorem dX4_copy_49 : decode cX4_copy 49 = .ok (.aload_n 0, 1) := by decide +kernel
theorem dX4_copy_50 : decode cX4_copy 50 = .ok (.getfield 13, 3) := by decide +kernel
theorem dX4_copy_53 : decode cX4_copy 53 = .ok (.putfield 13, 3) := by decide +kernel
theorem dX4_copy_56 : decode cX4_copy 56 = .ok (.aload_n 1, 1) := by decide +kernel
theorem dX4_copy_57 : decode cX4_copy 57 = .ok (.aload_n 0, 1) := by decide +kernel
theorem dX4_copy_58 : decode cX4_copy 58 = .ok (.getfield 16, 3) := by decide +kernel
theorem dX4_copy_61 : decode cX4_copy 61 = .ok (.putfield 16, 3) := by decide +kernel
theorem dX4_copy_64 : decode cX4_copy 64 = .ok (.aload_n 0, 1) := by decide +kernel
theorem dX4_copy_65 : decode cX4_copy 65 = .ok (.getfield 21, 3) := by decide +kernel
theorem dX4_copy_68 : decode cX4_copy 68 = .ok (.astore_n 2, 1) := by decide +kernel
theorem dX4_copy_69 : decode cX4_copy 69 = .ok (.aload_n 2, 1) := by decide +kernel
theorem dX4_copy_70 : decode cX4_copy 70 = .ok (.arraylength, 1) := by decide +kernel
theorem dX4_copy_71 : decode cX4_copy 71 = .ok (.istore_n 3, 1) := by decide +kernel
theorem dX4_copy_72 : decode cX4_copy 72 = .ok (.iconst 0, 1) := by decide +kernel
theorem dX4_copy_73 : decode cX4_copy 73 = .ok (.istore 4, 2) := by decide +kernel
theorem dX4_copy_75 : decode cX4_copy 75 = .ok (.iload 4, 2) := by decide +kernel
theorem dX4_copy_77 : decode cX4_copy 77 = .ok (.iload_n 3, 1) := by decide +kernel
theorem dX4_copy_78 : decode cX4_copy 78 = .ok (.if_icmp .ge 34, 3) := by decide +kernel
theorem dX4_copy_81 : decode cX4_copy 81 = .ok (.aload_n 2, 1) := by decide +kernel
theorem dX4_copy_82 : decode cX4_copy 82 = .ok (.iload 4, 2) := by decide +kernel
theorem dX4_copy_84 : decode cX4_copy 84 = .ok (.aaload, 1) := by decide +kernel
theorem dX4_copy_85 : decode cX4_copy 85 = .ok (.astore 5, 2) := by decide +kernel
theorem dX4_copy_87 : decode cX4_copy 87 = .ok (.aload_n 1, 1) := by decide +kernel
theorem dX4_copy_88 : decode cX4_copy 88 = .ok (.aload_n 1, 1) := by decide +kernel
theorem dX4_copy_89 : decode cX4_copy 89 = .ok (.getfield 21, 3) := by decide +kernel
theorem dX4_copy_92 : decode cX4_copy 92 = .ok (.aload 5, 2) := by decide +kernel
theorem dX4_copy_94 : decode cX4_copy 94 = .ok (.invokevirtual 41, 3) := by decide +kernel
theorem dX4_copy_97 : decode cX4_copy 97 = .ok (.checkcast 19, 3) := by decide +kernel
theorem dX4_copy_100 : decode cX4_copy 100 = .ok (.invokestatic 45, 3) := by decide +kernel
theorem dX4_copy_103 : decode cX4_copy 103 = .ok (.putfield 21, 3) := by decide +kernel
theorem dX4_copy_106 : decode cX4_copy 106 = .ok (.iinc 4 1, 3) := by decide +kernel
theorem dX4_copy_109 : decode cX4_copy 109 = .ok (.goto (-34), 3) := by decide +kernel
theorem dX4_copy_112 : decode cX4_copy 112 = .ok (.aload_n 0, 1) := by decide +kernel
theorem dX4_copy_113 : decode cX4_copy 113 = .ok (.getfield 25, 3) := by decide +kernel
theorem dX4_copy_116 : decode cX4_copy 116 = .ok (.astore_n 2, 1) := by decide +kernel
theorem dX4_copy_117 : decode cX4_copy 117 = .ok (.aload_n 2, 1) := by decide +kernel
theorem dX4_copy_118 : decode cX4_copy 118 = .ok (.arraylength, 1) := by decide +kernel
theorem dX4_copy_119 : decode cX4_copy 119 = .ok (.istore_n 3, 1) := by decide +kernel
theorem dX4_copy_120 : decode cX4_copy 120 = .ok (.iconst 0, 1) := by decide +kernel
theorem dX4_copy_121 : decode cX4_copy 121 = .ok (.istore 4, 2) := by decide +kernel
theorem dX4_copy_123 : decode cX4_copy 123 = .ok (.iload 4, 2) := by decide +kernel
theorem dX4_copy_125 : decode cX4_copy 125 = .ok (.iload_n 3, 1) := by decide +kernel
theorem dX4_copy_126 : decode cX4_copy 126 = .ok (.if_icmp .ge 34, 3) := by decide +kernel
theorem dX4_copy_129 : decode cX4_copy 129 = .ok (.aload_n 2, 1) := by decide +kernel
theorem dX4_copy_130 : decode cX4_copy 130 = .ok (.iload 4, 2) := by decide +kernel
theorem dX4_copy_132 : decode cX4_copy 132 = .ok (.aaload, 1) := by decide +kernel
theorem dX4_copy_133 : decode cX4_copy 133 = .ok (.astore 5, 2) := by decide +kernel
theorem dX4_copy_135 : decode cX4_copy 135 = .ok (.aload_n 1, 1) := by decide +kernel
theorem dX4_copy_136 : decode cX4_copy 136 = .ok (.aload_n 1, 1) := by decide +kernel
theorem dX4_copy_137 : decode cX4_copy 137 = .ok (.getfield 25, 3) := by decide +kernel
theorem dX4_copy_140 : decode cX4_copy 140 = .ok (.aload 5, 2) := by decide +kernel
theorem dX4_copy_142 : decode cX4_copy 142 = .ok (.invokevirtual 41, 3) := by decide +kernel
theorem dX4_copy_145 : decode cX4_copy 145 = .ok (.checkcast 19, 3) := by decide +kernel
theorem dX4_copy_148 : decode cX4_copy 148 = .ok (.invokestatic 45, 3) := by decide +kernel
theorem dX4_copy_151 : decode cX4_copy 151 = .ok (.putfield 25, 3) := by decide +kernel
theorem dX4_copy_154 : decode cX4_copy 154 = .ok (.iinc 4 1, 3) := by decide +kernel
theorem dX4_copy_157 : decode cX4_copy 157 = .ok (.goto (-34), 3) := by decide +kernel
theorem dX4_copy_160 : decode cX4_copy 160 = .ok (.aload_n 1, 1) := by decide +kernel
theorem dX4_copy_161 : decode cX4_copy 161 = .ok (.areturn, 1) := by decide +kernel
theorem dX4_noise_0 : decode cX4_noise 0 = .ok (.iconst 0, 1) := by decide +kernel
theorem dX4_noise_1 : decode cX4_noise 1 = .ok (.istore_n 1, 1) := by decide +kernel
theorem dX4_noise_2 : decode cX4_noise 2 = .ok (.aload_n 0, 1) := by decide +kernel
theorem dX4_noise_3 : decode cX4_noise 3 = .ok (.getfield 21, 3) := by decide +kernel
theorem dX4_noise_6 : decode cX4_noise 6 = .ok (.astore_n 2, 1) := by decide +kernel
theorem dX4_noise_7 : decode cX4_noise 7 = .ok (.aload_n 2, 1) := by decide +kernel
theorem dX4_noise_8 : decode cX4_noise 8 = .ok (.arraylength, 1) := by decide +kernel
theorem dX4_noise_9 : decode cX4_noise 9 = .ok (.istore_n 3, 1) := by decide +kernel
theorem dX4_noise_10 : decode cX4_noise 10 = .ok (.iconst 0, 1) := by decide +kernel
theorem dX4_noise_11 : decode cX4_noise 11 = .ok (.istore 4, 2) := by decide +kernel
theorem dX4_noise_13 : decode cX4_noise 13 = .ok (.iload 4, 2) := by decide +kernel
theorem dX4_noise_15 : decode cX4_noise 15 = .ok (.iload_n 3, 1) := by decide +kernel
theorem dX4_noise_16 : decode cX4_noise 16 = .ok (.if_icmp .ge 22, 3) := by decide +kernel
theorem dX4_noise_19 : decode cX4_noise 19 = .ok (.aload_n 2, 1) := by decide +kernel
theorem dX4_noise_20 : decode cX4_noise 20 = .ok (.iload 4, 2) := by decide +kernel
theorem dX4_noise_22 : decode cX4_noise 22 = .ok (.aaload, 1) := by decide +kernel
theorem dX4_noise_23 : decode cX4_noise 23 = .ok (.astore 5, 2) := by decide +kernel
theorem dX4_noise_25 : decode cX4_noise 25 = .ok (.iload_n 1, 1) := by decide +kernel
theorem dX4_noise_26 : decode cX4_noise 26 = .ok (.aload 5, 2) := by decide +kernel
theorem dX4_noise_28 : decode cX4_noise 28 = .ok (.iconst 0, 1) := by decide +kernel
theorem dX4_noise_29 : decode cX4_noise 29 = .ok (.iaload, 1) := by decide +kernel
theorem dX4_noise_30 : decode cX4_noise 30 = .ok (.iadd, 1) := by decide +kernel
theorem dX4_noise_31 : decode cX4_noise 31 = .ok (.istore_n 1, 1) := by decide +kernel
theorem dX4_noise_32 : decode cX4_noise 32 = .ok (.iinc 4 1, 3) := by decide +kernel
theorem dX4_noise_35 : decode cX4_noise 35 = .ok (.goto (-22), 3) := by decide +kernel
theorem dX4_noise_38 : decode cX4_noise 38 = .ok (.iload_n 1, 1) := by decide +kernel
theorem dX4_noise_39 : decode cX4_noise 39 = .ok (.ireturn, 1) := by decide +kernel
theorem dX4_isThere_0 : decode cX4_isThere 0 = .ok (.aload_n 0, 1) := by decide +kernel
theorem dX4_isThere_1 : decode cX4_isThere 1 = .ok (.getfield 25, 3) := by decide +kernel
theorem dX4_isThere_4 : decode cX4_isThere 4 = .ok (.iload_n 1, 1) := by decide +kernel
theorem dX4_isThere_5 : decode cX4_isThere 5 = .ok (.aaload, 1) := by decide +kernel
theorem dX4_isThere_6 : decode cX4_isThere 6 = .ok (.iconst 1, 1) := by decide +kernel
theorem dX4_isThere_7 : decode cX4_isThere 7 = .ok (.iaload, 1) := by decide +kernel
theorem dX4_isThere_8 : decode cX4_isThere 8 = .ok (.ifCond .ge 7, 3) := by decide +kernel
theorem dX4_isThere_11 : decode cX4_isThere 11 = .ok (.iconst 1, 1) := by decide +kernel
theorem dX4_isThere_12 : decode cX4_isThere 12 = .ok (.goto 4, 3) := by decide +kernel
theorem dX4_isThere_15 : decode cX4_isThere 15 = .ok (.iconst 0, 1) := by decide +kernel
theorem dX4_isThere_16 : decode cX4_isThere 16 = .ok (.ireturn, 1) := by decide +kernel
set_option maxRecDepth 20000 in
theorem ggX4_push_X4_with : GoodIn wsX4_push wsX4_with := goodIn_r _ [6, 1] (by decide +kernel) (by decide +kernel)
set_option maxRecDepth 20000 in
theorem gX4_push_X4_with : GoodIn wsX4_push (va_wsS RX4 45 yX4_with wsX4_with) := goodIn_app (goodIn_of _ (by decide +kernel)) ggX4_push_X4_with
theorem dX4_push_0 : decode cX4_push 0 = .ok (.iconst 1, 1) := by decide +kernel
theorem dX4_push_1 : decode cX4_push 1 = .ok (.anewarray 19, 3) := by decide +kernel
theorem dX4_push_4 : decode cX4_push 4 = .ok (.dup, 1) := by decide +kernel
theorem dX4_push_5 : decode cX4_push 5 = .ok (.iconst 0, 1) := by decide +kernel
theorem dX4_push_6 : decode cX4_push 6 = .ok (.aload_n 0, 1) := by decide +kernel
theorem dX4_push_7 : decode cX4_push 7 = .ok (.getfield 21, 3) := by decide +kernel
theorem dX4_push_10 : decode cX4_push 10 = .ok (.iload_n 1, 1) := by decide +kernel
theorem dX4_push_11 : decode cX4_push 11 = .ok (.aaload, 1) := by decide +kernel
theorem dX4_push_12 : decode cX4_push 12 = .ok (.aastore, 1) := by decide +kernel
theorem dX4_push_13 : decode cX4_push 13 = .ok (.astore_n 2, 1) := by decide +kernel
theorem dX4_push_14 : decode cX4_push 14 = .ok (.iconst 0, 1) := by decide +kernel
theorem dX4_push_15 : decode cX4_push 15 = .ok (.istore_n 3, 1) := by decide +kernel
theorem dX4_push_16 : decode cX4_push 16 = .ok (.iload_n 3, 1) := by decide +kernel
theorem dX4_push_17 : decode cX4_push 17 = .ok (.aload_n 0, 1) := by decide +kernel
theorem dX4_push_18 : decode cX4_push 18 = .ok (.getfield 21, 3) := by decide +kernel
theorem dX4_push_21 : decode cX4_push 21 = .ok (.arraylength, 1) := by decide +kernel
theorem dX4_push_22 : decode cX4_push 22 = .ok (.if_icmp .ge 25, 3) := by decide +kernel
theorem dX4_push_25 : decode cX4_push 25 = .ok (.iload_n 3, 1) := by decide +kernel
theorem dX4_push_26 : decode cX4_push 26 = .ok (.iload_n 1, 1) := by decide +kernel
theorem dX4_push_27 : decode cX4_push 27 = .ok (.if_icmp .eq 14, 3) := by decide +kernel
theorem dX4_push_30 : decode cX4_push 30 = .ok (.aload_n 2, 1) := by decide +kernel
theorem dX4_push_31 : decode cX4_push 31 = .ok (.aload_n 0, 1) := by decide +kernel
theorem dX4_push_32 : decode cX4_push 32 = .ok (.getfield 21, 3) := by decide +kernel
theorem dX4_push_35 : decode cX4_push 35 = .ok (.iload_n 3, 1) := by decide +kernel
theorem dX4_push_36 : decode cX4_push 36 = .ok (.aaload, 1) := by decide +kernel
theorem dX4_push_37 : decode cX4_push 37 = .ok (.invokestatic 45, 3) := by decide +kernel
theorem dX4_push_40 : decode cX4_push 40 = .ok (.astore_n 2, 1) := by decide +kernel
theorem dX4_push_41 : decode cX4_push 41 = .ok (.iinc 3 1, 3) := by decide +kernel
theorem dX4_push_44 : decode cX4_push 44 = .ok (.goto (-28), 3) := by decide +kernel
theorem dX4_push_47 : decode cX4_push 47 = .ok (.aload_n 0, 1) := by decide +kernel
theorem dX4_push_48 : decode cX4_push 48 = .ok (.aload_n 2, 1) := by decide +kernel
theorem dX4_push_49 : decode cX4_push 49 = .ok (.putfield 21, 3) := by decide +kernel
theorem dX4_push_52 : decode cX4_push 52 = .ok (.return_, 1) := by decide +kernel
set_option maxRecDepth 20000 in
theorem ggX4_drop_X4_with : GoodIn wsX4_drop wsX4_with := goodIn_r _ [6, 1] (by decide +kernel) (by decide +kernel)
set_option maxRecDepth 20000 in
theorem gX4_drop_X4_with : GoodIn wsX4_drop (va_wsS RX4 45 yX4_with wsX4_with) := goodIn_app (goodIn_of _ (by decide +kernel)) ggX4_drop_X4_with
theorem dX4_drop_0 : decode cX4_drop 0 = .ok (.iconst 0, 1) := by decide +kernel
theorem dX4_drop_1 : decode cX4_drop 1 = .ok (.anewarray 19, 3) := by decide +kernel
theorem dX4_drop_4 : decode cX4_drop 4 = .ok (.astore_n 2, 1) := by decide +kernel
theorem dX4_drop_5 : decode cX4_drop 5 = .ok (.iconst 0, 1) := by decide +kernel
theorem dX4_drop_6 : decode cX4_drop 6 = .ok (.istore_n 3, 1) := by decide +kernel
theorem dX4_drop_7 : decode cX4_drop 7 = .ok (.iload_n 3, 1) := by decide +kernel
theorem dX4_drop_8 : decode cX4_drop 8 = .ok (.aload_n 0, 1) := by decide +kernel
theorem dX4_drop_9 : decode cX4_drop 9 = .ok (.getfield 21, 3) := by decide +kernel
theorem dX4_drop_12 : decode cX4_drop 12 = .ok (.arraylength, 1) := by decide +kernel
theorem dX4_drop_13 : decode cX4_drop 13 = .ok (.if_icmp .ge 25, 3) := by decide +kernel
theorem dX4_drop_16 : decode cX4_drop 16 = .ok (.iload_n 3, 1) := by decide +kernel
theorem dX4_drop_17 : decode cX4_drop 17 = .ok (.iload_n 1, 1) := by decide +kernel
theorem dX4_drop_18 : decode cX4_drop 18 = .ok (.if_icmp .eq 14, 3) := by decide +kernel
theorem dX4_drop_21 : decode cX4_drop 21 = .ok (.aload_n 2, 1) := by decide +kernel
theorem dX4_drop_22 : decode cX4_drop 22 = .ok (.aload_n 0, 1) := by decide +kernel
theorem dX4_drop_23 : decode cX4_drop 23 = .ok (.getfield 21, 3) := by decide +kernel
theorem dX4_drop_26 : decode cX4_drop 26 = .ok (.iload_n 3, 1) := by decide +kernel
theorem dX4_drop_27 : decode cX4_drop 27 = .ok (.aaload, 1) := by decide +kernel
theorem dX4_drop_28 : decode cX4_drop 28 = .ok (.invokestatic 45, 3) := by decide +kernel
theorem dX4_drop_31 : decode cX4_drop 31 = .ok (.astore_n 2, 1) := by decide +kernel
theorem dX4_drop_32 : decode cX4_drop 32 = .ok (.iinc 3 1, 3) := by decide +kernel
theorem dX4_drop_35 : decode cX4_drop 35 = .ok (.goto (-28), 3) := by decide +kernel
theorem dX4_drop_38 : decode cX4_drop 38 = .ok (.aload_n 0, 1) := by decide +kernel
theorem dX4_drop_39 : decode cX4_drop 39 = .ok (.aload_n 2, 1) := by decide +kernel
theorem dX4_drop_40 : decode cX4_drop 40 = .ok (.putfield 21, 3) := by decide +kernel
theorem dX4_drop_43 : decode cX4_drop 43 = .ok (.return_, 1) := by decide +kernel
set_option maxRecDepth 20000 in
theorem ggX4_pass_X4_with : GoodIn wsX4_pass wsX4_with := goodIn_r _ [15, 1] (by decide +kernel) (by decide +kernel)
set_option maxRecDepth 20000 in
theorem gX4_pass_X4_with : GoodIn wsX4_pass (va_wsS RX4 45 yX4_with wsX4_with) := goodIn_app (goodIn_of _ (by decide +kernel)) ggX4_pass_X4_with
set_option maxRecDepth 20000 in
theorem ggX4_pass_X4_noise : GoodIn wsX4_pass wsX4_noise := goodIn_r _ [19, 2, 20, 21, 22, 23, 24, 25, 26, 27, 28] (by decide +kernel) (by decide +kernel)
set_option maxRecDepth 20000 in
theorem gX4_pass_X4_noise : GoodIn wsX4_pass (wsV RX4 49 RX4 yX4_noise wsX4_noise) := goodIn_app (goodIn_of _ (by decide +kernel)) ggX4_pass_X4_noise
theorem dX4_pass_0 : decode cX4_pass 0 = .ok (.iconst 0, 1) := by decide +kernel
theorem dX4_pass_1 : decode cX4_pass 1 = .ok (.anewarray 19, 3) := by decide +kernel
theorem dX4_pass_4 : decode cX4_pass 4 = .ok (.astore_n 1, 1) := by decide +kernel
theorem dX4_pass_5 : decode cX4_pass 5 = .ok (.iconst 0, 1) := by decide +kernel
theorem dX4_pass_6 : decode cX4_pass 6 = .ok (.istore_n 2, 1) := by decide +kernel
theorem dX4_pass_7 : decode cX4_pass 7 = .ok (.iload_n 2, 1) := by decide +kernel
theorem dX4_pass_8 : decode cX4_pass 8 = .ok (.aload_n 0, 1) := by decide +kernel
theorem dX4_pass_9 : decode cX4_pass 9 = .ok (.getfield 21, 3) := by decide +kernel
theorem dX4_pass_12 : decode cX4_pass 12 = .ok (.arraylength, 1) := by decide +kernel
theorem dX4_pass_13 : decode cX4_pass 13 = .ok (.if_icmp .ge 90, 3) := by decide +kernel
theorem dX4_pass_16 : decode cX4_pass 16 = .ok (.aload_n 0, 1) := by decide +kernel
theorem dX4_pass_17 : decode cX4_pass 17 = .ok (.getfield 21, 3) := by decide +kernel
theorem dX4_pass_20 : decode cX4_pass 20 = .ok (.iload_n 2, 1) := by decide +kernel
theorem dX4_pass_21 : decode cX4_pass 21 = .ok (.aaload, 1) := by decide +kernel
theorem dX4_pass_22 : decode cX4_pass 22 = .ok (.astore_n 3, 1) := by decide +kernel
theorem dX4_pass_23 : decode cX4_pass 23 = .ok (.iload_n 2, 1) := by decide +kernel
theorem dX4_pass_24 : decode cX4_pass 24 = .ok (.aload_n 0, 1) := by decide +kernel
theorem dX4_pass_25 : decode cX4_pass 25 = .ok (.getfield 13, 3) := by decide +kernel
theorem dX4_pass_28 : decode cX4_pass 28 = .ok (.if_icmp .ge 14, 3) := by decide +kernel
theorem dX4_pass_31 : decode cX4_pass 31 = .ok (.aload_n 3, 1) := by decide +kernel
theorem dX4_pass_32 : decode cX4_pass 32 = .ok (.iconst 0, 1) := by decide +kernel
theorem dX4_pass_33 : decode cX4_pass 33 = .ok (.aload_n 3, 1) := by decide +kernel
theorem dX4_pass_34 : decode cX4_pass 34 = .ok (.iconst 0, 1) := by decide +kernel
theorem dX4_pass_35 : decode cX4_pass 35 = .ok (.iaload, 1) := by decide +kernel
theorem dX4_pass_36 : decode cX4_pass 36 = .ok (.aload_n 0, 1) := by decide +kernel
theorem dX4_pass_37 : decode cX4_pass 37 = .ok (.getfield 7, 3) := by decide +kernel
theorem dX4_pass_40 : decode cX4_pass 40 = .ok (.idiv, 1) := by decide +kernel
theorem dX4_pass_41 : decode cX4_pass 41 = .ok (.iastore, 1) := by decide +kernel
theorem dX4_pass_42 : decode cX4_pass 42 = .ok (.aload_n 3, 1) := by decide +kernel
theorem dX4_pass_43 : decode cX4_pass 43 = .ok (.iconst 0, 1) := by decide +kernel
theorem dX4_pass_44 : decode cX4_pass 44 = .ok (.iaload, 1) := by decide +kernel
theorem dX4_pass_45 : decode cX4_pass 45 = .ok (.iconst 2, 1) := by decide +kernel
theorem dX4_pass_46 : decode cX4_pass 46 = .ok (.if_icmp .ge 16, 3) := by decide +kernel
theorem dX4_pass_49 : decode cX4_pass 49 = .ok (.aload_n 0, 1) := by decide +kernel
theorem dX4_pass_50 : decode cX4_pass 50 = .ok (.dup, 1) := by decide +kernel
theorem dX4_pass_51 : decode cX4_pass 51 = .ok (.getfield 32, 3) := by decide +kernel
theorem dX4_pass_54 : decode cX4_pass 54 = .ok (.iconst 1, 1) := by decide +kernel
theorem dX4_pass_55 : decode cX4_pass 55 = .ok (.iadd, 1) := by decide +kernel
theorem dX4_pass_56 : decode cX4_pass 56 = .ok (.putfield 32, 3) := by decide +kernel
theorem dX4_pass_59 : decode cX4_pass 59 = .ok (.goto 38, 3) := by decide +kernel
theorem dX4_pass_62 : decode cX4_pass 62 = .ok (.aload_n 3, 1) := by decide +kernel
theorem dX4_pass_63 : decode cX4_pass 63 = .ok (.iconst 1, 1) := by decide +kernel
theorem dX4_pass_64 : decode cX4_pass 64 = .ok (.iaload, 1) := by decide +kernel
theorem dX4_pass_65 : decode cX4_pass 65 = .ok (.ifCond .ne 26, 3) := by decide +kernel
theorem dX4_pass_68 : decode cX4_pass 68 = .ok (.aload_n 3, 1) := by decide +kernel
theorem dX4_pass_69 : decode cX4_pass 69 = .ok (.iconst 0, 1) := by decide +kernel
theorem dX4_pass_70 : decode cX4_pass 70 = .ok (.iaload, 1) := by decide +kernel
theorem dX4_pass_71 : decode cX4_pass 71 = .ok (.aload_n 0, 1) := by decide +kernel
theorem dX4_pass_72 : decode cX4_pass 72 = .ok (.getfield 16, 3) := by decide +kernel
theorem dX4_pass_75 : decode cX4_pass 75 = .ok (.if_icmp .ge 16, 3) := by decide +kernel
theorem dX4_pass_78 : decode cX4_pass 78 = .ok (.aload_n 0, 1) := by decide +kernel
theorem dX4_pass_79 : decode cX4_pass 79 = .ok (.dup, 1) := by decide +kernel
theorem dX4_pass_80 : decode cX4_pass 80 = .ok (.getfield 38, 3) := by decide +kernel
theorem dX4_pass_83 : decode cX4_pass 83 = .ok (.iconst 1, 1) := by decide +kernel
theorem dX4_pass_84 : decode cX4_pass 84 = .ok (.iadd, 1) := by decide +kernel
theorem dX4_pass_85 : decode cX4_pass 85 = .ok (.putfield 38, 3) := by decide +kernel
theorem dX4_pass_88 : decode cX4_pass 88 = .ok (.goto 9, 3) := by decide +kernel
theorem dX4_pass_91 : decode cX4_pass 91 = .ok (.aload_n 1, 1) := by decide +kernel
theorem dX4_pass_92 : decode cX4_pass 92 = .ok (.aload_n 3, 1) := by decide +kernel
theorem dX4_pass_93 : decode cX4_pass 93 = .ok (.invokestatic 45, 3) := by decide +kernel
theorem dX4_pass_96 : decode cX4_pass 96 = .ok (.astore_n 1, 1) := by decide +kernel
theorem dX4_pass_97 : decode cX4_pass 97 = .ok (.iinc 2 1, 3) := by decide +kernel
theorem dX4_pass_100 : decode cX4_pass 100 = .ok (.goto (-93), 3) := by decide +kernel
theorem dX4_pass_103 : decode cX4_pass 103 = .ok (.aload_n 0, 1) := by decide +kernel
theorem dX4_pass_104 : decode cX4_pass 104 = .ok (.aload_n 1, 1) := by decide +kernel
theorem dX4_pass_105 : decode cX4_pass 105 = .ok (.putfield 21, 3) := by decide +kernel
theorem dX4_pass_108 : decode cX4_pass 108 = .ok (.aload_n 0, 1) := by decide +kernel
theorem dX4_pass_109 : decode cX4_pass 109 = .ok (.getfield 32, 3) := by decide +kernel
theorem dX4_pass_112 : decode cX4_pass 112 = .ok (.iconst 5, 1) := by decide +kernel
theorem dX4_pass_113 : decode cX4_pass 113 = .ok (.if_icmp .le 27, 3) := by decide +kernel
theorem dX4_pass_116 : decode cX4_pass 116 = .ok (.aload_n 0, 1) := by decide +kernel
theorem dX4_pass_117 : decode cX4_pass 117 = .ok (.dup, 1) := by decide +kernel
theorem dX4_pass_118 : decode cX4_pass 118 = .ok (.getfield 32, 3) := by decide +kernel
theorem dX4_pass_121 : decode cX4_pass 121 = .ok (.bipush 6, 2) := by decide +kernel
theorem dX4_pass_123 : decode cX4_pass 123 = .ok (.isub, 1) := by decide +kernel
theorem dX4_pass_124 : decode cX4_pass 124 = .ok (.putfield 32, 3) := by decide +kernel
theorem dX4_pass_127 : decode cX4_pass 127 = .ok (.aload_n 0, 1) := by decide +kernel
theorem dX4_pass_128 : decode cX4_pass 128 = .ok (.dup, 1) := by decide +kernel
theorem dX4_pass_129 : decode cX4_pass 129 = .ok (.getfield 35, 3) := by decide +kernel
theorem dX4_pass_132 : decode cX4_pass 132 = .ok (.iconst 1, 1) := by decide +kernel
theorem dX4_pass_133 : decode cX4_pass 133 = .ok (.iadd, 1) := by decide +kernel
theorem dX4_pass_134 : decode cX4_pass 134 = .ok (.putfield 35, 3) := by decide +kernel
theorem dX4_pass_137 : decode cX4_pass 137 = .ok (.goto (-29), 3) := by decide +kernel
theorem dX4_pass_140 : decode cX4_pass 140 = .ok (.aload_n 0, 1) := by decide +kernel
theorem dX4_pass_141 : decode cX4_pass 141 = .ok (.invokevirtual 49, 3) := by decide +kernel
theorem dX4_pass_144 : decode cX4_pass 144 = .ok (.istore_n 2, 1) := by decide +kernel
theorem dX4_pass_145 : decode cX4_pass 145 = .ok (.iconst 0, 1) := by decide +kernel
theorem dX4_pass_146 : decode cX4_pass 146 = .ok (.istore_n 3, 1) := by decide +kernel
theorem dX4_pass_147 : decode cX4_pass 147 = .ok (.aload_n 0, 1) := by decide +kernel
theorem dX4_pass_148 : decode cX4_pass 148 = .ok (.getfield 25, 3) := by decide +kernel
theorem dX4_pass_151 : decode cX4_pass 151 = .ok (.astore 4, 2) := by decide +kernel
theorem dX4_pass_153 : decode cX4_pass 153 = .ok (.aload 4, 2) := by decide +kernel
theorem dX4_pass_155 : decode cX4_pass 155 = .ok (.arraylength, 1) := by decide +kernel
theorem dX4_pass_156 : decode cX4_pass 156 = .ok (.istore 5, 2) := by decide +kernel
theorem dX4_pass_158 : decode cX4_pass 158 = .ok (.iconst 0, 1) := by decide +kernel
theorem dX4_pass_159 : decode cX4_pass 159 = .ok (.istore 6, 2) := by decide +kernel
theorem dX4_pass_161 : decode cX4_pass 161 = .ok (.iload 6, 2) := by decide +kernel
theorem dX4_pass_163 : decode cX4_pass 163 = .ok (.iload 5, 2) := by decide +kernel
theorem dX4_pass_165 : decode cX4_pass 165 = .ok (.if_icmp .ge 93, 3) := by decide +kernel
theorem dX4_pass_168 : decode cX4_pass 168 = .ok (.aload 4, 2) := by decide +kernel
theorem dX4_pass_170 : decode cX4_pass 170 = .ok (.iload 6, 2) := by decide +kernel
theorem dX4_pass_172 : decode cX4_pass 172 = .ok (.aaload, 1) := by decide +kernel
theorem dX4_pass_173 : decode cX4_pass 173 = .ok (.astore 7, 2) := by decide +kernel
theorem dX4_pass_175 : decode cX4_pass 175 = .ok (.aload 7, 2) := by decide +kernel
theorem dX4_pass_177 : decode cX4_pass 177 = .ok (.iconst 1, 1) := by decide +kernel
theorem dX4_pass_178 : decode cX4_pass 178 = .ok (.iaload, 1) := by decide +kernel
theorem dX4_pass_179 : decode cX4_pass 179 = .ok (.ifCond .lt 6, 3) := by decide +kernel
theorem dX4_pass_182 : decode cX4_pass 182 = .ok (.goto 70, 3) := by decide +kernel
theorem dX4_pass_185 : decode cX4_pass 185 = .ok (.iload_n 2, 1) := by decide +kernel
theorem dX4_pass_186 : decode cX4_pass 186 = .ok (.ifCond .ne 27, 3) := by decide +kernel
theorem dX4_pass_189 : decode cX4_pass 189 = .ok (.aload 7, 2) := by decide +kernel
theorem dX4_pass_191 : decode cX4_pass 191 = .ok (.iconst 0, 1) := by decide +kernel
theorem dX4_pass_192 : decode cX4_pass 192 = .ok (.dup2, 1) := by decide +kernel
theorem dX4_pass_193 : decode cX4_pass 193 = .ok (.iaload, 1) := by decide +kernel
theorem dX4_pass_194 : decode cX4_pass 194 = .ok (.aload 7, 2) := by decide +kernel
theorem dX4_pass_196 : decode cX4_pass 196 = .ok (.iconst 0, 1) := by decide +kernel
theorem dX4_pass_197 : decode cX4_pass 197 = .ok (.iaload, 1) := by decide +kernel
theorem dX4_pass_198 : decode cX4_pass 198 = .ok (.bipush 30, 2) := by decide +kernel
theorem dX4_pass_200 : decode cX4_pass 200 = .ok (.if_icmp .ge 7, 3) := by decide +kernel
theorem dX4_pass_203 : decode cX4_pass 203 = .ok (.iconst 1, 1) := by decide +kernel
theorem dX4_pass_204 : decode cX4_pass 204 = .ok (.goto 4, 3) := by decide +kernel
theorem dX4_pass_207 : decode cX4_pass 207 = .ok (.iconst 0, 1) := by decide +kernel
theorem dX4_pass_208 : decode cX4_pass 208 = .ok (.iadd, 1) := by decide +kernel
theorem dX4_pass_209 : decode cX4_pass 209 = .ok (.iastore, 1) := by decide +kernel
theorem dX4_pass_210 : decode cX4_pass 210 = .ok (.goto 16, 3) := by decide +kernel
theorem dX4_pass_213 : decode cX4_pass 213 = .ok (.aload 7, 2) := by decide +kernel
theorem dX4_pass_215 : decode cX4_pass 215 = .ok (.iconst 0, 1) := by decide +kernel
theorem dX4_pass_216 : decode cX4_pass 216 = .ok (.dup2, 1) := by decide +kernel
theorem dX4_pass_217 : decode cX4_pass 217 = .ok (.iaload, 1) := by decide +kernel
theorem dX4_pass_218 : decode cX4_pass 218 = .ok (.iconst 1, 1) := by decide +kernel
theorem dX4_pass_219 : decode cX4_pass 219 = .ok (.iload_n 2, 1) := by decide +kernel
theorem dX4_pass_220 : decode cX4_pass 220 = .ok (.bipush 20, 2) := by decide +kernel
theorem dX4_pass_222 : decode cX4_pass 222 = .ok (.idiv, 1) := by decide +kernel
theorem dX4_pass_223 : decode cX4_pass 223 = .ok (.iadd, 1) := by decide +kernel
theorem dX4_pass_224 : decode cX4_pass 224 = .ok (.isub, 1) := by decide +kernel
theorem dX4_pass_225 : decode cX4_pass 225 = .ok (.iastore, 1) := by decide +kernel
theorem dX4_pass_226 : decode cX4_pass 226 = .ok (.aload 7, 2) := by decide +kernel
theorem dX4_pass_228 : decode cX4_pass 228 = .ok (.iconst 0, 1) := by decide +kernel
theorem dX4_pass_229 : decode cX4_pass 229 = .ok (.iaload, 1) := by decide +kernel
theorem dX4_pass_230 : decode cX4_pass 230 = .ok (.ifCond .le 6, 3) := by decide +kernel
theorem dX4_pass_233 : decode cX4_pass 233 = .ok (.goto 19, 3) := by decide +kernel
theorem dX4_pass_236 : decode cX4_pass 236 = .ok (.aload 7, 2) := by decide +kernel
theorem dX4_pass_238 : decode cX4_pass 238 = .ok (.iconst 0, 1) := by decide +kernel
theorem dX4_pass_239 : decode cX4_pass 239 = .ok (.iconst 0, 1) := by decide +kernel
theorem dX4_pass_240 : decode cX4_pass 240 = .ok (.iastore, 1) := by decide +kernel
theorem dX4_pass_241 : decode cX4_pass 241 = .ok (.aload 7, 2) := by decide +kernel
theorem dX4_pass_243 : decode cX4_pass 243 = .ok (.iconst 1, 1) := by decide +kernel
theorem dX4_pass_244 : decode cX4_pass 244 = .ok (.aload_n 0, 1) := by decide +kernel
theorem dX4_pass_245 : decode cX4_pass 245 = .ok (.getfield 29, 3) := by decide +kernel
theorem dX4_pass_248 : decode cX4_pass 248 = .ok (.iastore, 1) := by decide +kernel
theorem dX4_pass_249 : decode cX4_pass 249 = .ok (.iinc 3 1, 3) := by decide +kernel
theorem dX4_pass_252 : decode cX4_pass 252 = .ok (.iinc 6 1, 3) := by decide +kernel
theorem dX4_pass_255 : decode cX4_pass 255 = .ok (.goto (-94), 3) := by decide +kernel
theorem dX4_pass_258 : decode cX4_pass 258 = .ok (.aload_n 0, 1) := by decide +kernel
theorem dX4_pass_259 : decode cX4_pass 259 = .ok (.getfield 25, 3) := by decide +kernel
theorem dX4_pass_262 : decode cX4_pass 262 = .ok (.astore 4, 2) := by decide +kernel
theorem dX4_pass_264 : decode cX4_pass 264 = .ok (.aload 4, 2) := by decide +kernel
theorem dX4_pass_266 : decode cX4_pass 266 = .ok (.arraylength, 1) := by decide +kernel
theorem dX4_pass_267 : decode cX4_pass 267 = .ok (.istore 5, 2) := by decide +kernel
theorem dX4_pass_269 : decode cX4_pass 269 = .ok (.iconst 0, 1) := by decide +kernel
theorem dX4_pass_270 : decode cX4_pass 270 = .ok (.istore 6, 2) := by decide +kernel
theorem dX4_pass_272 : decode cX4_pass 272 = .ok (.iload 6, 2) := by decide +kernel
theorem dX4_pass_274 : decode cX4_pass 274 = .ok (.iload 5, 2) := by decide +kernel
theorem dX4_pass_276 : decode cX4_pass 276 = .ok (.if_icmp .ge 73, 3) := by decide +kernel
theorem dX4_pass_279 : decode cX4_pass 279 = .ok (.aload 4, 2) := by decide +kernel
theorem dX4_pass_281 : decode cX4_pass 281 = .ok (.iload 6, 2) := by decide +kernel
theorem dX4_pass_283 : decode cX4_pass 283 = .ok (.aaload, 1) := by decide +kernel
theorem dX4_pass_284 : decode cX4_pass 284 = .ok (.astore 7, 2) := by decide +kernel
theorem dX4_pass_286 : decode cX4_pass 286 = .ok (.aload 7, 2) := by decide +kernel
theorem dX4_pass_288 : decode cX4_pass 288 = .ok (.iconst 1, 1) := by decide +kernel
theorem dX4_pass_289 : decode cX4_pass 289 = .ok (.iaload, 1) := by decide +kernel
theorem dX4_pass_290 : decode cX4_pass 290 = .ok (.ifCond .ge 53, 3) := by decide +kernel
theorem dX4_pass_293 : decode cX4_pass 293 = .ok (.aload_n 0, 1) := by decide +kernel
theorem dX4_pass_294 : decode cX4_pass 294 = .ok (.getfield 29, 3) := by decide +kernel
theorem dX4_pass_297 : decode cX4_pass 297 = .ok (.aload 7, 2) := by decide +kernel
theorem dX4_pass_299 : decode cX4_pass 299 = .ok (.iconst 4, 1) := by decide +kernel
theorem dX4_pass_300 : decode cX4_pass 300 = .ok (.iaload, 1) := by decide +kernel
theorem dX4_pass_301 : decode cX4_pass 301 = .ok (.irem, 1) := by decide +kernel
theorem dX4_pass_302 : decode cX4_pass 302 = .ok (.ifCond .ne 41, 3) := by decide +kernel
theorem dX4_pass_305 : decode cX4_pass 305 = .ok (.aload_n 0, 1) := by decide +kernel
theorem dX4_pass_306 : decode cX4_pass 306 = .ok (.getfield 21, 3) := by decide +kernel
theorem dX4_pass_309 : decode cX4_pass 309 = .ok (.arraylength, 1) := by decide +kernel
theorem dX4_pass_310 : decode cX4_pass 310 = .ok (.bipush 12, 2) := by decide +kernel
theorem dX4_pass_312 : decode cX4_pass 312 = .ok (.if_icmp .ge 31, 3) := by decide +kernel
theorem dX4_pass_315 : decode cX4_pass 315 = .ok (.aload_n 0, 1) := by decide +kernel
theorem dX4_pass_316 : decode cX4_pass 316 = .ok (.aload_n 0, 1) := by decide +kernel
theorem dX4_pass_317 : decode cX4_pass 317 = .ok (.getfield 21, 3) := by decide +kernel
theorem dX4_pass_320 : decode cX4_pass 320 = .ok (.iconst 2, 1) := by decide +kernel
theorem dX4_pass_321 : decode cX4_pass 321 = .ok (.newarray .int, 2) := by decide +kernel
theorem dX4_pass_323 : decode cX4_pass 323 = .ok (.dup, 1) := by decide +kernel
theorem dX4_pass_324 : decode cX4_pass 324 = .ok (.iconst 0, 1) := by decide +kernel
theorem dX4_pass_325 : decode cX4_pass 325 = .ok (.aload 7, 2) := by decide +kernel
theorem dX4_pass_327 : decode cX4_pass 327 = .ok (.iconst 3, 1) := by decide +kernel
theorem dX4_pass_328 : decode cX4_pass 328 = .ok (.iaload, 1) := by decide +kernel
theorem dX4_pass_329 : decode cX4_pass 329 = .ok (.iastore, 1) := by decide +kernel
theorem dX4_pass_330 : decode cX4_pass 330 = .ok (.dup, 1) := by decide +kernel
theorem dX4_pass_331 : decode cX4_pass 331 = .ok (.iconst 1, 1) := by decide +kernel
theorem dX4_pass_332 : decode cX4_pass 332 = .ok (.aload 7, 2) := by decide +kernel
theorem dX4_pass_334 : decode cX4_pass 334 = .ok (.iconst 2, 1) := by decide +kernel
theorem dX4_pass_335 : decode cX4_pass 335 = .ok (.iaload, 1) := by decide +kernel
theorem dX4_pass_336 : decode cX4_pass 336 = .ok (.iastore, 1) := by decide +kernel
theorem dX4_pass_337 : decode cX4_pass 337 = .ok (.invokestatic 45, 3) := by decide +kernel
theorem dX4_pass_340 : decode cX4_pass 340 = .ok (.putfield 21, 3) := by decide +kernel
theorem dX4_pass_343 : decode cX4_pass 343 = .ok (.iinc 6 1, 3) := by decide +kernel
theorem dX4_pass_346 : decode cX4_pass 346 = .ok (.goto (-74), 3) := by decide +kernel
theorem dX4_pass_349 : decode cX4_pass 349 = .ok (.aload_n 0, 1) := by decide +kernel
theorem dX4_pass_350 : decode cX4_pass 350 = .ok (.dup, 1) := by decide +kernel
theorem dX4_pass_351 : decode cX4_pass 351 = .ok (.getfield 29, 3) := by decide +kernel
theorem dX4_pass_354 : decode cX4_pass 354 = .ok (.iconst 1, 1) := by decide +kernel
theorem dX4_pass_355 : decode cX4_pass 355 = .ok (.iadd, 1) := by decide +kernel
theorem dX4_pass_356 : decode cX4_pass 356 = .ok (.putfield 29, 3) := by decide +kernel
theorem dX4_pass_359 : decode cX4_pass 359 = .ok (.iload_n 3, 1) := by decide +kernel
theorem dX4_pass_360 : decode cX4_pass 360 = .ok (.ireturn, 1) := by decide +kernel
set_option maxRecDepth 20000 in
theorem ggX4_pass__X4_pass : GoodIn wsX4_pass_ wsX4_pass := goodIn_r _ [5, 6, 7, 8, 9, 10, 11, 12, 13, 14, 15, 16, 17, 18, 4, 19, 20, 21, 22, 23, 24, 25, 26, 27, 28, 29, 30, 31, 32] (by decide +kernel) (by decide +kernel)
set_option maxRecDepth 20000 in
theorem gX4_pass__X4_pass : GoodIn wsX4_pass_ (wsV RX4 53 RX4 yX4_pass wsX4_pass) := goodIn_app (goodIn_of _ (by decide +kernel)) ggX4_pass__X4_pass
theorem dX4_pass__0 : decode cX4_pass_ 0 = .ok (.iconst 0, 1) := by decide +kernel
theorem dX4_pass__1 : decode cX4_pass_ 1 = .ok (.istore_n 2, 1) := by decide +kernel
theorem dX4_pass__2 : decode cX4_pass_ 2 = .ok (.iconst 0, 1) := by decide +kernel
theorem dX4_pass__3 : decode cX4_pass_ 3 = .ok (.istore_n 3, 1) := by decide +kernel
theorem dX4_pass__4 : decode cX4_pass_ 4 = .ok (.iload_n 3, 1) := by decide +kernel
theorem dX4_pass__5 : decode cX4_pass_ 5 = .ok (.iload_n 1, 1) := by decide +kernel
theorem dX4_pass__6 : decode cX4_pass_ 6 = .ok (.if_icmp .ge 16, 3) := by decide +kernel
theorem dX4_pass__9 : decode cX4_pass_ 9 = .ok (.iload_n 2, 1) := by decide +kernel
theorem dX4_pass__10 : decode cX4_pass_ 10 = .ok (.aload_n 0, 1) := by decide +kernel
theorem dX4_pass__11 : decode cX4_pass_ 11 = .ok (.invokevirtual 53, 3) := by decide +kernel
theorem dX4_pass__14 : decode cX4_pass_ 14 = .ok (.iadd, 1) := by decide +kernel
theorem dX4_pass__15 : decode cX4_pass_ 15 = .ok (.istore_n 2, 1) := by decide +kernel
theorem dX4_pass__16 : decode cX4_pass_ 16 = .ok (.iinc 3 1, 3) := by decide +kernel
theorem dX4_pass__19 : decode cX4_pass_ 19 = .ok (.goto (-15), 3) := by decide +kernel
theorem dX4_pass__22 : decode cX4_pass_ 22 = .ok (.iload_n 2, 1) := by decide +kernel
theorem dX4_pass__23 : decode cX4_pass_ 23 = .ok (.ireturn, 1) := by decide +kernel
set_option maxRecDepth 20000 in
theorem ggX4_behind_X4_copy : GoodIn wsX4_behind wsX4_copy := goodIn_r _ [5, 6, 7, 4, 8, 9, 10, 11, 12, 13, 14, 15, 16, 17, 18, 19, 20, 21, 22, 23, 24, 25, 26, 27, 28, 29, 30, 31, 45, 46, 47, 48, 49, 50, 51, 52, 53] (by decide +kernel) (by decide +kernel)
set_option maxRecDepth 20000 in
theorem gX4_behind_X4_copy : GoodIn wsX4_behind (wsV RX4 56 RX4 yX4_copy wsX4_copy) := goodIn_app (goodIn_of _ (by decide +kernel)) ggX4_behind_X4_copy
set_option maxRecDepth 20000 in
theorem ggX4_behind_X4_pass_ : GoodIn wsX4_behind wsX4_pass_ := goodIn_r _ [35, 36, 37, 38, 4, 39, 21, 15, 13, 12, 9, 14, 11, 10, 22, 8, 40, 29, 30, 31, 41, 42, 43, 44, 45, 46, 47, 48, 49, 50, 51, 52, 53] (by decide +kernel) (by decide +kernel)
set_option maxRecDepth 20000 in
theorem gX4_behind_X4_pass_ : GoodIn wsX4_behind (wsV RX4 60 RX4 yX4_pass_ wsX4_pass_) := goodIn_app (goodIn_of _ (by decide +kernel)) ggX4_behind_X4_pass_
theorem dX4_behind_0 : decode cX4_behind 0 = .ok (.aload_n 0, 1) := by decide +kernel
theorem dX4_behind_1 : decode cX4_behind 1 = .ok (.invokevirtual 56, 3) := by decide +kernel
theorem dX4_behind_4 : decode cX4_behind 4 = .ok (.astore_n 2, 1) := by decide +kernel
theorem dX4_behind_5 : decode cX4_behind 5 = .ok (.aload_n 2, 1) := by decide +kernel
theorem dX4_behind_6 : decode cX4_behind 6 = .ok (.iload_n 1, 1) := by decide +kernel
theorem dX4_behind_7 : decode cX4_behind 7 = .ok (.invokevirtual 60, 3) := by decide +kernel
theorem dX4_behind_10 : decode cX4_behind 10 = .ok (.pop, 1) := by decide +kernel
theorem dX4_behind_11 : decode cX4_behind 11 = .ok (.aload_n 2, 1) := by decide +kernel
theorem dX4_behind_12 : decode cX4_behind 12 = .ok (.areturn, 1) := by decide +kernel
theorem dX4_turns_0 : decode cX4_turns 0 = .ok (.iconst 0, 1) := by decide +kernel
theorem dX4_turns_1 : decode cX4_turns 1 = .ok (.istore_n 2, 1) := by decide +kernel
theorem dX4_turns_2 : decode cX4_turns 2 = .ok (.iload_n 1, 1) := by decide +kernel
theorem dX4_turns_3 : decode cX4_turns 3 = .ok (.istore_n 3, 1) := by decide +kernel
theorem dX4_turns_4 : decode cX4_turns 4 = .ok (.iload_n 3, 1) := by decide +kernel
theorem dX4_turns_5 : decode cX4_turns 5 = .ok (.iconst 1, 1) := by decide +kernel
theorem dX4_turns_6 : decode cX4_turns 6 = .ok (.if_icmp .le 16, 3) := by decide +kernel
theorem dX4_turns_9 : decode cX4_turns 9 = .ok (.iload_n 3, 1) := by decide +kernel
theorem dX4_turns_10 : decode cX4_turns 10 = .ok (.aload_n 0, 1) := by decide +kernel
theorem dX4_turns_11 : decode cX4_turns 11 = .ok (.getfield 7, 3) := by decide +kernel
theorem dX4_turns_14 : decode cX4_turns 14 = .ok (.idiv, 1) := by decide +kernel
theorem dX4_turns_15 : decode cX4_turns 15 = .ok (.istore_n 3, 1) := by decide +kernel
