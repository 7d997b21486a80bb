theorem dX1_hear_9 : decode cX1_hear 9 = .ok (.iadd, 1) := by decide +kernel
theorem dX1_hear_10 : decode cX1_hear 10 = .ok (.ineg, 1) := by decide +kernel
theorem dX1_hear_11 : decode cX1_hear 11 = .ok (.goto 4, 3) := by decide +kernel
theorem dX1_hear_14 : decode cX1_hear 14 = .ok (.iconst 1, 1) := by decide +kernel
theorem dX1_hear_15 : decode cX1_hear 15 = .ok (.istore_n 3, 1) := by decide +kernel
theorem dX1_hear_16 : decode cX1_hear 16 = .ok (.iconst 0, 1) := by decide +kernel
theorem dX1_hear_17 : decode cX1_hear 17 = .ok (.istore 4, 2) := by decide +kernel
theorem dX1_hear_19 : decode cX1_hear 19 = .ok (.iload 4, 2) := by decide +kernel
theorem dX1_hear_21 : decode cX1_hear 21 = .ok (.aload_n 0, 1) := by decide +kernel
theorem dX1_hear_22 : decode cX1_hear 22 = .ok (.getfield 27, 3) := by decide +kernel
theorem dX1_hear_25 : decode cX1_hear 25 = .ok (.if_icmp .ge 63, 3) := by decide +kernel
theorem dX1_hear_28 : decode cX1_hear 28 = .ok (.aload_n 0, 1) := by decide +kernel
theorem dX1_hear_29 : decode cX1_hear 29 = .ok (.getfield 24, 3) := by decide +kernel
theorem dX1_hear_32 : decode cX1_hear 32 = .ok (.iload 4, 2) := by decide +kernel
theorem dX1_hear_34 : decode cX1_hear 34 = .ok (.iaload, 1) := by decide +kernel
theorem dX1_hear_35 : decode cX1_hear 35 = .ok (.iconst (-1), 1) := by decide +kernel
theorem dX1_hear_36 : decode cX1_hear 36 = .ok (.if_icmp .ne 46, 3) := by decide +kernel
theorem dX1_hear_39 : decode cX1_hear 39 = .ok (.aload_n 0, 1) := by decide +kernel
theorem dX1_hear_40 : decode cX1_hear 40 = .ok (.getfield 21, 3) := by decide +kernel
theorem dX1_hear_43 : decode cX1_hear 43 = .ok (.iload 4, 2) := by decide +kernel
theorem dX1_hear_45 : decode cX1_hear 45 = .ok (.iconst 0, 1) := by decide +kernel
theorem dX1_hear_46 : decode cX1_hear 46 = .ok (.bipush 30, 2) := by decide +kernel
theorem dX1_hear_48 : decode cX1_hear 48 = .ok (.aload_n 0, 1) := by decide +kernel
theorem dX1_hear_49 : decode cX1_hear 49 = .ok (.getfield 21, 3) := by decide +kernel
theorem dX1_hear_52 : decode cX1_hear 52 = .ok (.iload 4, 2) := by decide +kernel
theorem dX1_hear_54 : decode cX1_hear 54 = .ok (.iaload, 1) := by decide +kernel
theorem dX1_hear_55 : decode cX1_hear 55 = .ok (.iload_n 3, 1) := by decide +kernel
theorem dX1_hear_56 : decode cX1_hear 56 = .ok (.iadd, 1) := by decide +kernel
theorem dX1_hear_57 : decode cX1_hear 57 = .ok (.invokestatic 39, 3) := by decide +kernel
theorem dX1_hear_60 : decode cX1_hear 60 = .ok (.invokestatic 45, 3) := by decide +kernel
theorem dX1_hear_63 : decode cX1_hear 63 = .ok (.iastore, 1) := by decide +kernel
theorem dX1_hear_64 : decode cX1_hear 64 = .ok (.aload_n 0, 1) := by decide +kernel
theorem dX1_hear_65 : decode cX1_hear 65 = .ok (.getfield 21, 3) := by decide +kernel
theorem dX1_hear_68 : decode cX1_hear 68 = .ok (.iload 4, 2) := by decide +kernel
theorem dX1_hear_70 : decode cX1_hear 70 = .ok (.iaload, 1) := by decide +kernel
theorem dX1_hear_71 : decode cX1_hear 71 = .ok (.ifCond .ne 11, 3) := by decide +kernel
theorem dX1_hear_74 : decode cX1_hear 74 = .ok (.aload_n 0, 1) := by decide +kernel
theorem dX1_hear_75 : decode cX1_hear 75 = .ok (.getfield 24, 3) := by decide +kernel
theorem dX1_hear_78 : decode cX1_hear 78 = .ok (.iload 4, 2) := by decide +kernel
theorem dX1_hear_80 : decode cX1_hear 80 = .ok (.iload_n 2, 1) := by decide +kernel
theorem dX1_hear_81 : decode cX1_hear 81 = .ok (.iastore, 1) := by decide +kernel
theorem dX1_hear_82 : decode cX1_hear 82 = .ok (.iinc 4 1, 3) := by decide +kernel
theorem dX1_hear_85 : decode cX1_hear 85 = .ok (.goto (-66), 3) := by decide +kernel
theorem dX1_hear_88 : decode cX1_hear 88 = .ok (.return_, 1) := by decide +kernel
set_option maxRecDepth 20000 in
theorem ggX1_speak_X3_divides : GoodIn wsX1_speak wsX3_divides := goodIn_r _ [8] (by decide +kernel) (by decide +kernel)
set_option maxRecDepth 20000 in
theorem gX1_speak_X3_divides_n48 : GoodIn wsX1_speak (wsX3_divides) := ggX1_speak_X3_divides
set_option maxRecDepth 20000 in
theorem ggX1_speak_X0_append : GoodIn wsX1_speak wsX0_append := goodIn_r _ [13, 14, 15, 16, 17, 18, 19, 12, 20, 27, 28, 29] (by decide +kernel) (by decide +kernel)
set_option maxRecDepth 20000 in
theorem gX1_speak_X0_append : GoodIn wsX1_speak (wsV RX1 52 RX0 yX0_append wsX0_append) := goodIn_app (goodIn_of _ (by decide +kernel)) ggX1_speak_X0_append
theorem dX1_speak_0 : decode cX1_speak 0 = .ok (.iconst 0, 1) := by decide +kernel
theorem dX1_speak_1 : decode cX1_speak 1 = .ok (.istore_n 3, 1) := by decide +kernel
theorem dX1_speak_2 : decode cX1_speak 2 = .ok (.iload_n 3, 1) := by decide +kernel
theorem dX1_speak_3 : decode cX1_speak 3 = .ok (.aload_n 0, 1) := by decide +kernel
theorem dX1_speak_4 : decode cX1_speak 4 = .ok (.getfield 27, 3) := by decide +kernel
theorem dX1_speak_7 : decode cX1_speak 7 = .ok (.if_icmp .ge 48, 3) := by decide +kernel
theorem dX1_speak_10 : decode cX1_speak 10 = .ok (.aload_n 0, 1) := by decide +kernel
theorem dX1_speak_11 : decode cX1_speak 11 = .ok (.getfield 24, 3) := by decide +kernel
theorem dX1_speak_14 : decode cX1_speak 14 = .ok (.iload_n 3, 1) := by decide +kernel
theorem dX1_speak_15 : decode cX1_speak 15 = .ok (.iaload, 1) := by decide +kernel
theorem dX1_speak_16 : decode cX1_speak 16 = .ok (.iconst (-1), 1) := by decide +kernel
theorem dX1_speak_17 : decode cX1_speak 17 = .ok (.if_icmp .ne 32, 3) := by decide +kernel
theorem dX1_speak_20 : decode cX1_speak 20 = .ok (.aload_n 0, 1) := by decide +kernel
theorem dX1_speak_21 : decode cX1_speak 21 = .ok (.getfield 18, 3) := by decide +kernel
theorem dX1_speak_24 : decode cX1_speak 24 = .ok (.iload_n 3, 1) := by decide +kernel
theorem dX1_speak_25 : decode cX1_speak 25 = .ok (.iaload, 1) := by decide +kernel
theorem dX1_speak_26 : decode cX1_speak 26 = .ok (.iload_n 1, 1) := by decide +kernel
theorem dX1_speak_27 : decode cX1_speak 27 = .ok (.invokestatic 48, 3) := by decide +kernel
theorem dX1_speak_30 : decode cX1_speak 30 = .ok (.ifCond .eq 19, 3) := by decide +kernel
theorem dX1_speak_33 : decode cX1_speak 33 = .ok (.aload_n 2, 1) := by decide +kernel
theorem dX1_speak_34 : decode cX1_speak 34 = .ok (.aload_n 0, 1) := by decide +kernel
theorem dX1_speak_35 : decode cX1_speak 35 = .ok (.getfield 9, 3) := by decide +kernel
theorem dX1_speak_38 : decode cX1_speak 38 = .ok (.iload_n 3, 1) := by decide +kernel
theorem dX1_speak_39 : decode cX1_speak 39 = .ok (.iaload, 1) := by decide +kernel
theorem dX1_speak_40 : decode cX1_speak 40 = .ok (.aload_n 0, 1) := by decide +kernel
theorem dX1_speak_41 : decode cX1_speak 41 = .ok (.getfield 15, 3) := by decide +kernel
theorem dX1_speak_44 : decode cX1_speak 44 = .ok (.iload_n 3, 1) := by decide +kernel
theorem dX1_speak_45 : decode cX1_speak 45 = .ok (.iaload, 1) := by decide +kernel
theorem dX1_speak_46 : decode cX1_speak 46 = .ok (.invokevirtual 52, 3) := by decide +kernel
theorem dX1_speak_49 : decode cX1_speak 49 = .ok (.iinc 3 1, 3) := by decide +kernel
theorem dX1_speak_52 : decode cX1_speak 52 = .ok (.goto (-50), 3) := by decide +kernel
theorem dX1_speak_55 : decode cX1_speak 55 = .ok (.return_, 1) := by decide +kernel
set_option maxRecDepth 20000 in
theorem ggX2_init_X0_init : GoodIn wsX2_init wsX0_init := goodIn_r _ [21, 22, 2, 3, 23, 24, 25, 26, 37, 38, 39] (by decide +kernel) (by decide +kernel)
set_option maxRecDepth 20000 in
theorem gX2_init_X0_init : GoodIn wsX2_init (wsX0_init) := ggX2_init_X0_init
set_option maxRecDepth 20000 in
theorem ggX2_init_X1_init : GoodIn wsX2_init wsX1_init := goodIn_r _ [29, 30, 2, 3, 23, 31, 32, 33, 34, 35, 36, 49, 50, 51, 52, 53, 54] (by decide +kernel) (by decide +kernel)
set_option maxRecDepth 20000 in
theorem gX2_init_X1_init : GoodIn wsX2_init (wsX1_init) := ggX2_init_X1_init
theorem dX2_init_0 : decode cX2_init 0 = .ok (.aload_n 0, 1) := by decide +kernel
theorem dX2_init_1 : decode cX2_init 1 = .ok (.invokespecial 3, 3) := by decide +kernel
theorem dX2_init_4 : decode cX2_init 4 = .ok (.aload_n 0, 1) := by decide +kernel
theorem dX2_init_5 : decode cX2_init 5 = .ok (.new 9, 3) := by decide +kernel
theorem dX2_init_8 : decode cX2_init 8 = .ok (.dup, 1) := by decide +kernel
theorem dX2_init_9 : decode cX2_init 9 = .ok (.invokespecial 11, 3) := by decide +kernel
theorem dX2_init_12 : decode cX2_init 12 = .ok (.putfield 12, 3) := by decide +kernel
theorem dX2_init_15 : decode cX2_init 15 = .ok (.aload_n 0, 1) := by decide +kernel
theorem dX2_init_16 : decode cX2_init 16 = .ok (.new 18, 3) := by decide +kernel
theorem dX2_init_19 : decode cX2_init 19 = .ok (.dup, 1) := by decide +kernel
theorem dX2_init_20 : decode cX2_init 20 = .ok (.invokespecial 20, 3) := by decide +kernel
theorem dX2_init_23 : decode cX2_init 23 = .ok (.putfield 21, 3) := by decide +kernel
theorem dX2_init_26 : decode cX2_init 26 = .ok (.aload_n 0, 1) := by decide +kernel
theorem dX2_init_27 : decode cX2_init 27 = .ok (.iconst 2, 1) := by decide +kernel
theorem dX2_init_28 : decode cX2_init 28 = .ok (.putfield 25, 3) := by decide +kernel
theorem dX2_init_31 : decode cX2_init 31 = .ok (.aload_n 0, 1) := by decide +kernel
theorem dX2_init_32 : decode cX2_init 32 = .ok (.iconst 1, 1) := by decide +kernel
theorem dX2_init_33 : decode cX2_init 33 = .ok (.putfield 29, 3) := by decide +kernel
theorem dX2_init_36 : decode cX2_init 36 = .ok (.aload_n 0, 1) := by decide +kernel
theorem dX2_init_37 : decode cX2_init 37 = .ok (.iconst 3, 1) := by decide +kernel
theorem dX2_init_38 : decode cX2_init 38 = .ok (.putfield 32, 3) := by decide +kernel
theorem dX2_init_41 : decode cX2_init 41 = .ok (.aload_n 0, 1) := by decide +kernel
theorem dX2_init_42 : decode cX2_init 42 = .ok (.iconst 0, 1) := by decide +kernel
theorem dX2_init_43 : decode cX2_init 43 = .ok (.putfield 35, 3) := by decide +kernel
theorem dX2_init_46 : decode cX2_init 46 = .ok (.aload_n 0, 1) := by decide +kernel
theorem dX2_init_47 : decode cX2_init 47 = .ok (.iconst 0, 1) := by decide +kernel
theorem dX2_init_48 : decode cX2_init 48 = .ok (.putfield 38, 3) := by decide +kernel
theorem dX2_init_51 : decode cX2_init 51 = .ok (.aload_n 0, 1) := by decide +kernel
theorem dX2_init_52 : decode cX2_init 52 = .ok (.iconst 0, 1) := by decide +kernel
theorem dX2_init_53 : decode cX2_init 53 = .ok (.putfield 41, 3) := by decide +kernel
theorem dX2_init_56 : decode cX2_init 56 = .ok (.aload_n 0, 1) := by decide +kernel
theorem dX2_init_57 : decode cX2_init 57 = .ok (.iconst 0, 1) := by decide +kernel
theorem dX2_init_58 : decode cX2_init 58 = .ok (.putfield 44, 3) := by decide +kernel
theorem dX2_init_61 : decode cX2_init 61 = .ok (.return_, 1) := by decide +kernel
set_option maxRecDepth 20000 in
theorem ggX2_copyFrom_X0_copyFrom : GoodIn wsX2_copyFrom wsX0_copyFrom := goodIn_r _ [14, 15, 16, 17, 38, 39, 40] (by decide +kernel) (by decide +kernel)
set_option maxRecDepth 20000 in
theorem gX2_copyFrom_X0_copyFrom : GoodIn wsX2_copyFrom (wsV RX2 47 RX0 yX0_copyFrom wsX0_copyFrom) := goodIn_app (goodIn_of _ (by decide +kernel)) ggX2_copyFrom_X0_copyFrom
set_option maxRecDepth 20000 in
theorem ggX2_copyFrom_X1_copyFrom : GoodIn wsX2_copyFrom wsX1_copyFrom := goodIn_r _ [22, 23, 24, 25, 26, 27, 28, 41, 42, 43, 44, 45, 46] (by decide +kernel) (by decide +kernel)
set_option maxRecDepth 20000 in
theorem gX2_copyFrom_X1_copyFrom : GoodIn wsX2_copyFrom (wsV RX2 51 RX1 yX1_copyFrom wsX1_copyFrom) := goodIn_app (goodIn_of _ (by decide +kernel)) ggX2_copyFrom_X1_copyFrom
theorem dX2_copyFrom_0 : decode cX2_copyFrom 0 = .ok (.aload_n 0, 1) := by decide +kernel
theorem dX2_copyFrom_1 : decode cX2_copyFrom 1 = .ok (.getfield 12, 3) := by decide +kernel
theorem dX2_copyFrom_4 : decode cX2_copyFrom 4 = .ok (.aload_n 1, 1) := by decide +kernel
theorem dX2_copyFrom_5 : decode cX2_copyFrom 5 = .ok (.getfield 12, 3) := by decide +kernel
theorem dX2_copyFrom_8 : decode cX2_copyFrom 8 = .ok (.invokevirtual 47, 3) := by decide +kernel
theorem dX2_copyFrom_11 : decode cX2_copyFrom 11 = .ok (.aload_n 0, 1) := by decide +kernel
theorem dX2_copyFrom_12 : decode cX2_copyFrom 12 = .ok (.getfield 21, 3) := by decide +kernel
theorem dX2_copyFrom_15 : decode cX2_copyFrom 15 = .ok (.aload_n 1, 1) := by decide +kernel
theorem dX2_copyFrom_16 : decode cX2_copyFrom 16 = .ok (.getfield 21, 3) := by decide +kernel
theorem dX2_copyFrom_19 : decode cX2_copyFrom 19 = .ok (.invokevirtual 51, 3) := by decide +kernel
theorem dX2_copyFrom_22 : decode cX2_copyFrom 22 = .ok (.aload_n 0, 1) := by decide +kernel
theorem dX2_copyFrom_23 : decode cX2_copyFrom 23 = .ok (.aload_n 1, 1) := by decide +kernel
theorem dX2_copyFrom_24 : decode cX2_copyFrom 24 = .ok (.getfield 25, 3) := by decide +kernel
theorem dX2_copyFrom_27 : decode cX2_copyFrom 27 = .ok (.putfield 25, 3) := by decide +kernel
theorem dX2_copyFrom_30 : decode cX2_copyFrom 30 = .ok (.aload_n 0, 1) := by decide +kernel
theorem dX2_copyFrom_31 : decode cX2_copyFrom 31 = .ok (.aload_n 1, 1) := by decide +kernel
theorem dX2_copyFrom_32 : decode cX2_copyFrom 32 = .ok (.getfield 29, 3) := by decide +kernel
theorem dX2_copyFrom_35 : decode cX2_copyFrom 35 = .ok (.putfield 29, 3) := by decide +kernel
theorem dX2_copyFrom_38 : decode cX2_copyFrom 38 = .ok (.aload_n 0, 1) := by decide +kernel
theorem dX2_copyFrom_39 : decode cX2_copyFrom 39 = .ok (.aload_n 1, 1) := by decide +kernel
theorem dX2_copyFrom_40 : decode cX2_copyFrom 40 = .ok (.getfield 32, 3) := by decide +kernel
theorem dX2_copyFrom_43 : decode cX2_copyFrom 43 = .ok (.putfield 32, 3) := by decide +kernel
theorem dX2_copyFrom_46 : decode cX2_copyFrom 46 = .ok (.aload_n 0, 1) := by decide +kernel
theorem dX2_copyFrom_47 : decode cX2_copyFrom 47 = .ok (.aload_n 1, 1) := by decide +kernel
theorem dX2_copyFrom_48 : decode cX2_copyFrom 48 = .ok (.getfield 35, 3) := by decide +kernel
theorem dX2_copyFrom_51 : decode cX2_copyFrom 51 = .ok (.putfield 35, 3) := by decide +kernel
theorem dX2_copyFrom_54 : decode cX2_copyFrom 54 = .ok (.aload_n 0, 1) := by decide +kernel
theorem dX2_copyFrom_55 : decode cX2_copyFrom 55 = .ok (.aload_n 1, 1) := by decide +kernel
theorem dX2_copyFrom_56 : decode cX2_copyFrom 56 = .ok (.getfield 38, 3) := by decide +kernel
theorem dX2_copyFrom_59 : decode cX2_copyFrom 59 = .ok (.putfield 38, 3) := by decide +kernel
theorem dX2_copyFrom_62 : decode cX2_copyFrom 62 = .ok (.aload_n 0, 1) := by decide +kernel
theorem dX2_copyFrom_63 : decode cX2_copyFrom 63 = .ok (.aload_n 1, 1) := by decide +kernel
theorem dX2_copyFrom_64 : decode cX2_copyFrom 64 = .ok (.getfield 41, 3) := by decide +kernel
theorem dX2_copyFrom_67 : decode cX2_copyFrom 67 = .ok (.putfield 41, 3) := by decide +kernel
theorem dX2_copyFrom_70 : decode cX2_copyFrom 70 = .ok (.aload_n 0, 1) := by decide +kernel
theorem dX2_copyFrom_71 : decode cX2_copyFrom 71 = .ok (.aload_n 1, 1) := by decide +kernel
theorem dX2_copyFrom_72 : decode cX2_copyFrom 72 = .ok (.getfield 44, 3) := by decide +kernel
theorem dX2_copyFrom_75 : decode cX2_copyFrom 75 = .ok (.putfield 44, 3) := by decide +kernel
theorem dX2_copyFrom_78 : decode cX2_copyFrom 78 = .ok (.return_, 1) := by decide +kernel
set_option maxRecDepth 20000 in
theorem ggX2_letMinutesGo_X2_letMinuteGo : GoodIn wsX2_letMinutesGo wsX2_letMinuteGo := goodIn_r _ [5, 6, 7, 8, 9, 10, 11, 12, 13, 14, 15, 16, 17, 18, 19, 20, 21, 22, 23, 24, 25, 26, 27, 28, 29, 30, 31, 32, 33, 34, 35, 36, 37, 38, 39, 40, 41, 42, 43, 44, 45, 46, 47, 48, 49, 50, 51, 52, 53, 54, 55, 56, 57, 58, 59, 60, 61, 62, 63, 64, 65, 66, 67, 68, 69, 70, 71, 72, 73, 74, 75, 76, 77, 78, 79, 80, 81, 82, 83] (by decide +kernel) (by decide +kernel)
set_option maxRecDepth 20000 in
theorem gX2_letMinutesGo_X2_letMinuteGo : GoodIn wsX2_letMinutesGo (wsV RX2 54 RX2 yX2_letMinuteGo wsX2_letMinuteGo) := goodIn_app (goodIn_of _ (by decide +kernel)) ggX2_letMinutesGo_X2_letMinuteGo
theorem dX2_letMinutesGo_0 : decode cX2_letMinutesGo 0 = .ok (.iconst 0, 1) := by decide +kernel
theorem dX2_letMinutesGo_1 : decode cX2_letMinutesGo 1 = .ok (.istore_n 2, 1) := by decide +kernel
theorem dX2_letMinutesGo_2 : decode cX2_letMinutesGo 2 = .ok (.iload_n 2, 1) := by decide +kernel
theorem dX2_letMinutesGo_3 : decode cX2_letMinutesGo 3 = .ok (.iload_n 1, 1) := by decide +kernel
theorem dX2_letMinutesGo_4 : decode cX2_letMinutesGo 4 = .ok (.if_icmp .ge 13, 3) := by decide +kernel
theorem dX2_letMinutesGo_7 : decode cX2_letMinutesGo 7 = .ok (.aload_n 0, 1) := by decide +kernel
theorem dX2_letMinutesGo_8 : decode cX2_letMinutesGo 8 = .ok (.invokevirtual 54, 3) := by decide +kernel
theorem dX2_letMinutesGo_11 : decode cX2_letMinutesGo 11 = .ok (.iinc 2 1, 3) := by decide +kernel
theorem dX2_letMinutesGo_14 : decode cX2_letMinutesGo 14 = .ok (.goto (-12), 3) := by decide +kernel
theorem dX2_letMinutesGo_17 : decode cX2_letMinutesGo 17 = .ok (.return_, 1) := by decide +kernel
set_option maxRecDepth 20000 in
theorem ggX2_letMinuteGo_X0_grind : GoodIn wsX2_letMinuteGo wsX0_grind := goodIn_r _ [14, 15, 16, 17, 18, 19, 20, 70, 71, 72] (by decide +kernel) (by decide +kernel)
set_option maxRecDepth 20000 in
theorem gX2_letMinuteGo_X0_grind : GoodIn wsX2_letMinuteGo (wsV RX2 57 RX0 yX0_grind wsX0_grind) := goodIn_app (goodIn_of _ (by decide +kernel)) ggX2_letMinuteGo_X0_grind
set_option maxRecDepth 20000 in
theorem ggX2_letMinuteGo_X0_sift : GoodIn wsX2_letMinuteGo wsX0_sift := goodIn_r _ [24, 15, 17, 16, 70, 71, 72] (by decide +kernel) (by decide +kernel)
set_option maxRecDepth 20000 in
theorem gX2_letMinuteGo_X0_sift : GoodIn wsX2_letMinuteGo (wsV RX2 61 RX0 yX0_sift wsX0_sift) := goodIn_app (goodIn_of _ (by decide +kernel)) ggX2_letMinuteGo_X0_sift
set_option maxRecDepth 20000 in
theorem ggX2_letMinuteGo_X0_loudness : GoodIn wsX2_letMinuteGo wsX0_loudness := goodIn_r _ [28, 15, 16, 70, 71, 72] (by decide +kernel) (by decide +kernel)
set_option maxRecDepth 20000 in
theorem gX2_letMinuteGo_X0_loudness : GoodIn wsX2_letMinuteGo (wsV RX2 65 RX0 yX0_loudness wsX0_loudness) := goodIn_app (goodIn_of _ (by decide +kernel)) ggX2_letMinuteGo_X0_loudness
set_option maxRecDepth 20000 in
theorem ggX2_letMinuteGo_X1_hear : GoodIn wsX2_letMinuteGo wsX1_hear := goodIn_r _ [33, 34, 35, 36, 37, 38, 39, 40, 41, 42, 43, 73, 74, 75, 76, 77, 78] (by decide +kernel) (by decide +kernel)
set_option maxRecDepth 20000 in
theorem gX2_letMinuteGo_X1_hear : GoodIn wsX2_letMinuteGo (wsV RX2 69 RX1 yX1_hear wsX1_hear) := goodIn_app (goodIn_of _ (by decide +kernel)) ggX2_letMinuteGo_X1_hear
set_option maxRecDepth 20000 in
theorem ggX2_letMinuteGo_X1_speak : GoodIn wsX2_letMinuteGo wsX1_speak := goodIn_r _ [47, 34, 35, 48, 49, 50, 51, 19, 52, 53, 54, 55, 13, 56, 17, 15, 16, 57, 58, 59, 60, 73, 74, 75, 76, 77, 78, 70, 71, 72] (by decide +kernel) (by decide +kernel)
set_option maxRecDepth 20000 in
theorem gX2_letMinuteGo_X1_speak : GoodIn wsX2_letMinuteGo (wsV RX2 73 RX1 yX1_speak wsX1_speak) := goodIn_app (goodIn_of _ (by decide +kernel)) ggX2_letMinuteGo_X1_speak
theorem dX2_letMinuteGo_0 : decode cX2_letMinuteGo 0 = .ok (.aload_n 0, 1) := by decide +kernel
theorem dX2_letMinuteGo_1 : decode cX2_letMinuteGo 1 = .ok (.dup, 1) := by decide +kernel
theorem dX2_letMinuteGo_2 : decode cX2_letMinuteGo 2 = .ok (.getfield 35, 3) := by decide +kernel
theorem dX2_letMinuteGo_5 : decode cX2_letMinuteGo 5 = .ok (.aload_n 0, 1) := by decide +kernel
theorem dX2_letMinuteGo_6 : decode cX2_letMinuteGo 6 = .ok (.getfield 12, 3) := by decide +kernel
theorem dX2_letMinuteGo_9 : decode cX2_letMinuteGo 9 = .ok (.aload_n 0, 1) := by decide +kernel
theorem dX2_letMinuteGo_10 : decode cX2_letMinuteGo 10 = .ok (.getfield 29, 3) := by decide +kernel
theorem dX2_letMinuteGo_13 : decode cX2_letMinuteGo 13 = .ok (.aload_n 0, 1) := by decide +kernel
theorem dX2_letMinuteGo_14 : decode cX2_letMinuteGo 14 = .ok (.getfield 25, 3) := by decide +kernel
theorem dX2_letMinuteGo_17 : decode cX2_letMinuteGo 17 = .ok (.invokevirtual 57, 3) := by decide +kernel
theorem dX2_letMinuteGo_20 : decode cX2_letMinuteGo 20 = .ok (.iadd, 1) := by decide +kernel
theorem dX2_letMinuteGo_21 : decode cX2_letMinuteGo 21 = .ok (.putfield 35, 3) := by decide +kernel
theorem dX2_letMinuteGo_24 : decode cX2_letMinuteGo 24 = .ok (.aload_n 0, 1) := by decide +kernel
theorem dX2_letMinuteGo_25 : decode cX2_letMinuteGo 25 = .ok (.dup, 1) := by decide +kernel
theorem dX2_letMinuteGo_26 : decode cX2_letMinuteGo 26 = .ok (.getfield 41, 3) := by decide +kernel
theorem dX2_letMinuteGo_29 : decode cX2_letMinuteGo 29 = .ok (.aload_n 0, 1) := by decide +kernel
theorem dX2_letMinuteGo_30 : decode cX2_letMinuteGo 30 = .ok (.getfield 12, 3) := by decide +kernel
theorem dX2_letMinuteGo_33 : decode cX2_letMinuteGo 33 = .ok (.aload_n 0, 1) := by decide +kernel
theorem dX2_letMinuteGo_34 : decode cX2_letMinuteGo 34 = .ok (.getfield 32, 3) := by decide +kernel
theorem dX2_letMinuteGo_37 : decode cX2_letMinuteGo 37 = .ok (.invokevirtual 61, 3) := by decide +kernel
theorem dX2_letMinuteGo_40 : decode cX2_letMinuteGo 40 = .ok (.iadd, 1) := by decide +kernel
theorem dX2_letMinuteGo_41 : decode cX2_letMinuteGo 41 = .ok (.putfield 41, 3) := by decide +kernel
theorem dX2_letMinuteGo_44 : decode cX2_letMinuteGo 44 = .ok (.aload_n 0, 1) := by decide +kernel
theorem dX2_letMinuteGo_45 : decode cX2_letMinuteGo 45 = .ok (.dup, 1) := by decide +kernel
theorem dX2_letMinuteGo_46 : decode cX2_letMinuteGo 46 = .ok (.getfield 38, 3) := by decide +kernel
theorem dX2_letMinuteGo_49 : decode cX2_letMinuteGo 49 = .ok (.aload_n 0, 1) := by decide +kernel
theorem dX2_letMinuteGo_50 : decode cX2_letMinuteGo 50 = .ok (.getfield 35, 3) := by decide +kernel
theorem dX2_letMinuteGo_53 : decode cX2_letMinuteGo 53 = .ok (.bipush 6, 2) := by decide +kernel
theorem dX2_letMinuteGo_55 : decode cX2_letMinuteGo 55 = .ok (.idiv, 1) := by decide +kernel
theorem dX2_letMinuteGo_56 : decode cX2_letMinuteGo 56 = .ok (.iadd, 1) := by decide +kernel
theorem dX2_letMinuteGo_57 : decode cX2_letMinuteGo 57 = .ok (.putfield 38, 3) := by decide +kernel
theorem dX2_letMinuteGo_60 : decode cX2_letMinuteGo 60 = .ok (.aload_n 0, 1) := by decide +kernel
theorem dX2_letMinuteGo_61 : decode cX2_letMinuteGo 61 = .ok (.aload_n 0, 1) := by decide +kernel
theorem dX2_letMinuteGo_62 : decode cX2_letMinuteGo 62 = .ok (.getfield 35, 3) := by decide +kernel
theorem dX2_letMinuteGo_65 : decode cX2_letMinuteGo 65 = .ok (.bipush 6, 2) := by decide +kernel
theorem dX2_letMinuteGo_67 : decode cX2_letMinuteGo 67 = .ok (.irem, 1) := by decide +kernel
theorem dX2_letMinuteGo_68 : decode cX2_letMinuteGo 68 = .ok (.putfield 35, 3) := by decide +kernel
theorem dX2_letMinuteGo_71 : decode cX2_letMinuteGo 71 = .ok (.aload_n 0, 1) := by decide +kernel
theorem dX2_letMinuteGo_72 : decode cX2_letMinuteGo 72 = .ok (.getfield 21, 3) := by decide +kernel
theorem dX2_letMinuteGo_75 : decode cX2_letMinuteGo 75 = .ok (.aload_n 0, 1) := by decide +kernel
theorem dX2_letMinuteGo_76 : decode cX2_letMinuteGo 76 = .ok (.getfield 12, 3) := by decide +kernel
theorem dX2_letMinuteGo_79 : decode cX2_letMinuteGo 79 = .ok (.invokevirtual 65, 3) := by decide +kernel
theorem dX2_letMinuteGo_82 : decode cX2_letMinuteGo 82 = .ok (.aload_n 0, 1) := by decide +kernel
theorem dX2_letMinuteGo_83 : decode cX2_letMinuteGo 83 = .ok (.getfield 44, 3) := by decide +kernel
theorem dX2_letMinuteGo_86 : decode cX2_letMinuteGo 86 = .ok (.invokevirtual 69, 3) := by decide +kernel
theorem dX2_letMinuteGo_89 : decode cX2_letMinuteGo 89 = .ok (.aload_n 0, 1) := by decide +kernel
theorem dX2_letMinuteGo_90 : decode cX2_letMinuteGo 90 = .ok (.getfield 21, 3) := by decide +kernel
theorem dX2_letMinuteGo_93 : decode cX2_letMinuteGo 93 = .ok (.aload_n 0, 1) := by decide +kernel
theorem dX2_letMinuteGo_94 : decode cX2_letMinuteGo 94 = .ok (.getfield 44, 3) := by decide +kernel
theorem dX2_letMinuteGo_97 : decode cX2_letMinuteGo 97 = .ok (.aload_n 0, 1) := by decide +kernel
theorem dX2_letMinuteGo_98 : decode cX2_letMinuteGo 98 = .ok (.getfield 12, 3) := by decide +kernel
theorem dX2_letMinuteGo_101 : decode cX2_letMinuteGo 101 = .ok (.invokevirtual 73, 3) := by decide +kernel
theorem dX2_letMinuteGo_104 : decode cX2_letMinuteGo 104 = .ok (.aload_n 0, 1) := by decide +kernel
theorem dX2_letMinuteGo_105 : decode cX2_letMinuteGo 105 = .ok (.dup, 1) := by decide +kernel
theorem dX2_letMinuteGo_106 : decode cX2_letMinuteGo 106 = .ok (.getfield 44, 3) := by decide +kernel
theorem dX2_letMinuteGo_109 : decode cX2_letMinuteGo 109 = .ok (.iconst 1, 1) := by decide +kernel
theorem dX2_letMinuteGo_110 : decode cX2_letMinuteGo 110 = .ok (.iadd, 1) := by decide +kernel
theorem dX2_letMinuteGo_111 : decode cX2_letMinuteGo 111 = .ok (.putfield 44, 3) := by decide +kernel
theorem dX2_letMinuteGo_114 : decode cX2_letMinuteGo 114 = .ok (.return_, 1) := by decide +kernel
set_option maxRecDepth 20000 in
theorem ggX3_init_X2_init : GoodIn wsX3_init wsX2_init := goodIn_r _ [11, 12, 2, 3, 13, 14, 15, 16, 17, 18, 19, 20, 21, 22, 23, 24, 25, 26, 27, 28, 29, 30, 31, 32, 33, 34, 35, 36, 37, 38, 39, 40, 41, 42, 43, 44, 45, 57, 58, 59, 46, 47, 48, 49, 50, 51, 52, 53, 54, 60, 61, 62, 63, 64, 65] (by decide +kernel) (by decide +kernel)
set_option maxRecDepth 20000 in
theorem gX3_init_X2_init : GoodIn wsX3_init (wsX2_init) := ggX3_init_X2_init
theorem dX3_init_0 : decode cX3_init 0 = .ok (.aload_n 0, 1) := by decide +kernel
theorem dX3_init_1 : decode cX3_init 1 = .ok (.invokespecial 3, 3) := by decide +kernel
theorem dX3_init_4 : decode cX3_init 4 = .ok (.aload_n 0, 1) := by decide +kernel
theorem dX3_init_5 : decode cX3_init 5 = .ok (.new 9, 3) := by decide +kernel
theorem dX3_init_8 : decode cX3_init 8 = .ok (.dup, 1) := by decide +kernel
theorem dX3_init_9 : decode cX3_init 9 = .ok (.invokespecial 11, 3) := by decide +kernel
theorem dX3_init_12 : decode cX3_init 12 = .ok (.putfield 12, 3) := by decide +kernel
theorem dX3_init_15 : decode cX3_init 15 = .ok (.aload_n 0, 1) := by decide +kernel
theorem dX3_init_16 : decode cX3_init 16 = .ok (.new 9, 3) := by decide +kernel
theorem dX3_init_19 : decode cX3_init 19 = .ok (.dup, 1) := by decide +kernel
theorem dX3_init_20 : decode cX3_init 20 = .ok (.invokespecial 11, 3) := by decide +kernel
theorem dX3_init_23 : decode cX3_init 23 = .ok (.putfield 16, 3) := by decide +kernel
theorem dX3_init_26 : decode cX3_init 26 = .ok (.return_, 1) := by decide +kernel
set_option maxRecDepth 20000 in
theorem ggX3_put_X3_requireTopic : GoodIn wsX3_put wsX3_requireTopic := goodIn_ca (goodIn_r _ [9, 10, 11, 12, 13, 8, 14] (by decide +kernel) (by decide +kernel)) (goodIn_sub (fun _ h => List.mem_cons_of_mem _ (List.mem_append_right _ h)) (by decide +kernel))
set_option maxRecDepth 20000 in
theorem gX3_put_X3_requireTopic : GoodIn wsX3_put (va_wsS RX3 19 yX3_requireTopic wsX3_requireTopic) := goodIn_app (goodIn_of _ (by decide +kernel)) ggX3_put_X3_requireTopic
set_option maxRecDepth 20000 in
theorem ggX3_put_X0_isFull : GoodIn wsX3_put wsX0_isFull := goodIn_r _ [19, 20, 39, 40, 41] (by decide +kernel) (by decide +kernel)
set_option maxRecDepth 20000 in
theorem gX3_put_X0_isFull : GoodIn wsX3_put (wsV RX3 27 RX0 yX0_isFull wsX0_isFull) := goodIn_app (goodIn_of _ (by decide +kernel)) ggX3_put_X0_isFull
set_option maxRecDepth 20000 in
theorem ggX3_put_X0_append : GoodIn wsX3_put wsX0_append := goodIn_r _ [24, 25, 20, 26, 27, 16, 17, 18, 19, 39, 40, 41] (by decide +kernel) (by decide +kernel)
set_option maxRecDepth 20000 in
theorem gX3_put_X0_append : GoodIn wsX3_put (wsV RX3 44 RX0 yX0_append wsX0_append) := goodIn_app (goodIn_of _ (by decide +kernel)) ggX3_put_X0_append
theorem dX3_put_0 : decode cX3_put 0 = .ok (.iload_n 1, 1) := by decide +kernel
theorem dX3_put_1 : decode cX3_put 1 = .ok (.iload_n 2, 1) := by decide +kernel
theorem dX3_put_2 : decode cX3_put 2 = .ok (.invokestatic 19, 3) := by decide +kernel
theorem dX3_put_5 : decode cX3_put 5 = .ok (.aload_n 0, 1) := by decide +kernel
theorem dX3_put_6 : decode cX3_put 6 = .ok (.getfield 12, 3) := by decide +kernel
theorem dX3_put_9 : decode cX3_put 9 = .ok (.getfield 23, 3) := by decide +kernel
theorem dX3_put_12 : decode cX3_put 12 = .ok (.invokevirtual 27, 3) := by decide +kernel
theorem dX3_put_15 : decode cX3_put 15 = .ok (.ifCond .eq 13, 3) := by decide +kernel
theorem dX3_put_18 : decode cX3_put 18 = .ok (.new 33, 3) := by decide +kernel
theorem dX3_put_21 : decode cX3_put 21 = .ok (.dup, 1) := by decide +kernel
theorem dX3_put_22 : decode cX3_put 22 = .ok (.ldc 35, 2) := by decide +kernel
theorem dX3_put_24 : decode cX3_put 24 = .ok (.invokespecial 37, 3) := by decide +kernel
theorem dX3_put_27 : decode cX3_put 27 = .ok (.athrow, 1) := by decide +kernel
theorem dX3_put_28 : decode cX3_put 28 = .ok (.aload_n 0, 1) := by decide +kernel
theorem dX3_put_29 : decode cX3_put 29 = .ok (.getfield 12, 3) := by decide +kernel
theorem dX3_put_32 : decode cX3_put 32 = .ok (.getfield 23, 3) := by decide +kernel
theorem dX3_put_35 : decode cX3_put 35 = .ok (.getfield 40, 3) := by decide +kernel
theorem dX3_put_38 : decode cX3_put 38 = .ok (.istore_n 3, 1) := by decide +kernel
theorem dX3_put_39 : decode cX3_put 39 = .ok (.aload_n 0, 1) := by decide +kernel
theorem dX3_put_40 : decode cX3_put 40 = .ok (.getfield 12, 3) := by decide +kernel
theorem dX3_put_43 : decode cX3_put 43 = .ok (.getfield 23, 3) := by decide +kernel
theorem dX3_put_46 : decode cX3_put 46 = .ok (.iload_n 1, 1) := by decide +kernel
theorem dX3_put_47 : decode cX3_put 47 = .ok (.iload_n 2, 1) := by decide +kernel
theorem dX3_put_48 : decode cX3_put 48 = .ok (.invokevirtual 44, 3) := by decide +kernel
theorem dX3_put_51 : decode cX3_put 51 = .ok (.iload_n 3, 1) := by decide +kernel
theorem dX3_put_52 : decode cX3_put 52 = .ok (.ireturn, 1) := by decide +kernel
set_option maxRecDepth 20000 in
theorem ggX3_pushToFront_X3_requirePlace : GoodIn wsX3_pushToFront wsX3_requirePlace := goodIn_ca (goodIn_r _ [8, 9, 10, 1, 2, 11, 12, 13, 14, 15, 16, 24, 25, 26, 27, 28, 29, 30, 31, 32, 33, 34, 35, 36, 37] (by decide +kernel) (by decide +kernel)) (goodIn_sub (fun _ h => List.mem_cons_of_mem _ (List.mem_append_right _ h)) (by decide +kernel))
set_option maxRecDepth 20000 in
theorem gX3_pushToFront_X3_requirePlace : GoodIn wsX3_pushToFront (wsV RX3 47 RX3 yX3_requirePlace wsX3_requirePlace) := goodIn_app (goodIn_of _ (by decide +kernel)) ggX3_pushToFront_X3_requirePlace
set_option maxRecDepth 20000 in
theorem ggX3_pushToFront_X0_moveToFront : GoodIn wsX3_pushToFront wsX0_moveToFront := goodIn_r _ [20, 21, 22, 23, 12, 13, 14, 15, 16, 35, 36, 37] (by decide +kernel) (by decide +kernel)
set_option maxRecDepth 20000 in
theorem gX3_pushToFront_X0_moveToFront : GoodIn wsX3_pushToFront (wsV RX3 55 RX0 yX0_moveToFront wsX0_moveToFront) := goodIn_app (goodIn_of _ (by decide +kernel)) ggX3_pushToFront_X0_moveToFront
theorem dX3_pushToFront_0 : decode cX3_pushToFront 0 = .ok (.aload_n 0, 1) := by decide +kernel
theorem dX3_pushToFront_1 : decode cX3_pushToFront 1 = .ok (.iload_n 1, 1) := by decide +kernel
theorem dX3_pushToFront_2 : decode cX3_pushToFront 2 = .ok (.invokevirtual 47, 3) := by decide +kernel
theorem dX3_pushToFront_5 : decode cX3_pushToFront 5 = .ok (.aload_n 0, 1) := by decide +kernel
theorem dX3_pushToFront_6 : decode cX3_pushToFront 6 = .ok (.getfield 12, 3) := by decide +kernel
theorem dX3_pushToFront_9 : decode cX3_pushToFront 9 = .ok (.getfield 23, 3) := by decide +kernel
theorem dX3_pushToFront_12 : decode cX3_pushToFront 12 = .ok (.getfield 51, 3) := by decide +kernel
theorem dX3_pushToFront_15 : decode cX3_pushToFront 15 = .ok (.iload_n 1, 1) := by decide +kernel
theorem dX3_pushToFront_16 : decode cX3_pushToFront 16 = .ok (.iaload, 1) := by decide +kernel
theorem dX3_pushToFront_17 : decode cX3_pushToFront 17 = .ok (.istore_n 2, 1) := by decide +kernel
theorem dX3_pushToFront_18 : decode cX3_pushToFront 18 = .ok (.aload_n 0, 1) := by decide +kernel
theorem dX3_pushToFront_19 : decode cX3_pushToFront 19 = .ok (.getfield 12, 3) := by decide +kernel
theorem dX3_pushToFront_22 : decode cX3_pushToFront 22 = .ok (.getfield 23, 3) := by decide +kernel
theorem dX3_pushToFront_25 : decode cX3_pushToFront 25 = .ok (.iload_n 1, 1) := by decide +kernel
theorem dX3_pushToFront_26 : decode cX3_pushToFront 26 = .ok (.invokevirtual 55, 3) := by decide +kernel
theorem dX3_pushToFront_29 : decode cX3_pushToFront 29 = .ok (.iload_n 2, 1) := by decide +kernel
theorem dX3_pushToFront_30 : decode cX3_pushToFront 30 = .ok (.ireturn, 1) := by decide +kernel
set_option maxRecDepth 20000 in
theorem ggX3_drop_X3_requirePlace : GoodIn wsX3_drop wsX3_requirePlace := goodIn_ca (goodIn_r _ [8, 9, 10, 1, 2, 11, 12, 13, 14, 15, 16, 24, 25, 26, 27, 28, 29, 30, 31, 32, 33, 34, 35, 36, 37] (by decide +kernel) (by decide +kernel)) (goodIn_sub (fun _ h => List.mem_cons_of_mem _ (List.mem_append_right _ h)) (by decide +kernel))
set_option maxRecDepth 20000 in
theorem gX3_drop_X3_requirePlace : GoodIn wsX3_drop (wsV RX3 47 RX3 yX3_requirePlace wsX3_requirePlace) := goodIn_app (goodIn_of _ (by decide +kernel)) ggX3_drop_X3_requirePlace
set_option maxRecDepth 20000 in
theorem ggX3_drop_X0_takeOff : GoodIn wsX3_drop wsX0_takeOff := goodIn_r _ [20, 16, 21, 22, 23, 12, 13, 14, 15, 35, 36, 37] (by decide +kernel) (by decide +kernel)
set_option maxRecDepth 20000 in
theorem gX3_drop_X0_takeOff : GoodIn wsX3_drop (wsV RX3 58 RX0 yX0_takeOff wsX0_takeOff) := goodIn_app (goodIn_of _ (by decide +kernel)) ggX3_drop_X0_takeOff
theorem dX3_drop_0 : decode cX3_drop 0 = .ok (.aload_n 0, 1) := by decide +kernel
theorem dX3_drop_1 : decode cX3_drop 1 = .ok (.iload_n 1, 1) := by decide +kernel
theorem dX3_drop_2 : decode cX3_drop 2 = .ok (.invokevirtual 47, 3) := by decide +kernel
theorem dX3_drop_5 : decode cX3_drop 5 = .ok (.aload_n 0, 1) := by decide +kernel
theorem dX3_drop_6 : decode cX3_drop 6 = .ok (.getfield 12, 3) := by decide +kernel
theorem dX3_drop_9 : decode cX3_drop 9 = .ok (.getfield 23, 3) := by decide +kernel
theorem dX3_drop_12 : decode cX3_drop 12 = .ok (.iload_n 1, 1) := by decide +kernel
theorem dX3_drop_13 : decode cX3_drop 13 = .ok (.invokevirtual 58, 3) := by decide +kernel
theorem dX3_drop_16 : decode cX3_drop 16 = .ok (.aload_n 0, 1) := by decide +kernel
theorem dX3_drop_17 : decode cX3_drop 17 = .ok (.getfield 12, 3) := by decide +kernel
theorem dX3_drop_20 : decode cX3_drop 20 = .ok (.getfield 23, 3) := by decide +kernel
theorem dX3_drop_23 : decode cX3_drop 23 = .ok (.getfield 40, 3) := by decide +kernel
theorem dX3_drop_26 : decode cX3_drop 26 = .ok (.ireturn, 1) := by decide +kernel
theorem dX3_setGear_0 : decode cX3_setGear 0 = .ok (.iload_n 1, 1) := by decide +kernel
theorem dX3_setGear_1 : decode cX3_setGear 1 = .ok (.iconst 2, 1) := by decide +kernel
theorem dX3_setGear_2 : decode cX3_setGear 2 = .ok (.if_icmp .lt 9, 3) := by decide +kernel
theorem dX3_setGear_5 : decode cX3_setGear 5 = .ok (.iload_n 1, 1) := by decide +kernel
theorem dX3_setGear_6 : decode cX3_setGear 6 = .ok (.bipush 9, 2) := by decide +kernel
theorem dX3_setGear_8 : decode cX3_setGear 8 = .ok (.if_icmp .le 13, 3) := by decide +kernel
theorem dX3_setGear_11 : decode cX3_setGear 11 = .ok (.new 61, 3) := by decide +kernel
theorem dX3_setGear_14 : decode cX3_setGear 14 = .ok (.dup, 1) := by decide +kernel
theorem dX3_setGear_15 : decode cX3_setGear 15 = .ok (.ldc 63, 2) := by decide +kernel
theorem dX3_setGear_17 : decode cX3_setGear 17 = .ok (.invokespecial 65, 3) := by decide +kernel
theorem dX3_setGear_20 : decode cX3_setGear 20 = .ok (.athrow, 1) := by decide +kernel
theorem dX3_setGear_21 : decode cX3_setGear 21 = .ok (.aload_n 0, 1) := by decide +kernel
theorem dX3_setGear_22 : decode cX3_setGear 22 = .ok (.getfield 12, 3) := by decide +kernel
theorem dX3_setGear_25 : decode cX3_setGear 25 = .ok (.getfield 66, 3) := by decide +kernel
theorem dX3_setGear_28 : decode cX3_setGear 28 = .ok (.istore_n 2, 1) := by decide +kernel
theorem dX3_setGear_29 : decode cX3_setGear 29 = .ok (.aload_n 0, 1) := by decide +kernel
theorem dX3_setGear_30 : decode cX3_setGear 30 = .ok (.getfield 12, 3) := by decide +kernel
theorem dX3_setGear_33 : decode cX3_setGear 33 = .ok (.iload_n 1, 1) := by decide +kernel
theorem dX3_setGear_34 : decode cX3_setGear 34 = .ok (.putfield 66, 3) := by decide +kernel
theorem dX3_setGear_37 : decode cX3_setGear 37 = .ok (.iload_n 2, 1) := by decide +kernel
theorem dX3_setGear_38 : decode cX3_setGear 38 = .ok (.ireturn, 1) := by decide +kernel
theorem dX3_setStones_0 : decode cX3_setStones 0 = .ok (.iload_n 1, 1) := by decide +kernel
theorem dX3_setStones_1 : decode cX3_setStones 1 = .ok (.iconst 1, 1) := by decide +kernel
theorem dX3_setStones_2 : decode cX3_setStones 2 = .ok (.if_icmp .lt 8, 3) := by decide +kernel
theorem dX3_setStones_5 : decode cX3_setStones 5 = .ok (.iload_n 1, 1) := by decide +kernel
theorem dX3_setStones_6 : decode cX3_setStones 6 = .ok (.iconst 4, 1) := by decide +kernel
theorem dX3_setStones_7 : decode cX3_setStones 7 = .ok (.if_icmp .le 13, 3) := by decide +kernel
theorem dX3_setStones_10 : decode cX3_setStones 10 = .ok (.new 61, 3) := by decide +kernel
theorem dX3_setStones_13 : decode cX3_setStones 13 = .ok (.dup, 1) := by decide +kernel
theorem dX3_setStones_14 : decode cX3_setStones 14 = .ok (.ldc 69, 2) := by decide +kernel
theorem dX3_setStones_16 : decode cX3_setStones 16 = .ok (.invokespecial 65, 3) := by decide +kernel
theorem dX3_setStones_19 : decode cX3_setStones 19 = .ok (.athrow, 1) := by decide +kernel
theorem dX3_setStones_20 : decode cX3_setStones 20 = .ok (.aload_n 0, 1) := by decide +kernel
theorem dX3_setStones_21 : decode cX3_setStones 21 = .ok (.getfield 12, 3) := by decide +kernel
theorem dX3_setStones_24 : decode cX3_setStones 24 = .ok (.getfield 71, 3) := by decide +kernel
theorem dX3_setStones_27 : decode cX3_setStones 27 = .ok (.istore_n 2, 1) := by decide +kernel
theorem dX3_setStones_28 : decode cX3_setStones 28 = .ok (.aload_n 0, 1) := by decide +kernel
theorem dX3_setStones_29 : decode cX3_setStones 29 = .ok (.getfield 12, 3) := by decide +kernel
theorem dX3_setStones_32 : decode cX3_setStones 32 = .ok (.iload_n 1, 1) := by decide +kernel
theorem dX3_setStones_33 : decode cX3_setStones 33 = .ok (.putfield 71, 3) := by decide +kernel
theorem dX3_setStones_36 : decode cX3_setStones 36 = .ok (.iload_n 2, 1) := by decide +kernel
theorem dX3_setStones_37 : decode cX3_setStones 37 = .ok (.ireturn, 1) := by decide +kernel
theorem dX3_setMesh_0 : decode cX3_setMesh 0 = .ok (.iload_n 1, 1) := by decide +kernel
theorem dX3_setMesh_1 : decode cX3_setMesh 1 = .ok (.ifCond .lt 9, 3) := by decide +kernel
theorem dX3_setMesh_4 : decode cX3_setMesh 4 = .ok (.iload_n 1, 1) := by decide +kernel
theorem dX3_setMesh_5 : decode cX3_setMesh 5 = .ok (.bipush 20, 2) := by decide +kernel
theorem dX3_setMesh_7 : decode cX3_setMesh 7 = .ok (.if_icmp .le 13, 3) := by decide +kernel
theorem dX3_setMesh_10 : decode cX3_setMesh 10 = .ok (.new 61, 3) := by decide +kernel
theorem dX3_setMesh_13 : decode cX3_setMesh 13 = .ok (.dup, 1) := by decide +kernel
theorem dX3_setMesh_14 : decode cX3_setMesh 14 = .ok (.ldc 74, 2) := by decide +kernel
theorem dX3_setMesh_16 : decode cX3_setMesh 16 = .ok (.invokespecial 65, 3) := by decide +kernel
theorem dX3_setMesh_19 : decode cX3_setMesh 19 = .ok (.athrow, 1) := by decide +kernel
theorem dX3_setMesh_20 : decode cX3_setMesh 20 = .ok (.aload_n 0, 1) := by decide +kernel
theorem dX3_setMesh_21 : decode cX3_setMesh 21 = .ok (.getfield 12, 3) := by decide +kernel
theorem dX3_setMesh_24 : decode cX3_setMesh 24 = .ok (.getfield 76, 3) := by decide +kernel
theorem dX3_setMesh_27 : decode cX3_setMesh 27 = .ok (.istore_n 2, 1) := by decide +kernel
theorem dX3_setMesh_28 : decode cX3_setMesh 28 = .ok (.aload_n 0, 1) := by decide +kernel
theorem dX3_setMesh_29 : decode cX3_setMesh 29 = .ok (.getfield 12, 3) := by decide +kernel
theorem dX3_setMesh_32 : decode cX3_setMesh 32 = .ok (.iload_n 1, 1) := by decide +kernel
theorem dX3_setMesh_33 : decode cX3_setMesh 33 = .ok (.putfield 76, 3) := by decide +kernel
theorem dX3_setMesh_36 : decode cX3_setMesh 36 = .ok (.iload_n 2, 1) := by decide +kernel
theorem dX3_setMesh_37 : decode cX3_setMesh 37 = .ok (.ireturn, 1) := by decide +kernel
set_option maxRecDepth 20000 in
theorem ggX3_addTalker_X3_requireTopic : GoodIn wsX3_addTalker wsX3_requireTopic := goodIn_ca (goodIn_r _ [11, 1, 2, 12, 13, 10, 14] (by decide +kernel) (by decide +kernel)) (goodIn_sub (fun _ h => List.mem_cons_of_mem _ (List.mem_append_left _ (List.mem_append_right _ h))) (by decide +kernel))
set_option maxRecDepth 20000 in
theorem gX3_addTalker_X3_requireTopic : GoodIn wsX3_addTalker (va_wsS RX3 19 yX3_requireTopic wsX3_requireTopic) := goodIn_app (goodIn_of _ (by decide +kernel)) ggX3_addTalker_X3_requireTopic
set_option maxRecDepth 20000 in
theorem ggX3_addTalker_X1_isFull : GoodIn wsX3_addTalker wsX1_isFull := goodIn_r _ [19, 20, 42, 43, 44, 45, 46, 47] (by decide +kernel) (by decide +kernel)
set_option maxRecDepth 20000 in
theorem gX3_addTalker_X1_isFull : GoodIn wsX3_addTalker (wsV RX3 85 RX1 yX1_isFull wsX1_isFull) := goodIn_app (goodIn_of _ (by decide +kernel)) ggX3_addTalker_X1_isFull
set_option maxRecDepth 20000 in
theorem ggX3_addTalker_X1_join : GoodIn wsX3_addTalker wsX1_join := goodIn_r _ [24, 25, 20, 26, 27, 28, 29, 30, 16, 17, 18, 19, 42, 43, 44, 45, 46, 47] (by decide +kernel) (by decide +kernel)
set_option maxRecDepth 20000 in
theorem gX3_addTalker_X1_join : GoodIn wsX3_addTalker (wsV RX3 91 RX1 yX1_join wsX1_join) := goodIn_app (goodIn_of _ (by decide +kernel)) ggX3_addTalker_X1_join
theorem dX3_addTalker_0 : decode cX3_addTalker 0 = .ok (.iload_n 1, 1) := by decide +kernel
theorem dX3_addTalker_1 : decode cX3_addTalker 1 = .ok (.iload_n 2, 1) := by decide +kernel
theorem dX3_addTalker_2 : decode cX3_addTalker 2 = .ok (.invokestatic 19, 3) := by decide +kernel
theorem dX3_addTalker_5 : decode cX3_addTalker 5 = .ok (.iload_n 3, 1) := by decide +kernel
theorem dX3_addTalker_6 : decode cX3_addTalker 6 = .ok (.iconst 1, 1) := by decide +kernel
theorem dX3_addTalker_7 : decode cX3_addTalker 7 = .ok (.if_icmp .lt 9, 3) := by decide +kernel
theorem dX3_addTalker_10 : decode cX3_addTalker 10 = .ok (.iload_n 3, 1) := by decide +kernel
theorem dX3_addTalker_11 : decode cX3_addTalker 11 = .ok (.bipush 9, 2) := by decide +kernel
theorem dX3_addTalker_13 : decode cX3_addTalker 13 = .ok (.if_icmp .le 13, 3) := by decide +kernel
theorem dX3_addTalker_16 : decode cX3_addTalker 16 = .ok (.new 61, 3) := by decide +kernel
theorem dX3_addTalker_19 : decode cX3_addTalker 19 = .ok (.dup, 1) := by decide +kernel
theorem dX3_addTalker_20 : decode cX3_addTalker 20 = .ok (.ldc 79, 2) := by decide +kernel
theorem dX3_addTalker_22 : decode cX3_addTalker 22 = .ok (.invokespecial 65, 3) := by decide +kernel
theorem dX3_addTalker_25 : decode cX3_addTalker 25 = .ok (.athrow, 1) := by decide +kernel
theorem dX3_addTalker_26 : decode cX3_addTalker 26 = .ok (.aload_n 0, 1) := by decide +kernel
theorem dX3_addTalker_27 : decode cX3_addTalker 27 = .ok (.getfield 12, 3) := by decide +kernel
theorem dX3_addTalker_30 : decode cX3_addTalker 30 = .ok (.getfield 81, 3) := by decide +kernel
theorem dX3_addTalker_33 : decode cX3_addTalker 33 = .ok (.invokevirtual 85, 3) := by decide +kernel
theorem dX3_addTalker_36 : decode cX3_addTalker 36 = .ok (.ifCond .eq 13, 3) := by decide +kernel
theorem dX3_addTalker_39 : decode cX3_addTalker 39 = .ok (.new 33, 3) := by decide +kernel
theorem dX3_addTalker_42 : decode cX3_addTalker 42 = .ok (.dup, 1) := by decide +kernel
theorem dX3_addTalker_43 : decode cX3_addTalker 43 = .ok (.ldc 88, 2) := by decide +kernel
theorem dX3_addTalker_45 : decode cX3_addTalker 45 = .ok (.invokespecial 37, 3) := by decide +kernel
theorem dX3_addTalker_48 : decode cX3_addTalker 48 = .ok (.athrow, 1) := by decide +kernel
theorem dX3_addTalker_49 : decode cX3_addTalker 49 = .ok (.aload_n 0, 1) := by decide +kernel
theorem dX3_addTalker_50 : decode cX3_addTalker 50 = .ok (.getfield 12, 3) := by decide +kernel
theorem dX3_addTalker_53 : decode cX3_addTalker 53 = .ok (.getfield 81, 3) := by decide +kernel
theorem dX3_addTalker_56 : decode cX3_addTalker 56 = .ok (.getfield 90, 3) := by decide +kernel
theorem dX3_addTalker_59 : decode cX3_addTalker 59 = .ok (.istore 4, 2) := by decide +kernel
theorem dX3_addTalker_61 : decode cX3_addTalker 61 = .ok (.aload_n 0, 1) := by decide +kernel
theorem dX3_addTalker_62 : decode cX3_addTalker 62 = .ok (.getfield 12, 3) := by decide +kernel
theorem dX3_addTalker_65 : decode cX3_addTalker 65 = .ok (.getfield 81, 3) := by decide +kernel
theorem dX3_addTalker_68 : decode cX3_addTalker 68 = .ok (.iload_n 1, 1) := by decide +kernel
theorem dX3_addTalker_69 : decode cX3_addTalker 69 = .ok (.iload_n 2, 1) := by decide +kernel
theorem dX3_addTalker_70 : decode cX3_addTalker 70 = .ok (.iload_n 3, 1) := by decide +kernel
theorem dX3_addTalker_71 : decode cX3_addTalker 71 = .ok (.invokevirtual 91, 3) := by decide +kernel
theorem dX3_addTalker_74 : decode cX3_addTalker 74 = .ok (.iload 4, 2) := by decide +kernel
theorem dX3_addTalker_76 : decode cX3_addTalker 76 = .ok (.ireturn, 1) := by decide +kernel
set_option maxRecDepth 20000 in
theorem ggX3_pass_X3_requireMinutes : GoodIn wsX3_pass wsX3_requireMinutes := goodIn_ca (goodIn_r _ [6, 7, 8] (by decide +kernel) (by decide +kernel)) (goodIn_sub (fun _ h => List.mem_cons_of_mem _ (List.mem_append_right _ h)) (by decide +kernel))
set_option maxRecDepth 20000 in
theorem gX3_pass_X3_requireMinutes : GoodIn wsX3_pass (va_wsS RX3 95 yX3_requireMinutes wsX3_requireMinutes) := goodIn_app (goodIn_of _ (by decide +kernel)) ggX3_pass_X3_requireMinutes
set_option maxRecDepth 20000 in
theorem ggX3_pass_X1_countPresent : GoodIn wsX3_pass wsX1_countPresent := goodIn_r _ [13, 14, 15, 92, 93, 94, 95, 96, 97] (by decide +kernel) (by decide +kernel)
set_option maxRecDepth 20000 in
theorem gX3_pass_X1_countPresent : GoodIn wsX3_pass (wsV RX3 98 RX1 yX1_countPresent wsX1_countPresent) := goodIn_app (goodIn_of _ (by decide +kernel)) ggX3_pass_X1_countPresent
set_option maxRecDepth 20000 in
theorem ggX3_pass_X2_letMinutesGo : GoodIn wsX3_pass wsX2_letMinutesGo := goodIn_r _ [20, 21, 22, 23, 19, 24, 25, 26, 27, 28, 29, 30, 31, 32, 33, 34, 35, 36, 37, 38, 39, 40, 41, 42, 5, 43, 44, 45, 46, 47, 48, 49, 50, 51, 52, 53, 54, 12, 55, 14, 15, 56, 57, 58, 59, 60, 61, 62, 63, 64, 65, 66, 67, 68, 69, 70, 71, 72, 73, 74, 75, 76, 77, 78, 79, 80, 83, 84, 85, 86, 87, 88, 89, 90, 91, 98, 99, 100, 92, 93, 94, 95, 96, 97] (by decide +kernel) (by decide +kernel)
set_option maxRecDepth 20000 in
theorem gX3_pass_X2_letMinutesGo : GoodIn wsX3_pass (wsV RX3 102 RX2 yX2_letMinutesGo wsX2_letMinutesGo) := goodIn_app (goodIn_of _ (by decide +kernel)) ggX3_pass_X2_letMinutesGo
theorem dX3_pass_0 : decode cX3_pass 0 = .ok (.iload_n 1, 1) := by decide +kernel
theorem dX3_pass_1 : decode cX3_pass 1 = .ok (.invokestatic 95, 3) := by decide +kernel
theorem dX3_pass_4 : decode cX3_pass 4 = .ok (.aload_n 0, 1) := by decide +kernel
theorem dX3_pass_5 : decode cX3_pass 5 = .ok (.getfield 12, 3) := by decide +kernel
theorem dX3_pass_8 : decode cX3_pass 8 = .ok (.getfield 81, 3) := by decide +kernel
theorem dX3_pass_11 : decode cX3_pass 11 = .ok (.invokevirtual 98, 3) := by decide +kernel
theorem dX3_pass_14 : decode cX3_pass 14 = .ok (.istore_n 2, 1) := by decide +kernel
theorem dX3_pass_15 : decode cX3_pass 15 = .ok (.aload_n 0, 1) := by decide +kernel
theorem dX3_pass_16 : decode cX3_pass 16 = .ok (.getfield 12, 3) := by decide +kernel
theorem dX3_pass_19 : decode cX3_pass 19 = .ok (.iload_n 1, 1) := by decide +kernel
theorem dX3_pass_20 : decode cX3_pass 20 = .ok (.invokevirtual 102, 3) := by decide +kernel
theorem dX3_pass_23 : decode cX3_pass 23 = .ok (.iload_n 2, 1) := by decide +kernel
theorem dX3_pass_24 : decode cX3_pass 24 = .ok (.aload_n 0, 1) := by decide +kernel
theorem dX3_pass_25 : decode cX3_pass 25 = .ok (.getfield 12, 3) := by decide +kernel
theorem dX3_pass_28 : decode cX3_pass 28 = .ok (.getfield 81, 3) := by decide +kernel
theorem dX3_pass_31 : decode cX3_pass 31 = .ok (.invokevirtual 98, 3) := by decide +kernel
theorem dX3_pass_34 : decode cX3_pass 34 = .ok (.isub, 1) := by decide +kernel
theorem dX3_pass_35 : decode cX3_pass 35 = .ok (.ireturn, 1) := by decide +kernel
theorem dX3_minute_0 : decode cX3_minute 0 = .ok (.aload_n 0, 1) := by decide +kernel
theorem dX3_minute_1 : decode cX3_minute 1 = .ok (.getfield 12, 3) := by decide +kernel
theorem dX3_minute_4 : decode cX3_minute 4 = .ok (.getfield 105, 3) := by decide +kernel
theorem dX3_minute_7 : decode cX3_minute 7 = .ok (.ireturn, 1) := by decide +kernel
theorem dX3_topics_0 : decode cX3_topics 0 = .ok (.aload_n 0, 1) := by decide +kernel
theorem dX3_topics_1 : decode cX3_topics 1 = .ok (.getfield 12, 3) := by decide +kernel
theorem dX3_topics_4 : decode cX3_topics 4 = .ok (.getfield 23, 3) := by decide +kernel
theorem dX3_topics_7 : decode cX3_topics 7 = .ok (.getfield 40, 3) := by decide +kernel
theorem dX3_topics_10 : decode cX3_topics 10 = .ok (.ireturn, 1) := by decide +kernel
set_option maxRecDepth 20000 in
theorem ggX3_sizeAt_X3_requirePlace : GoodIn wsX3_sizeAt wsX3_requirePlace := goodIn_ca (goodIn_r _ [8, 9, 10, 1, 2, 11, 12, 13, 14, 15, 16, 17, 18, 19, 20, 21, 22, 23, 24, 25, 26, 27, 28, 29, 30] (by decide +kernel) (by decide +kernel)) (goodIn_sub (fun _ h => List.mem_cons_of_mem _ (List.mem_append_right _ h)) (by decide +kernel))
set_option maxRecDepth 20000 in
theorem gX3_sizeAt_X3_requirePlace : GoodIn wsX3_sizeAt (wsV RX3 47 RX3 yX3_requirePlace wsX3_requirePlace) := goodIn_app (goodIn_of _ (by decide +kernel)) ggX3_sizeAt_X3_requirePlace
theorem dX3_sizeAt_0 : decode cX3_sizeAt 0 = .ok (.aload_n 0, 1) := by decide +kernel
theorem dX3_sizeAt_1 : decode cX3_sizeAt 1 = .ok (.iload_n 1, 1) := by decide +kernel
theorem dX3_sizeAt_2 : decode cX3_sizeAt 2 = .ok (.invokevirtual 47, 3) := by decide +kernel
theorem dX3_sizeAt_5 : decode cX3_sizeAt 5 = .ok (.aload_n 0, 1) := by decide +kernel
theorem dX3_sizeAt_6 : decode cX3_sizeAt 6 = .ok (.getfield 12, 3) := by decide +kernel
theorem dX3_sizeAt_9 : decode cX3_sizeAt 9 = .ok (.getfield 23, 3) := by decide +kernel
theorem dX3_sizeAt_12 : decode cX3_sizeAt 12 = .ok (.getfield 51, 3) := by decide +kernel
theorem dX3_sizeAt_15 : decode cX3_sizeAt 15 = .ok (.iload_n 1, 1) := by decide +kernel
theorem dX3_sizeAt_16 : decode cX3_sizeAt 16 = .ok (.iaload, 1) := by decide +kernel
theorem dX3_sizeAt_17 : decode cX3_sizeAt 17 = .ok (.ireturn, 1) := by decide +kernel
set_option maxRecDepth 20000 in
theorem ggX3_kindAt_X3_requirePlace : GoodIn wsX3_kindAt wsX3_requirePlace := goodIn_ca (goodIn_r _ [8, 9, 10, 1, 2, 11, 12, 13, 14, 15, 16, 17, 18, 19, 20, 21, 22, 23, 24, 25, 26, 27, 28, 29, 30] (by decide +kernel) (by decide +kernel)) (goodIn_sub (fun _ h => List.mem_cons_of_mem _ (List.mem_append_right _ h)) (by decide +kernel))
set_option maxRecDepth 20000 in
theorem gX3_kindAt_X3_requirePlace : GoodIn wsX3_kindAt (wsV RX3 47 RX3 yX3_requirePlace wsX3_requirePlace) := goodIn_app (goodIn_of _ (by decide +kernel)) ggX3_kindAt_X3_requirePlace
theorem dX3_kindAt_0 : decode cX3_kindAt 0 = .ok (.aload_n 0, 1) := by decide +kernel
theorem dX3_kindAt_1 : decode cX3_kindAt 1 = .ok (.iload_n 1, 1) := by decide +kernel
theorem dX3_kindAt_2 : decode cX3_kindAt 2 = .ok (.invokevirtual 47, 3) := by decide +kernel
theorem dX3_kindAt_5 : decode cX3_kindAt 5 = .ok (.aload_n 0, 1) := by decide +kernel
theorem dX3_kindAt_6 : decode cX3_kindAt 6 = .ok (.getfield 12, 3) := by decide +kernel
theorem dX3_kindAt_9 : decode cX3_kindAt 9 = .ok (.getfield 23, 3) := by decide +kernel
theorem dX3_kindAt_12 : decode cX3_kindAt 12 = .ok (.getfield 108, 3) := by decide +kernel
theorem dX3_kindAt_15 : decode cX3_kindAt 15 = .ok (.iload_n 1, 1) := by decide +kernel
theorem dX3_kindAt_16 : decode cX3_kindAt 16 = .ok (.iaload, 1) := by decide +kernel
theorem dX3_kindAt_17 : decode cX3_kindAt 17 = .ok (.ireturn, 1) := by decide +kernel
set_option maxRecDepth 20000 in
theorem ggX3_largest_X0_placeOfLargest : GoodIn wsX3_largest wsX0_placeOfLargest := goodIn_r _ [7, 8, 9, 21, 22, 23] (by decide +kernel) (by decide +kernel)
set_option maxRecDepth 20000 in
theorem gX3_largest_X0_placeOfLargest : GoodIn wsX3_largest (wsV RX3 111 RX0 yX0_placeOfLargest wsX0_placeOfLargest) := goodIn_app (goodIn_of _ (by decide +kernel)) ggX3_largest_X0_placeOfLargest
theorem dX3_largest_0 : decode cX3_largest 0 = .ok (.aload_n 0, 1) := by decide +kernel
theorem dX3_largest_1 : decode cX3_largest 1 = .ok (.getfield 12, 3) := by decide +kernel
theorem dX3_largest_4 : decode cX3_largest 4 = .ok (.getfield 23, 3) := by decide +kernel
theorem dX3_largest_7 : decode cX3_largest 7 = .ok (.invokevirtual 111, 3) := by decide +kernel
theorem dX3_largest_10 : decode cX3_largest 10 = .ok (.ireturn, 1) := by decide +kernel
set_option maxRecDepth 20000 in
theorem ggX3_noise_X0_loudness : GoodIn wsX3_noise wsX0_loudness := goodIn_r _ [7, 8, 9, 21, 22, 23] (by decide +kernel) (by decide +kernel)
set_option maxRecDepth 20000 in
theorem gX3_noise_X0_loudness : GoodIn wsX3_noise (wsV RX3 114 RX0 yX0_loudness wsX0_loudness) := goodIn_app (goodIn_of _ (by decide +kernel)) ggX3_noise_X0_loudness
theorem dX3_noise_0 : decode cX3_noise 0 = .ok (.aload_n 0, 1) := by decide +kernel
theorem dX3_noise_1 : decode cX3_noise 1 = .ok (.getfield 12, 3) := by decide +kernel
theorem dX3_noise_4 : decode cX3_noise 4 = .ok (.getfield 23, 3) := by decide +kernel
theorem dX3_noise_7 : decode cX3_noise 7 = .ok (.invokevirtual 114, 3) := by decide +kernel
theorem dX3_noise_10 : decode cX3_noise 10 = .ok (.ireturn, 1) := by decide +kernel
set_option maxRecDepth 20000 in
theorem ggX3_topicsOf_X3_isKind : GoodIn wsX3_topicsOf wsX3_isKind := goodIn_r _ [8] (by decide +kernel) (by decide +kernel)
set_option maxRecDepth 20000 in
theorem gX3_topicsOf_X3_isKind : GoodIn wsX3_topicsOf (va_wsS RX3 117 yX3_isKind wsX3_isKind) := goodIn_app (goodIn_of _ (by decide +kernel)) ggX3_topicsOf_X3_isKind
set_option maxRecDepth 20000 in
theorem ggX3_topicsOf_X0_countOf : GoodIn wsX3_topicsOf wsX0_countOf := goodIn_r _ [13, 14, 15, 27, 28, 29] (by decide +kernel) (by decide +kernel)
set_option maxRecDepth 20000 in
theorem gX3_topicsOf_X0_countOf : GoodIn wsX3_topicsOf (wsV RX3 126 RX0 yX0_countOf wsX0_countOf) := goodIn_app (goodIn_of _ (by decide +kernel)) ggX3_topicsOf_X0_countOf
theorem dX3_topicsOf_0 : decode cX3_topicsOf 0 = .ok (.iload_n 1, 1) := by decide +kernel
theorem dX3_topicsOf_1 : decode cX3_topicsOf 1 = .ok (.invokestatic 117, 3) := by decide +kernel
theorem dX3_topicsOf_4 : decode cX3_topicsOf 4 = .ok (.ifCond .ne 13, 3) := by decide +kernel
theorem dX3_topicsOf_7 : decode cX3_topicsOf 7 = .ok (.new 121, 3) := by decide +kernel
theorem dX3_topicsOf_10 : decode cX3_topicsOf 10 = .ok (.dup, 1) := by decide +kernel
theorem dX3_topicsOf_11 : decode cX3_topicsOf 11 = .ok (.ldc 123, 2) := by decide +kernel
theorem dX3_topicsOf_13 : decode cX3_topicsOf 13 = .ok (.invokespecial 125, 3) := by decide +kernel
theorem dX3_topicsOf_16 : decode cX3_topicsOf 16 = .ok (.athrow, 1) := by decide +kernel
theorem dX3_topicsOf_17 : decode cX3_topicsOf 17 = .ok (.aload_n 0, 1) := by decide +kernel
theorem dX3_topicsOf_18 : decode cX3_topicsOf 18 = .ok (.getfield 12, 3) := by decide +kernel
theorem dX3_topicsOf_21 : decode cX3_topicsOf 21 = .ok (.getfield 23, 3) := by decide +kernel
theorem dX3_topicsOf_24 : decode cX3_topicsOf 24 = .ok (.iload_n 1, 1) := by decide +kernel
theorem dX3_topicsOf_25 : decode cX3_topicsOf 25 = .ok (.invokevirtual 126, 3) := by decide +kernel
theorem dX3_topicsOf_28 : decode cX3_topicsOf 28 = .ok (.ireturn, 1) := by decide +kernel
set_option maxRecDepth 20000 in
theorem ggX3_turnsToNod_X3_requirePlace : GoodIn wsX3_turnsToNod wsX3_requirePlace := goodIn_ca (goodIn_r _ [9, 10, 11, 1, 2, 12, 13, 14, 15, 16, 17, 21, 22, 23, 24, 25, 26, 27, 28, 29, 30, 31, 32, 33, 34] (by decide +kernel) (by decide +kernel)) (goodIn_sub (fun _ h => List.mem_cons_of_mem _ (List.mem_append_right _ h)) (by decide +kernel))
set_option maxRecDepth 20000 in
theorem gX3_turnsToNod_X3_requirePlace : GoodIn wsX3_turnsToNod (wsV RX3 47 RX3 yX3_requirePlace wsX3_requirePlace) := goodIn_app (goodIn_of _ (by decide +kernel)) ggX3_turnsToNod_X3_requirePlace
set_option maxRecDepth 20000 in
theorem ggX3_turnsToNod_X3_ground : GoodIn wsX3_turnsToNod wsX3_ground := goodIn_r _ [20] (by decide +kernel) (by decide +kernel)
set_option maxRecDepth 20000 in
theorem gX3_turnsToNod_X3_ground : GoodIn wsX3_turnsToNod (va_wsS RX3 130 yX3_ground wsX3_ground) := goodIn_app (goodIn_of _ (by decide +kernel)) ggX3_turnsToNod_X3_ground
theorem dX3_turnsToNod_0 : decode cX3_turnsToNod 0 = .ok (.aload_n 0, 1) := by decide +kernel
theorem dX3_turnsToNod_1 : decode cX3_turnsToNod 1 = .ok (.iload_n 1, 1) := by decide +kernel
theorem dX3_turnsToNod_2 : decode cX3_turnsToNod 2 = .ok (.invokevirtual 47, 3) := by decide +kernel
theorem dX3_turnsToNod_5 : decode cX3_turnsToNod 5 = .ok (.aload_n 0, 1) := by decide +kernel
theorem dX3_turnsToNod_6 : decode cX3_turnsToNod 6 = .ok (.getfield 12, 3) := by decide +kernel
theorem dX3_turnsToNod_9 : decode cX3_turnsToNod 9 = .ok (.getfield 23, 3) := by decide +kernel
theorem dX3_turnsToNod_12 : decode cX3_turnsToNod 12 = .ok (.getfield 51, 3) := by decide +kernel
theorem dX3_turnsToNod_15 : decode cX3_turnsToNod 15 = .ok (.iload_n 1, 1) := by decide +kernel
theorem dX3_turnsToNod_16 : decode cX3_turnsToNod 16 = .ok (.iaload, 1) := by decide +kernel
