theorem dX4_pass_0 : decode cX4_pass 0 = .ok (.iconst 0, 1) := by decide +kernel
theorem dX4_pass_1 : decode cX4_pass 1 = .ok (.istore_n 1, 1) := by decide +kernel
theorem dX4_pass_2 : decode cX4_pass 2 = .ok (.iload_n 1, 1) := by decide +kernel
theorem dX4_pass_3 : decode cX4_pass 3 = .ok (.aload_n 0, 1) := by decide +kernel
theorem dX4_pass_4 : decode cX4_pass 4 = .ok (.getfield 9, 3) := by decide +kernel
theorem dX4_pass_7 : decode cX4_pass 7 = .ok (.aload_n 0, 1) := by decide +kernel
theorem dX4_pass_8 : decode cX4_pass 8 = .ok (.getfield 26, 3) := by decide +kernel
theorem dX4_pass_11 : decode cX4_pass 11 = .ok (.iconst 1, 1) := by decide +kernel
theorem dX4_pass_12 : decode cX4_pass 12 = .ok (.iaload, 1) := by decide +kernel
theorem dX4_pass_13 : decode cX4_pass 13 = .ok (.invokestatic 62, 3) := by decide +kernel
theorem dX4_pass_16 : decode cX4_pass 16 = .ok (.if_icmp .ge 27, 3) := by decide +kernel
theorem dX4_pass_19 : decode cX4_pass 19 = .ok (.aload_n 0, 1) := by decide +kernel
theorem dX4_pass_20 : decode cX4_pass 20 = .ok (.getfield 26, 3) := by decide +kernel
theorem dX4_pass_23 : decode cX4_pass 23 = .ok (.bipush 6, 2) := by decide +kernel
theorem dX4_pass_25 : decode cX4_pass 25 = .ok (.iload_n 1, 1) := by decide +kernel
theorem dX4_pass_26 : decode cX4_pass 26 = .ok (.iadd, 1) := by decide +kernel
theorem dX4_pass_27 : decode cX4_pass 27 = .ok (.dup2, 1) := by decide +kernel
theorem dX4_pass_28 : decode cX4_pass 28 = .ok (.iaload, 1) := by decide +kernel
theorem dX4_pass_29 : decode cX4_pass 29 = .ok (.aload_n 0, 1) := by decide +kernel
theorem dX4_pass_30 : decode cX4_pass 30 = .ok (.getfield 26, 3) := by decide +kernel
theorem dX4_pass_33 : decode cX4_pass 33 = .ok (.iconst 5, 1) := by decide +kernel
theorem dX4_pass_34 : decode cX4_pass 34 = .ok (.iaload, 1) := by decide +kernel
theorem dX4_pass_35 : decode cX4_pass 35 = .ok (.idiv, 1) := by decide +kernel
theorem dX4_pass_36 : decode cX4_pass 36 = .ok (.iastore, 1) := by decide +kernel
theorem dX4_pass_37 : decode cX4_pass 37 = .ok (.iinc 1 1, 3) := by decide +kernel
theorem dX4_pass_40 : decode cX4_pass 40 = .ok (.goto (-38), 3) := by decide +kernel
theorem dX4_pass_43 : decode cX4_pass 43 = .ok (.aload_n 0, 1) := by decide +kernel
theorem dX4_pass_44 : decode cX4_pass 44 = .ok (.getfield 26, 3) := by decide +kernel
theorem dX4_pass_47 : decode cX4_pass 47 = .ok (.iconst 2, 1) := by decide +kernel
theorem dX4_pass_48 : decode cX4_pass 48 = .ok (.dup2, 1) := by decide +kernel
theorem dX4_pass_49 : decode cX4_pass 49 = .ok (.iaload, 1) := by decide +kernel
theorem dX4_pass_50 : decode cX4_pass 50 = .ok (.aload_n 0, 1) := by decide +kernel
theorem dX4_pass_51 : decode cX4_pass 51 = .ok (.iconst 0, 1) := by decide +kernel
theorem dX4_pass_52 : decode cX4_pass 52 = .ok (.invokevirtual 65, 3) := by decide +kernel
theorem dX4_pass_55 : decode cX4_pass 55 = .ok (.iadd, 1) := by decide +kernel
theorem dX4_pass_56 : decode cX4_pass 56 = .ok (.iastore, 1) := by decide +kernel
theorem dX4_pass_57 : decode cX4_pass 57 = .ok (.aload_n 0, 1) := by decide +kernel
theorem dX4_pass_58 : decode cX4_pass 58 = .ok (.getfield 26, 3) := by decide +kernel
theorem dX4_pass_61 : decode cX4_pass 61 = .ok (.iconst 4, 1) := by decide +kernel
theorem dX4_pass_62 : decode cX4_pass 62 = .ok (.dup2, 1) := by decide +kernel
theorem dX4_pass_63 : decode cX4_pass 63 = .ok (.iaload, 1) := by decide +kernel
theorem dX4_pass_64 : decode cX4_pass 64 = .ok (.aload_n 0, 1) := by decide +kernel
theorem dX4_pass_65 : decode cX4_pass 65 = .ok (.iconst 1, 1) := by decide +kernel
theorem dX4_pass_66 : decode cX4_pass 66 = .ok (.invokevirtual 65, 3) := by decide +kernel
theorem dX4_pass_69 : decode cX4_pass 69 = .ok (.iadd, 1) := by decide +kernel
theorem dX4_pass_70 : decode cX4_pass 70 = .ok (.iastore, 1) := by decide +kernel
theorem dX4_pass_71 : decode cX4_pass 71 = .ok (.aload_n 0, 1) := by decide +kernel
theorem dX4_pass_72 : decode cX4_pass 72 = .ok (.getfield 26, 3) := by decide +kernel
theorem dX4_pass_75 : decode cX4_pass 75 = .ok (.iconst 3, 1) := by decide +kernel
theorem dX4_pass_76 : decode cX4_pass 76 = .ok (.dup2, 1) := by decide +kernel
theorem dX4_pass_77 : decode cX4_pass 77 = .ok (.iaload, 1) := by decide +kernel
theorem dX4_pass_78 : decode cX4_pass 78 = .ok (.aload_n 0, 1) := by decide +kernel
theorem dX4_pass_79 : decode cX4_pass 79 = .ok (.getfield 26, 3) := by decide +kernel
theorem dX4_pass_82 : decode cX4_pass 82 = .ok (.iconst 2, 1) := by decide +kernel
theorem dX4_pass_83 : decode cX4_pass 83 = .ok (.iaload, 1) := by decide +kernel
theorem dX4_pass_84 : decode cX4_pass 84 = .ok (.bipush 6, 2) := by decide +kernel
theorem dX4_pass_86 : decode cX4_pass 86 = .ok (.idiv, 1) := by decide +kernel
theorem dX4_pass_87 : decode cX4_pass 87 = .ok (.iadd, 1) := by decide +kernel
theorem dX4_pass_88 : decode cX4_pass 88 = .ok (.iastore, 1) := by decide +kernel
theorem dX4_pass_89 : decode cX4_pass 89 = .ok (.aload_n 0, 1) := by decide +kernel
theorem dX4_pass_90 : decode cX4_pass 90 = .ok (.getfield 26, 3) := by decide +kernel
theorem dX4_pass_93 : decode cX4_pass 93 = .ok (.iconst 2, 1) := by decide +kernel
theorem dX4_pass_94 : decode cX4_pass 94 = .ok (.dup2, 1) := by decide +kernel
theorem dX4_pass_95 : decode cX4_pass 95 = .ok (.iaload, 1) := by decide +kernel
theorem dX4_pass_96 : decode cX4_pass 96 = .ok (.bipush 6, 2) := by decide +kernel
theorem dX4_pass_98 : decode cX4_pass 98 = .ok (.irem, 1) := by decide +kernel
theorem dX4_pass_99 : decode cX4_pass 99 = .ok (.iastore, 1) := by decide +kernel
theorem dX4_pass_100 : decode cX4_pass 100 = .ok (.aload_n 0, 1) := by decide +kernel
theorem dX4_pass_101 : decode cX4_pass 101 = .ok (.invokevirtual 69, 3) := by decide +kernel
theorem dX4_pass_104 : decode cX4_pass 104 = .ok (.istore_n 1, 1) := by decide +kernel
theorem dX4_pass_105 : decode cX4_pass 105 = .ok (.iconst 0, 1) := by decide +kernel
theorem dX4_pass_106 : decode cX4_pass 106 = .ok (.istore_n 2, 1) := by decide +kernel
theorem dX4_pass_107 : decode cX4_pass 107 = .ok (.iload_n 2, 1) := by decide +kernel
theorem dX4_pass_108 : decode cX4_pass 108 = .ok (.aload_n 0, 1) := by decide +kernel
theorem dX4_pass_109 : decode cX4_pass 109 = .ok (.getfield 39, 3) := by decide +kernel
theorem dX4_pass_112 : decode cX4_pass 112 = .ok (.if_icmp .ge 60, 3) := by decide +kernel
theorem dX4_pass_115 : decode cX4_pass 115 = .ok (.aload_n 0, 1) := by decide +kernel
theorem dX4_pass_116 : decode cX4_pass 116 = .ok (.iload_n 2, 1) := by decide +kernel
theorem dX4_pass_117 : decode cX4_pass 117 = .ok (.invokevirtual 52, 3) := by decide +kernel
theorem dX4_pass_120 : decode cX4_pass 120 = .ok (.ifCond .eq 46, 3) := by decide +kernel
theorem dX4_pass_123 : decode cX4_pass 123 = .ok (.aload_n 0, 1) := by decide +kernel
theorem dX4_pass_124 : decode cX4_pass 124 = .ok (.getfield 26, 3) := by decide +kernel
theorem dX4_pass_127 : decode cX4_pass 127 = .ok (.iconst 0, 1) := by decide +kernel
theorem dX4_pass_128 : decode cX4_pass 128 = .ok (.iaload, 1) := by decide +kernel
theorem dX4_pass_129 : decode cX4_pass 129 = .ok (.aload_n 0, 1) := by decide +kernel
theorem dX4_pass_130 : decode cX4_pass 130 = .ok (.getfield 23, 3) := by decide +kernel
theorem dX4_pass_133 : decode cX4_pass 133 = .ok (.iload_n 2, 1) := by decide +kernel
theorem dX4_pass_134 : decode cX4_pass 134 = .ok (.iaload, 1) := by decide +kernel
theorem dX4_pass_135 : decode cX4_pass 135 = .ok (.irem, 1) := by decide +kernel
theorem dX4_pass_136 : decode cX4_pass 136 = .ok (.ifCond .ne 30, 3) := by decide +kernel
theorem dX4_pass_139 : decode cX4_pass 139 = .ok (.aload_n 0, 1) := by decide +kernel
theorem dX4_pass_140 : decode cX4_pass 140 = .ok (.getfield 26, 3) := by decide +kernel
theorem dX4_pass_143 : decode cX4_pass 143 = .ok (.iconst 1, 1) := by decide +kernel
theorem dX4_pass_144 : decode cX4_pass 144 = .ok (.iaload, 1) := by decide +kernel
theorem dX4_pass_145 : decode cX4_pass 145 = .ok (.bipush 12, 2) := by decide +kernel
theorem dX4_pass_147 : decode cX4_pass 147 = .ok (.if_icmp .ge 19, 3) := by decide +kernel
theorem dX4_pass_150 : decode cX4_pass 150 = .ok (.aload_n 0, 1) := by decide +kernel
theorem dX4_pass_151 : decode cX4_pass 151 = .ok (.aload_n 0, 1) := by decide +kernel
theorem dX4_pass_152 : decode cX4_pass 152 = .ok (.getfield 16, 3) := by decide +kernel
theorem dX4_pass_155 : decode cX4_pass 155 = .ok (.iload_n 2, 1) := by decide +kernel
theorem dX4_pass_156 : decode cX4_pass 156 = .ok (.iaload, 1) := by decide +kernel
theorem dX4_pass_157 : decode cX4_pass 157 = .ok (.aload_n 0, 1) := by decide +kernel
theorem dX4_pass_158 : decode cX4_pass 158 = .ok (.getfield 20, 3) := by decide +kernel
theorem dX4_pass_161 : decode cX4_pass 161 = .ok (.iload_n 2, 1) := by decide +kernel
theorem dX4_pass_162 : decode cX4_pass 162 = .ok (.iaload, 1) := by decide +kernel
theorem dX4_pass_163 : decode cX4_pass 163 = .ok (.invokevirtual 72, 3) := by decide +kernel
theorem dX4_pass_166 : decode cX4_pass 166 = .ok (.iinc 2 1, 3) := by decide +kernel
theorem dX4_pass_169 : decode cX4_pass 169 = .ok (.goto (-62), 3) := by decide +kernel
theorem dX4_pass_172 : decode cX4_pass 172 = .ok (.aload_n 0, 1) := by decide +kernel
theorem dX4_pass_173 : decode cX4_pass 173 = .ok (.getfield 26, 3) := by decide +kernel
theorem dX4_pass_176 : decode cX4_pass 176 = .ok (.iconst 0, 1) := by decide +kernel
theorem dX4_pass_177 : decode cX4_pass 177 = .ok (.dup2, 1) := by decide +kernel
theorem dX4_pass_178 : decode cX4_pass 178 = .ok (.iaload, 1) := by decide +kernel
theorem dX4_pass_179 : decode cX4_pass 179 = .ok (.iconst 1, 1) := by decide +kernel
theorem dX4_pass_180 : decode cX4_pass 180 = .ok (.iadd, 1) := by decide +kernel
theorem dX4_pass_181 : decode cX4_pass 181 = .ok (.iastore, 1) := by decide +kernel
theorem dX4_pass_182 : decode cX4_pass 182 = .ok (.iload_n 1, 1) := by decide +kernel
theorem dX4_pass_183 : decode cX4_pass 183 = .ok (.ireturn, 1) := by decide +kernel
set_option maxRecDepth 20000 in
theorem ggX4_passes_X4_pass : GoodIn wsX4_passes wsX4_pass := goodIn_r _ [5, 6, 7, 8, 9, 10, 11, 12, 13, 14, 15, 16, 17, 18, 4, 19, 20, 21, 22, 23, 24, 25, 26, 27, 28, 29, 30, 31, 32, 33, 34, 35, 36, 37, 38, 39, 40, 41, 42, 43, 44, 45, 46, 47, 48] (by decide +kernel) (by decide +kernel)
set_option maxRecDepth 20000 in
theorem gX4_passes_X4_pass : GoodIn wsX4_passes (wsV RX4 76 RX4 yX4_pass wsX4_pass) := goodIn_app (goodIn_of _ (by decide +kernel)) ggX4_passes_X4_pass
theorem dX4_passes_0 : decode cX4_passes 0 = .ok (.iconst 0, 1) := by decide +kernel
theorem dX4_passes_1 : decode cX4_passes 1 = .ok (.istore_n 2, 1) := by decide +kernel
theorem dX4_passes_2 : decode cX4_passes 2 = .ok (.iconst 0, 1) := by decide +kernel
theorem dX4_passes_3 : decode cX4_passes 3 = .ok (.istore_n 3, 1) := by decide +kernel
theorem dX4_passes_4 : decode cX4_passes 4 = .ok (.iload_n 3, 1) := by decide +kernel
theorem dX4_passes_5 : decode cX4_passes 5 = .ok (.iload_n 1, 1) := by decide +kernel
theorem dX4_passes_6 : decode cX4_passes 6 = .ok (.if_icmp .ge 16, 3) := by decide +kernel
theorem dX4_passes_9 : decode cX4_passes 9 = .ok (.iload_n 2, 1) := by decide +kernel
theorem dX4_passes_10 : decode cX4_passes 10 = .ok (.aload_n 0, 1) := by decide +kernel
theorem dX4_passes_11 : decode cX4_passes 11 = .ok (.invokevirtual 76, 3) := by decide +kernel
theorem dX4_passes_14 : decode cX4_passes 14 = .ok (.iadd, 1) := by decide +kernel
theorem dX4_passes_15 : decode cX4_passes 15 = .ok (.istore_n 2, 1) := by decide +kernel
theorem dX4_passes_16 : decode cX4_passes 16 = .ok (.iinc 3 1, 3) := by decide +kernel
theorem dX4_passes_19 : decode cX4_passes 19 = .ok (.goto (-15), 3) := by decide +kernel
theorem dX4_passes_22 : decode cX4_passes 22 = .ok (.iload_n 2, 1) := by decide +kernel
theorem dX4_passes_23 : decode cX4_passes 23 = .ok (.ireturn, 1) := by decide +kernel
set_option maxRecDepth 20000 in
theorem ggX4_put_X4_isTopic : GoodIn wsX4_put wsX4_isTopic := goodIn_r _ [6, 7, 8, 5, 9] (by decide +kernel) (by decide +kernel)
set_option maxRecDepth 20000 in
theorem gX4_put_X4_isTopic : GoodIn wsX4_put (va_wsS RX4 79 yX4_isTopic wsX4_isTopic) := goodIn_app (goodIn_of _ (by decide +kernel)) ggX4_put_X4_isTopic
set_option maxRecDepth 20000 in
theorem ggX4_put_X4_no : GoodIn wsX4_put wsX4_no := goodIn_r _ [13, 1, 18, 19, 20, 21, 22, 23, 24, 25, 26] (by decide +kernel) (by decide +kernel)
set_option maxRecDepth 20000 in
theorem gX4_put_X4_no : GoodIn wsX4_put (wsV RX4 83 RX4 yX4_no wsX4_no) := goodIn_app (goodIn_of _ (by decide +kernel)) ggX4_put_X4_no
set_option maxRecDepth 20000 in
theorem ggX4_put_X4_add : GoodIn wsX4_put wsX4_add := goodIn_r _ [17, 2, 18, 19, 20, 21, 22, 23, 24, 25, 26] (by decide +kernel) (by decide +kernel)
set_option maxRecDepth 20000 in
theorem gX4_put_X4_add : GoodIn wsX4_put (wsV RX4 72 RX4 yX4_add wsX4_add) := goodIn_app (goodIn_of _ (by decide +kernel)) ggX4_put_X4_add
theorem dX4_put_0 : decode cX4_put 0 = .ok (.aload_n 0, 1) := by decide +kernel
theorem dX4_put_1 : decode cX4_put 1 = .ok (.iconst 0, 1) := by decide +kernel
theorem dX4_put_2 : decode cX4_put 2 = .ok (.putfield 32, 3) := by decide +kernel
theorem dX4_put_5 : decode cX4_put 5 = .ok (.iload_n 1, 1) := by decide +kernel
theorem dX4_put_6 : decode cX4_put 6 = .ok (.iload_n 2, 1) := by decide +kernel
theorem dX4_put_7 : decode cX4_put 7 = .ok (.invokestatic 79, 3) := by decide +kernel
theorem dX4_put_10 : decode cX4_put 10 = .ok (.ifCond .ne 9, 3) := by decide +kernel
theorem dX4_put_13 : decode cX4_put 13 = .ok (.aload_n 0, 1) := by decide +kernel
theorem dX4_put_14 : decode cX4_put 14 = .ok (.iconst 1, 1) := by decide +kernel
theorem dX4_put_15 : decode cX4_put 15 = .ok (.invokevirtual 83, 3) := by decide +kernel
theorem dX4_put_18 : decode cX4_put 18 = .ok (.ireturn, 1) := by decide +kernel
theorem dX4_put_19 : decode cX4_put 19 = .ok (.aload_n 0, 1) := by decide +kernel
theorem dX4_put_20 : decode cX4_put 20 = .ok (.getfield 26, 3) := by decide +kernel
theorem dX4_put_23 : decode cX4_put 23 = .ok (.iconst 1, 1) := by decide +kernel
theorem dX4_put_24 : decode cX4_put 24 = .ok (.iaload, 1) := by decide +kernel
theorem dX4_put_25 : decode cX4_put 25 = .ok (.bipush 12, 2) := by decide +kernel
theorem dX4_put_27 : decode cX4_put 27 = .ok (.if_icmp .ne 9, 3) := by decide +kernel
theorem dX4_put_30 : decode cX4_put 30 = .ok (.aload_n 0, 1) := by decide +kernel
theorem dX4_put_31 : decode cX4_put 31 = .ok (.iconst 2, 1) := by decide +kernel
theorem dX4_put_32 : decode cX4_put 32 = .ok (.invokevirtual 83, 3) := by decide +kernel
theorem dX4_put_35 : decode cX4_put 35 = .ok (.ireturn, 1) := by decide +kernel
theorem dX4_put_36 : decode cX4_put 36 = .ok (.aload_n 0, 1) := by decide +kernel
theorem dX4_put_37 : decode cX4_put 37 = .ok (.iload_n 1, 1) := by decide +kernel
theorem dX4_put_38 : decode cX4_put 38 = .ok (.iload_n 2, 1) := by decide +kernel
theorem dX4_put_39 : decode cX4_put 39 = .ok (.invokevirtual 72, 3) := by decide +kernel
theorem dX4_put_42 : decode cX4_put 42 = .ok (.aload_n 0, 1) := by decide +kernel
theorem dX4_put_43 : decode cX4_put 43 = .ok (.getfield 26, 3) := by decide +kernel
theorem dX4_put_46 : decode cX4_put 46 = .ok (.iconst 1, 1) := by decide +kernel
theorem dX4_put_47 : decode cX4_put 47 = .ok (.iaload, 1) := by decide +kernel
theorem dX4_put_48 : decode cX4_put 48 = .ok (.iconst 1, 1) := by decide +kernel
theorem dX4_put_49 : decode cX4_put 49 = .ok (.isub, 1) := by decide +kernel
theorem dX4_put_50 : decode cX4_put 50 = .ok (.ireturn, 1) := by decide +kernel
theorem dX4_toFront_0 : decode cX4_toFront 0 = .ok (.aload_n 0, 1) := by decide +kernel
theorem dX4_toFront_1 : decode cX4_toFront 1 = .ok (.getfield 26, 3) := by decide +kernel
theorem dX4_toFront_4 : decode cX4_toFront 4 = .ok (.bipush 6, 2) := by decide +kernel
theorem dX4_toFront_6 : decode cX4_toFront 6 = .ok (.iload_n 1, 1) := by decide +kernel
theorem dX4_toFront_7 : decode cX4_toFront 7 = .ok (.iadd, 1) := by decide +kernel
theorem dX4_toFront_8 : decode cX4_toFront 8 = .ok (.iaload, 1) := by decide +kernel
theorem dX4_toFront_9 : decode cX4_toFront 9 = .ok (.istore_n 2, 1) := by decide +kernel
theorem dX4_toFront_10 : decode cX4_toFront 10 = .ok (.aload_n 0, 1) := by decide +kernel
theorem dX4_toFront_11 : decode cX4_toFront 11 = .ok (.getfield 26, 3) := by decide +kernel
theorem dX4_toFront_14 : decode cX4_toFront 14 = .ok (.bipush 18, 2) := by decide +kernel
theorem dX4_toFront_16 : decode cX4_toFront 16 = .ok (.iload_n 1, 1) := by decide +kernel
theorem dX4_toFront_17 : decode cX4_toFront 17 = .ok (.iadd, 1) := by decide +kernel
theorem dX4_toFront_18 : decode cX4_toFront 18 = .ok (.iaload, 1) := by decide +kernel
theorem dX4_toFront_19 : decode cX4_toFront 19 = .ok (.istore_n 3, 1) := by decide +kernel
theorem dX4_toFront_20 : decode cX4_toFront 20 = .ok (.iload_n 1, 1) := by decide +kernel
theorem dX4_toFront_21 : decode cX4_toFront 21 = .ok (.istore 4, 2) := by decide +kernel
theorem dX4_toFront_23 : decode cX4_toFront 23 = .ok (.iload 4, 2) := by decide +kernel
theorem dX4_toFront_25 : decode cX4_toFront 25 = .ok (.ifCond .le 53, 3) := by decide +kernel
theorem dX4_toFront_28 : decode cX4_toFront 28 = .ok (.aload_n 0, 1) := by decide +kernel
theorem dX4_toFront_29 : decode cX4_toFront 29 = .ok (.getfield 26, 3) := by decide +kernel
theorem dX4_toFront_32 : decode cX4_toFront 32 = .ok (.bipush 6, 2) := by decide +kernel
theorem dX4_toFront_34 : decode cX4_toFront 34 = .ok (.iload 4, 2) := by decide +kernel
theorem dX4_toFront_36 : decode cX4_toFront 36 = .ok (.iadd, 1) := by decide +kernel
theorem dX4_toFront_37 : decode cX4_toFront 37 = .ok (.aload_n 0, 1) := by decide +kernel
theorem dX4_toFront_38 : decode cX4_toFront 38 = .ok (.getfield 26, 3) := by decide +kernel
theorem dX4_toFront_41 : decode cX4_toFront 41 = .ok (.bipush 6, 2) := by decide +kernel
theorem dX4_toFront_43 : decode cX4_toFront 43 = .ok (.iload 4, 2) := by decide +kernel
theorem dX4_toFront_45 : decode cX4_toFront 45 = .ok (.iadd, 1) := by decide +kernel
theorem dX4_toFront_46 : decode cX4_toFront 46 = .ok (.iconst 1, 1) := by decide +kernel
theorem dX4_toFront_47 : decode cX4_toFront 47 = .ok (.isub, 1) := by decide +kernel
theorem dX4_toFront_48 : decode cX4_toFront 48 = .ok (.iaload, 1) := by decide +kernel
theorem dX4_toFront_49 : decode cX4_toFront 49 = .ok (.iastore, 1) := by decide +kernel
theorem dX4_toFront_50 : decode cX4_toFront 50 = .ok (.aload_n 0, 1) := by decide +kernel
theorem dX4_toFront_51 : decode cX4_toFront 51 = .ok (.getfield 26, 3) := by decide +kernel
theorem dX4_toFront_54 : decode cX4_toFront 54 = .ok (.bipush 18, 2) := by decide +kernel
theorem dX4_toFront_56 : decode cX4_toFront 56 = .ok (.iload 4, 2) := by decide +kernel
theorem dX4_toFront_58 : decode cX4_toFront 58 = .ok (.iadd, 1) := by decide +kernel
theorem dX4_toFront_59 : decode cX4_toFront 59 = .ok (.aload_n 0, 1) := by decide +kernel
theorem dX4_toFront_60 : decode cX4_toFront 60 = .ok (.getfield 26, 3) := by decide +kernel
theorem dX4_toFront_63 : decode cX4_toFront 63 = .ok (.bipush 18, 2) := by decide +kernel
theorem dX4_toFront_65 : decode cX4_toFront 65 = .ok (.iload 4, 2) := by decide +kernel
theorem dX4_toFront_67 : decode cX4_toFront 67 = .ok (.iadd, 1) := by decide +kernel
theorem dX4_toFront_68 : decode cX4_toFront 68 = .ok (.iconst 1, 1) := by decide +kernel
theorem dX4_toFront_69 : decode cX4_toFront 69 = .ok (.isub, 1) := by decide +kernel
theorem dX4_toFront_70 : decode cX4_toFront 70 = .ok (.iaload, 1) := by decide +kernel
theorem dX4_toFront_71 : decode cX4_toFront 71 = .ok (.iastore, 1) := by decide +kernel
theorem dX4_toFront_72 : decode cX4_toFront 72 = .ok (.iinc 4 (-1), 3) := by decide +kernel
theorem dX4_toFront_75 : decode cX4_toFront 75 = .ok (.goto (-52), 3) := by decide +kernel
theorem dX4_toFront_78 : decode cX4_toFront 78 = .ok (.aload_n 0, 1) := by decide +kernel
theorem dX4_toFront_79 : decode cX4_toFront 79 = .ok (.getfield 26, 3) := by decide +kernel
theorem dX4_toFront_82 : decode cX4_toFront 82 = .ok (.bipush 6, 2) := by decide +kernel
theorem dX4_toFront_84 : decode cX4_toFront 84 = .ok (.iload_n 2, 1) := by decide +kernel
theorem dX4_toFront_85 : decode cX4_toFront 85 = .ok (.iastore, 1) := by decide +kernel
theorem dX4_toFront_86 : decode cX4_toFront 86 = .ok (.aload_n 0, 1) := by decide +kernel
theorem dX4_toFront_87 : decode cX4_toFront 87 = .ok (.getfield 26, 3) := by decide +kernel
theorem dX4_toFront_90 : decode cX4_toFront 90 = .ok (.bipush 18, 2) := by decide +kernel
theorem dX4_toFront_92 : decode cX4_toFront 92 = .ok (.iload_n 3, 1) := by decide +kernel
theorem dX4_toFront_93 : decode cX4_toFront 93 = .ok (.iastore, 1) := by decide +kernel
theorem dX4_toFront_94 : decode cX4_toFront 94 = .ok (.return_, 1) := by decide +kernel
set_option maxRecDepth 20000 in
theorem ggX4_pushToFront_X4_isPlace : GoodIn wsX4_pushToFront wsX4_isPlace := goodIn_r _ [7, 2, 8, 9, 6, 10, 19, 20, 21, 22, 23, 24, 25, 26, 27] (by decide +kernel) (by decide +kernel)
set_option maxRecDepth 20000 in
theorem gX4_pushToFront_X4_isPlace : GoodIn wsX4_pushToFront (wsV RX4 87 RX4 yX4_isPlace wsX4_isPlace) := goodIn_app (goodIn_of _ (by decide +kernel)) ggX4_pushToFront_X4_isPlace
set_option maxRecDepth 20000 in
theorem ggX4_pushToFront_X4_no : GoodIn wsX4_pushToFront wsX4_no := goodIn_r _ [14, 1, 19, 20, 21, 22, 23, 24, 25, 26, 27] (by decide +kernel) (by decide +kernel)
set_option maxRecDepth 20000 in
theorem gX4_pushToFront_X4_no : GoodIn wsX4_pushToFront (wsV RX4 83 RX4 yX4_no wsX4_no) := goodIn_app (goodIn_of _ (by decide +kernel)) ggX4_pushToFront_X4_no
set_option maxRecDepth 20000 in
theorem ggX4_pushToFront_X4_toFront : GoodIn wsX4_pushToFront wsX4_toFront := goodIn_r _ [18, 2, 19, 20, 21, 22, 23, 24, 25, 26, 27] (by decide +kernel) (by decide +kernel)
set_option maxRecDepth 20000 in
theorem gX4_pushToFront_X4_toFront : GoodIn wsX4_pushToFront (wsV RX4 90 RX4 yX4_toFront wsX4_toFront) := goodIn_app (goodIn_of _ (by decide +kernel)) ggX4_pushToFront_X4_toFront
theorem dX4_pushToFront_0 : decode cX4_pushToFront 0 = .ok (.aload_n 0, 1) := by decide +kernel
theorem dX4_pushToFront_1 : decode cX4_pushToFront 1 = .ok (.iconst 0, 1) := by decide +kernel
theorem dX4_pushToFront_2 : decode cX4_pushToFront 2 = .ok (.putfield 32, 3) := by decide +kernel
theorem dX4_pushToFront_5 : decode cX4_pushToFront 5 = .ok (.aload_n 0, 1) := by decide +kernel
theorem dX4_pushToFront_6 : decode cX4_pushToFront 6 = .ok (.iload_n 1, 1) := by decide +kernel
theorem dX4_pushToFront_7 : decode cX4_pushToFront 7 = .ok (.invokevirtual 87, 3) := by decide +kernel
theorem dX4_pushToFront_10 : decode cX4_pushToFront 10 = .ok (.ifCond .ne 9, 3) := by decide +kernel
theorem dX4_pushToFront_13 : decode cX4_pushToFront 13 = .ok (.aload_n 0, 1) := by decide +kernel
theorem dX4_pushToFront_14 : decode cX4_pushToFront 14 = .ok (.iconst 1, 1) := by decide +kernel
theorem dX4_pushToFront_15 : decode cX4_pushToFront 15 = .ok (.invokevirtual 83, 3) := by decide +kernel
theorem dX4_pushToFront_18 : decode cX4_pushToFront 18 = .ok (.ireturn, 1) := by decide +kernel
theorem dX4_pushToFront_19 : decode cX4_pushToFront 19 = .ok (.aload_n 0, 1) := by decide +kernel
theorem dX4_pushToFront_20 : decode cX4_pushToFront 20 = .ok (.iload_n 1, 1) := by decide +kernel
theorem dX4_pushToFront_21 : decode cX4_pushToFront 21 = .ok (.invokevirtual 90, 3) := by decide +kernel
theorem dX4_pushToFront_24 : decode cX4_pushToFront 24 = .ok (.aload_n 0, 1) := by decide +kernel
theorem dX4_pushToFront_25 : decode cX4_pushToFront 25 = .ok (.getfield 26, 3) := by decide +kernel
theorem dX4_pushToFront_28 : decode cX4_pushToFront 28 = .ok (.bipush 6, 2) := by decide +kernel
theorem dX4_pushToFront_30 : decode cX4_pushToFront 30 = .ok (.iaload, 1) := by decide +kernel
theorem dX4_pushToFront_31 : decode cX4_pushToFront 31 = .ok (.ireturn, 1) := by decide +kernel
set_option maxRecDepth 20000 in
theorem ggX4_drop_X4_isPlace : GoodIn wsX4_drop wsX4_isPlace := goodIn_r _ [7, 2, 8, 9, 6, 10, 15, 16, 17, 18, 19, 20, 21, 22, 23] (by decide +kernel) (by decide +kernel)
set_option maxRecDepth 20000 in
theorem gX4_drop_X4_isPlace : GoodIn wsX4_drop (wsV RX4 87 RX4 yX4_isPlace wsX4_isPlace) := goodIn_app (goodIn_of _ (by decide +kernel)) ggX4_drop_X4_isPlace
set_option maxRecDepth 20000 in
theorem ggX4_drop_X4_no : GoodIn wsX4_drop wsX4_no := goodIn_r _ [14, 1, 15, 16, 17, 18, 19, 20, 21, 22, 23] (by decide +kernel) (by decide +kernel)
set_option maxRecDepth 20000 in
theorem gX4_drop_X4_no : GoodIn wsX4_drop (wsV RX4 83 RX4 yX4_no wsX4_no) := goodIn_app (goodIn_of _ (by decide +kernel)) ggX4_drop_X4_no
theorem dX4_drop_0 : decode cX4_drop 0 = .ok (.aload_n 0, 1) := by decide +kernel
theorem dX4_drop_1 : decode cX4_drop 1 = .ok (.iconst 0, 1) := by decide +kernel
theorem dX4_drop_2 : decode cX4_drop 2 = .ok (.putfield 32, 3) := by decide +kernel
theorem dX4_drop_5 : decode cX4_drop 5 = .ok (.aload_n 0, 1) := by decide +kernel
theorem dX4_drop_6 : decode cX4_drop 6 = .ok (.iload_n 1, 1) := by decide +kernel
theorem dX4_drop_7 : decode cX4_drop 7 = .ok (.invokevirtual 87, 3) := by decide +kernel
theorem dX4_drop_10 : decode cX4_drop 10 = .ok (.ifCond .ne 9, 3) := by decide +kernel
theorem dX4_drop_13 : decode cX4_drop 13 = .ok (.aload_n 0, 1) := by decide +kernel
theorem dX4_drop_14 : decode cX4_drop 14 = .ok (.iconst 1, 1) := by decide +kernel
theorem dX4_drop_15 : decode cX4_drop 15 = .ok (.invokevirtual 83, 3) := by decide +kernel
theorem dX4_drop_18 : decode cX4_drop 18 = .ok (.ireturn, 1) := by decide +kernel
theorem dX4_drop_19 : decode cX4_drop 19 = .ok (.iload_n 1, 1) := by decide +kernel
theorem dX4_drop_20 : decode cX4_drop 20 = .ok (.istore_n 2, 1) := by decide +kernel
theorem dX4_drop_21 : decode cX4_drop 21 = .ok (.iload_n 2, 1) := by decide +kernel
theorem dX4_drop_22 : decode cX4_drop 22 = .ok (.iconst 1, 1) := by decide +kernel
theorem dX4_drop_23 : decode cX4_drop 23 = .ok (.iadd, 1) := by decide +kernel
theorem dX4_drop_24 : decode cX4_drop 24 = .ok (.aload_n 0, 1) := by decide +kernel
theorem dX4_drop_25 : decode cX4_drop 25 = .ok (.getfield 26, 3) := by decide +kernel
theorem dX4_drop_28 : decode cX4_drop 28 = .ok (.iconst 1, 1) := by decide +kernel
theorem dX4_drop_29 : decode cX4_drop 29 = .ok (.iaload, 1) := by decide +kernel
theorem dX4_drop_30 : decode cX4_drop 30 = .ok (.if_icmp .ge 49, 3) := by decide +kernel
theorem dX4_drop_33 : decode cX4_drop 33 = .ok (.aload_n 0, 1) := by decide +kernel
theorem dX4_drop_34 : decode cX4_drop 34 = .ok (.getfield 26, 3) := by decide +kernel
theorem dX4_drop_37 : decode cX4_drop 37 = .ok (.bipush 6, 2) := by decide +kernel
theorem dX4_drop_39 : decode cX4_drop 39 = .ok (.iload_n 2, 1) := by decide +kernel
theorem dX4_drop_40 : decode cX4_drop 40 = .ok (.iadd, 1) := by decide +kernel
theorem dX4_drop_41 : decode cX4_drop 41 = .ok (.aload_n 0, 1) := by decide +kernel
theorem dX4_drop_42 : decode cX4_drop 42 = .ok (.getfield 26, 3) := by decide +kernel
theorem dX4_drop_45 : decode cX4_drop 45 = .ok (.bipush 6, 2) := by decide +kernel
theorem dX4_drop_47 : decode cX4_drop 47 = .ok (.iload_n 2, 1) := by decide +kernel
theorem dX4_drop_48 : decode cX4_drop 48 = .ok (.iadd, 1) := by decide +kernel
theorem dX4_drop_49 : decode cX4_drop 49 = .ok (.iconst 1, 1) := by decide +kernel
theorem dX4_drop_50 : decode cX4_drop 50 = .ok (.iadd, 1) := by decide +kernel
theorem dX4_drop_51 : decode cX4_drop 51 = .ok (.iaload, 1) := by decide +kernel
theorem dX4_drop_52 : decode cX4_drop 52 = .ok (.iastore, 1) := by decide +kernel
theorem dX4_drop_53 : decode cX4_drop 53 = .ok (.aload_n 0, 1) := by decide +kernel
theorem dX4_drop_54 : decode cX4_drop 54 = .ok (.getfield 26, 3) := by decide +kernel
theorem dX4_drop_57 : decode cX4_drop 57 = .ok (.bipush 18, 2) := by decide +kernel
theorem dX4_drop_59 : decode cX4_drop 59 = .ok (.iload_n 2, 1) := by decide +kernel
theorem dX4_drop_60 : decode cX4_drop 60 = .ok (.iadd, 1) := by decide +kernel
theorem dX4_drop_61 : decode cX4_drop 61 = .ok (.aload_n 0, 1) := by decide +kernel
theorem dX4_drop_62 : decode cX4_drop 62 = .ok (.getfield 26, 3) := by decide +kernel
theorem dX4_drop_65 : decode cX4_drop 65 = .ok (.bipush 18, 2) := by decide +kernel
theorem dX4_drop_67 : decode cX4_drop 67 = .ok (.iload_n 2, 1) := by decide +kernel
theorem dX4_drop_68 : decode cX4_drop 68 = .ok (.iadd, 1) := by decide +kernel
theorem dX4_drop_69 : decode cX4_drop 69 = .ok (.iconst 1, 1) := by decide +kernel
theorem dX4_drop_70 : decode cX4_drop 70 = .ok (.iadd, 1) := by decide +kernel
theorem dX4_drop_71 : decode cX4_drop 71 = .ok (.iaload, 1) := by decide +kernel
theorem dX4_drop_72 : decode cX4_drop 72 = .ok (.iastore, 1) := by decide +kernel
theorem dX4_drop_73 : decode cX4_drop 73 = .ok (.iinc 2 1, 3) := by decide +kernel
theorem dX4_drop_76 : decode cX4_drop 76 = .ok (.goto (-55), 3) := by decide +kernel
theorem dX4_drop_79 : decode cX4_drop 79 = .ok (.aload_n 0, 1) := by decide +kernel
theorem dX4_drop_80 : decode cX4_drop 80 = .ok (.getfield 26, 3) := by decide +kernel
theorem dX4_drop_83 : decode cX4_drop 83 = .ok (.iconst 1, 1) := by decide +kernel
theorem dX4_drop_84 : decode cX4_drop 84 = .ok (.dup2, 1) := by decide +kernel
theorem dX4_drop_85 : decode cX4_drop 85 = .ok (.iaload, 1) := by decide +kernel
theorem dX4_drop_86 : decode cX4_drop 86 = .ok (.iconst 1, 1) := by decide +kernel
theorem dX4_drop_87 : decode cX4_drop 87 = .ok (.isub, 1) := by decide +kernel
theorem dX4_drop_88 : decode cX4_drop 88 = .ok (.iastore, 1) := by decide +kernel
theorem dX4_drop_89 : decode cX4_drop 89 = .ok (.aload_n 0, 1) := by decide +kernel
theorem dX4_drop_90 : decode cX4_drop 90 = .ok (.getfield 26, 3) := by decide +kernel
theorem dX4_drop_93 : decode cX4_drop 93 = .ok (.iconst 1, 1) := by decide +kernel
theorem dX4_drop_94 : decode cX4_drop 94 = .ok (.iaload, 1) := by decide +kernel
theorem dX4_drop_95 : decode cX4_drop 95 = .ok (.ireturn, 1) := by decide +kernel
set_option maxRecDepth 20000 in
theorem ggX4_setGear_X4_isIn : GoodIn wsX4_setGear wsX4_isIn := goodIn_r _ [6] (by decide +kernel) (by decide +kernel)
set_option maxRecDepth 20000 in
theorem gX4_setGear_X4_isIn : GoodIn wsX4_setGear (va_wsS RX4 35 yX4_isIn wsX4_isIn) := goodIn_app (goodIn_of _ (by decide +kernel)) ggX4_setGear_X4_isIn
set_option maxRecDepth 20000 in
theorem ggX4_setGear_X4_no : GoodIn wsX4_setGear wsX4_no := goodIn_r _ [10, 1, 11, 12, 13, 14, 15, 16, 17, 18, 19] (by decide +kernel) (by decide +kernel)
set_option maxRecDepth 20000 in
theorem gX4_setGear_X4_no : GoodIn wsX4_setGear (wsV RX4 83 RX4 yX4_no wsX4_no) := goodIn_app (goodIn_of _ (by decide +kernel)) ggX4_setGear_X4_no
theorem dX4_setGear_0 : decode cX4_setGear 0 = .ok (.aload_n 0, 1) := by decide +kernel
theorem dX4_setGear_1 : decode cX4_setGear 1 = .ok (.iconst 0, 1) := by decide +kernel
theorem dX4_setGear_2 : decode cX4_setGear 2 = .ok (.putfield 32, 3) := by decide +kernel
theorem dX4_setGear_5 : decode cX4_setGear 5 = .ok (.iload_n 1, 1) := by decide +kernel
theorem dX4_setGear_6 : decode cX4_setGear 6 = .ok (.iconst 2, 1) := by decide +kernel
theorem dX4_setGear_7 : decode cX4_setGear 7 = .ok (.bipush 9, 2) := by decide +kernel
theorem dX4_setGear_9 : decode cX4_setGear 9 = .ok (.invokestatic 35, 3) := by decide +kernel
theorem dX4_setGear_12 : decode cX4_setGear 12 = .ok (.ifCond .ne 9, 3) := by decide +kernel
theorem dX4_setGear_15 : decode cX4_setGear 15 = .ok (.aload_n 0, 1) := by decide +kernel
theorem dX4_setGear_16 : decode cX4_setGear 16 = .ok (.iconst 1, 1) := by decide +kernel
theorem dX4_setGear_17 : decode cX4_setGear 17 = .ok (.invokevirtual 83, 3) := by decide +kernel
theorem dX4_setGear_20 : decode cX4_setGear 20 = .ok (.ireturn, 1) := by decide +kernel
theorem dX4_setGear_21 : decode cX4_setGear 21 = .ok (.aload_n 0, 1) := by decide +kernel
theorem dX4_setGear_22 : decode cX4_setGear 22 = .ok (.getfield 26, 3) := by decide +kernel
theorem dX4_setGear_25 : decode cX4_setGear 25 = .ok (.iconst 5, 1) := by decide +kernel
theorem dX4_setGear_26 : decode cX4_setGear 26 = .ok (.iaload, 1) := by decide +kernel
theorem dX4_setGear_27 : decode cX4_setGear 27 = .ok (.istore_n 2, 1) := by decide +kernel
theorem dX4_setGear_28 : decode cX4_setGear 28 = .ok (.aload_n 0, 1) := by decide +kernel
theorem dX4_setGear_29 : decode cX4_setGear 29 = .ok (.getfield 26, 3) := by decide +kernel
theorem dX4_setGear_32 : decode cX4_setGear 32 = .ok (.iconst 5, 1) := by decide +kernel
theorem dX4_setGear_33 : decode cX4_setGear 33 = .ok (.iload_n 1, 1) := by decide +kernel
theorem dX4_setGear_34 : decode cX4_setGear 34 = .ok (.iastore, 1) := by decide +kernel
theorem dX4_setGear_35 : decode cX4_setGear 35 = .ok (.iload_n 2, 1) := by decide +kernel
theorem dX4_setGear_36 : decode cX4_setGear 36 = .ok (.ireturn, 1) := by decide +kernel
set_option maxRecDepth 20000 in
theorem ggX4_setStones_X4_isIn : GoodIn wsX4_setStones wsX4_isIn := goodIn_r _ [6] (by decide +kernel) (by decide +kernel)
set_option maxRecDepth 20000 in
theorem gX4_setStones_X4_isIn : GoodIn wsX4_setStones (va_wsS RX4 35 yX4_isIn wsX4_isIn) := goodIn_app (goodIn_of _ (by decide +kernel)) ggX4_setStones_X4_isIn
set_option maxRecDepth 20000 in
theorem ggX4_setStones_X4_no : GoodIn wsX4_setStones wsX4_no := goodIn_r _ [10, 1, 11, 12, 13, 14, 15, 16, 17, 18, 19] (by decide +kernel) (by decide +kernel)
set_option maxRecDepth 20000 in
theorem gX4_setStones_X4_no : GoodIn wsX4_setStones (wsV RX4 83 RX4 yX4_no wsX4_no) := goodIn_app (goodIn_of _ (by decide +kernel)) ggX4_setStones_X4_no
theorem dX4_setStones_0 : decode cX4_setStones 0 = .ok (.aload_n 0, 1) := by decide +kernel
theorem dX4_setStones_1 : decode cX4_setStones 1 = .ok (.iconst 0, 1) := by decide +kernel
theorem dX4_setStones_2 : decode cX4_setStones 2 = .ok (.putfield 32, 3) := by decide +kernel
theorem dX4_setStones_5 : decode cX4_setStones 5 = .ok (.iload_n 1, 1) := by decide +kernel
theorem dX4_setStones_6 : decode cX4_setStones 6 = .ok (.iconst 1, 1) := by decide +kernel
theorem dX4_setStones_7 : decode cX4_setStones 7 = .ok (.iconst 4, 1) := by decide +kernel
theorem dX4_setStones_8 : decode cX4_setStones 8 = .ok (.invokestatic 35, 3) := by decide +kernel
theorem dX4_setStones_11 : decode cX4_setStones 11 = .ok (.ifCond .ne 9, 3) := by decide +kernel
theorem dX4_setStones_14 : decode cX4_setStones 14 = .ok (.aload_n 0, 1) := by decide +kernel
theorem dX4_setStones_15 : decode cX4_setStones 15 = .ok (.iconst 1, 1) := by decide +kernel
theorem dX4_setStones_16 : decode cX4_setStones 16 = .ok (.invokevirtual 83, 3) := by decide +kernel
theorem dX4_setStones_19 : decode cX4_setStones 19 = .ok (.ireturn, 1) := by decide +kernel
theorem dX4_setStones_20 : decode cX4_setStones 20 = .ok (.aload_n 0, 1) := by decide +kernel
theorem dX4_setStones_21 : decode cX4_setStones 21 = .ok (.getfield 9, 3) := by decide +kernel
theorem dX4_setStones_24 : decode cX4_setStones 24 = .ok (.istore_n 2, 1) := by decide +kernel
theorem dX4_setStones_25 : decode cX4_setStones 25 = .ok (.aload_n 0, 1) := by decide +kernel
theorem dX4_setStones_26 : decode cX4_setStones 26 = .ok (.iload_n 1, 1) := by decide +kernel
theorem dX4_setStones_27 : decode cX4_setStones 27 = .ok (.putfield 9, 3) := by decide +kernel
theorem dX4_setStones_30 : decode cX4_setStones 30 = .ok (.iload_n 2, 1) := by decide +kernel
theorem dX4_setStones_31 : decode cX4_setStones 31 = .ok (.ireturn, 1) := by decide +kernel
set_option maxRecDepth 20000 in
theorem ggX4_setMesh_X4_isIn : GoodIn wsX4_setMesh wsX4_isIn := goodIn_r _ [6] (by decide +kernel) (by decide +kernel)
set_option maxRecDepth 20000 in
theorem gX4_setMesh_X4_isIn : GoodIn wsX4_setMesh (va_wsS RX4 35 yX4_isIn wsX4_isIn) := goodIn_app (goodIn_of _ (by decide +kernel)) ggX4_setMesh_X4_isIn
set_option maxRecDepth 20000 in
theorem ggX4_setMesh_X4_no : GoodIn wsX4_setMesh wsX4_no := goodIn_r _ [10, 1, 11, 12, 13, 14, 15, 16, 17, 18, 19] (by decide +kernel) (by decide +kernel)
set_option maxRecDepth 20000 in
theorem gX4_setMesh_X4_no : GoodIn wsX4_setMesh (wsV RX4 83 RX4 yX4_no wsX4_no) := goodIn_app (goodIn_of _ (by decide +kernel)) ggX4_setMesh_X4_no
theorem dX4_setMesh_0 : decode cX4_setMesh 0 = .ok (.aload_n 0, 1) := by decide +kernel
theorem dX4_setMesh_1 : decode cX4_setMesh 1 = .ok (.iconst 0, 1) := by decide +kernel
theorem dX4_setMesh_2 : decode cX4_setMesh 2 = .ok (.putfield 32, 3) := by decide +kernel
theorem dX4_setMesh_5 : decode cX4_setMesh 5 = .ok (.iload_n 1, 1) := by decide +kernel
theorem dX4_setMesh_6 : decode cX4_setMesh 6 = .ok (.iconst 0, 1) := by decide +kernel
theorem dX4_setMesh_7 : decode cX4_setMesh 7 = .ok (.bipush 20, 2) := by decide +kernel
theorem dX4_setMesh_9 : decode cX4_setMesh 9 = .ok (.invokestatic 35, 3) := by decide +kernel
theorem dX4_setMesh_12 : decode cX4_setMesh 12 = .ok (.ifCond .ne 9, 3) := by decide +kernel
theorem dX4_setMesh_15 : decode cX4_setMesh 15 = .ok (.aload_n 0, 1) := by decide +kernel
theorem dX4_setMesh_16 : decode cX4_setMesh 16 = .ok (.iconst 1, 1) := by decide +kernel
theorem dX4_setMesh_17 : decode cX4_setMesh 17 = .ok (.invokevirtual 83, 3) := by decide +kernel
theorem dX4_setMesh_20 : decode cX4_setMesh 20 = .ok (.ireturn, 1) := by decide +kernel
theorem dX4_setMesh_21 : decode cX4_setMesh 21 = .ok (.aload_n 0, 1) := by decide +kernel
theorem dX4_setMesh_22 : decode cX4_setMesh 22 = .ok (.getfield 13, 3) := by decide +kernel
theorem dX4_setMesh_25 : decode cX4_setMesh 25 = .ok (.istore_n 2, 1) := by decide +kernel
theorem dX4_setMesh_26 : decode cX4_setMesh 26 = .ok (.aload_n 0, 1) := by decide +kernel
theorem dX4_setMesh_27 : decode cX4_setMesh 27 = .ok (.iload_n 1, 1) := by decide +kernel
theorem dX4_setMesh_28 : decode cX4_setMesh 28 = .ok (.putfield 13, 3) := by decide +kernel
theorem dX4_setMesh_31 : decode cX4_setMesh 31 = .ok (.iload_n 2, 1) := by decide +kernel
theorem dX4_setMesh_32 : decode cX4_setMesh 32 = .ok (.ireturn, 1) := by decide +kernel
set_option maxRecDepth 20000 in
theorem ggX4_addTalker_X4_isTopic : GoodIn wsX4_addTalker wsX4_isTopic := goodIn_r _ [10, 11, 12, 9, 13] (by decide +kernel) (by decide +kernel)
set_option maxRecDepth 20000 in
theorem gX4_addTalker_X4_isTopic : GoodIn wsX4_addTalker (va_wsS RX4 79 yX4_isTopic wsX4_isTopic) := goodIn_app (goodIn_of _ (by decide +kernel)) ggX4_addTalker_X4_isTopic
set_option maxRecDepth 20000 in
theorem ggX4_addTalker_X4_isIn : GoodIn wsX4_addTalker wsX4_isIn := goodIn_r _ [13] (by decide +kernel) (by decide +kernel)
set_option maxRecDepth 20000 in
theorem gX4_addTalker_X4_isIn : GoodIn wsX4_addTalker (va_wsS RX4 35 yX4_isIn wsX4_isIn) := goodIn_app (goodIn_of _ (by decide +kernel)) ggX4_addTalker_X4_isIn
set_option maxRecDepth 20000 in
theorem ggX4_addTalker_X4_no : GoodIn wsX4_addTalker wsX4_no := goodIn_r _ [17, 1, 18, 19, 20, 21, 22, 23, 24, 25, 26] (by decide +kernel) (by decide +kernel)
set_option maxRecDepth 20000 in
theorem gX4_addTalker_X4_no : GoodIn wsX4_addTalker (wsV RX4 83 RX4 yX4_no wsX4_no) := goodIn_app (goodIn_of _ (by decide +kernel)) ggX4_addTalker_X4_no
theorem dX4_addTalker_0 : decode cX4_addTalker 0 = .ok (.aload_n 0, 1) := by decide +kernel
theorem dX4_addTalker_1 : decode cX4_addTalker 1 = .ok (.iconst 0, 1) := by decide +kernel
theorem dX4_addTalker_2 : decode cX4_addTalker 2 = .ok (.putfield 32, 3) := by decide +kernel
theorem dX4_addTalker_5 : decode cX4_addTalker 5 = .ok (.iload_n 1, 1) := by decide +kernel
theorem dX4_addTalker_6 : decode cX4_addTalker 6 = .ok (.iload_n 2, 1) := by decide +kernel
theorem dX4_addTalker_7 : decode cX4_addTalker 7 = .ok (.invokestatic 79, 3) := by decide +kernel
theorem dX4_addTalker_10 : decode cX4_addTalker 10 = .ok (.ifCond .eq 13, 3) := by decide +kernel
theorem dX4_addTalker_13 : decode cX4_addTalker 13 = .ok (.iload_n 3, 1) := by decide +kernel
theorem dX4_addTalker_14 : decode cX4_addTalker 14 = .ok (.iconst 1, 1) := by decide +kernel
theorem dX4_addTalker_15 : decode cX4_addTalker 15 = .ok (.bipush 9, 2) := by decide +kernel
theorem dX4_addTalker_17 : decode cX4_addTalker 17 = .ok (.invokestatic 35, 3) := by decide +kernel
theorem dX4_addTalker_20 : decode cX4_addTalker 20 = .ok (.ifCond .ne 9, 3) := by decide +kernel
theorem dX4_addTalker_23 : decode cX4_addTalker 23 = .ok (.aload_n 0, 1) := by decide +kernel
theorem dX4_addTalker_24 : decode cX4_addTalker 24 = .ok (.iconst 1, 1) := by decide +kernel
theorem dX4_addTalker_25 : decode cX4_addTalker 25 = .ok (.invokevirtual 83, 3) := by decide +kernel
theorem dX4_addTalker_28 : decode cX4_addTalker 28 = .ok (.ireturn, 1) := by decide +kernel
theorem dX4_addTalker_29 : decode cX4_addTalker 29 = .ok (.aload_n 0, 1) := by decide +kernel
theorem dX4_addTalker_30 : decode cX4_addTalker 30 = .ok (.getfield 39, 3) := by decide +kernel
theorem dX4_addTalker_33 : decode cX4_addTalker 33 = .ok (.bipush 6, 2) := by decide +kernel
theorem dX4_addTalker_35 : decode cX4_addTalker 35 = .ok (.if_icmp .ne 9, 3) := by decide +kernel
theorem dX4_addTalker_38 : decode cX4_addTalker 38 = .ok (.aload_n 0, 1) := by decide +kernel
theorem dX4_addTalker_39 : decode cX4_addTalker 39 = .ok (.iconst 2, 1) := by decide +kernel
theorem dX4_addTalker_40 : decode cX4_addTalker 40 = .ok (.invokevirtual 83, 3) := by decide +kernel
theorem dX4_addTalker_43 : decode cX4_addTalker 43 = .ok (.ireturn, 1) := by decide +kernel
theorem dX4_addTalker_44 : decode cX4_addTalker 44 = .ok (.aload_n 0, 1) := by decide +kernel
theorem dX4_addTalker_45 : decode cX4_addTalker 45 = .ok (.getfield 16, 3) := by decide +kernel
theorem dX4_addTalker_48 : decode cX4_addTalker 48 = .ok (.aload_n 0, 1) := by decide +kernel
theorem dX4_addTalker_49 : decode cX4_addTalker 49 = .ok (.getfield 39, 3) := by decide +kernel
theorem dX4_addTalker_52 : decode cX4_addTalker 52 = .ok (.iload_n 1, 1) := by decide +kernel
theorem dX4_addTalker_53 : decode cX4_addTalker 53 = .ok (.iastore, 1) := by decide +kernel
theorem dX4_addTalker_54 : decode cX4_addTalker 54 = .ok (.aload_n 0, 1) := by decide +kernel
theorem dX4_addTalker_55 : decode cX4_addTalker 55 = .ok (.getfield 20, 3) := by decide +kernel
theorem dX4_addTalker_58 : decode cX4_addTalker 58 = .ok (.aload_n 0, 1) := by decide +kernel
theorem dX4_addTalker_59 : decode cX4_addTalker 59 = .ok (.getfield 39, 3) := by decide +kernel
theorem dX4_addTalker_62 : decode cX4_addTalker 62 = .ok (.iload_n 2, 1) := by decide +kernel
theorem dX4_addTalker_63 : decode cX4_addTalker 63 = .ok (.iastore, 1) := by decide +kernel
theorem dX4_addTalker_64 : decode cX4_addTalker 64 = .ok (.aload_n 0, 1) := by decide +kernel
theorem dX4_addTalker_65 : decode cX4_addTalker 65 = .ok (.getfield 23, 3) := by decide +kernel
theorem dX4_addTalker_68 : decode cX4_addTalker 68 = .ok (.aload_n 0, 1) := by decide +kernel
theorem dX4_addTalker_69 : decode cX4_addTalker 69 = .ok (.getfield 39, 3) := by decide +kernel
theorem dX4_addTalker_72 : decode cX4_addTalker 72 = .ok (.iload_n 3, 1) := by decide +kernel
theorem dX4_addTalker_73 : decode cX4_addTalker 73 = .ok (.iastore, 1) := by decide +kernel
theorem dX4_addTalker_74 : decode cX4_addTalker 74 = .ok (.aload_n 0, 1) := by decide +kernel
theorem dX4_addTalker_75 : decode cX4_addTalker 75 = .ok (.getfield 26, 3) := by decide +kernel
theorem dX4_addTalker_78 : decode cX4_addTalker 78 = .ok (.bipush 30, 2) := by decide +kernel
theorem dX4_addTalker_80 : decode cX4_addTalker 80 = .ok (.aload_n 0, 1) := by decide +kernel
theorem dX4_addTalker_81 : decode cX4_addTalker 81 = .ok (.getfield 39, 3) := by decide +kernel
theorem dX4_addTalker_84 : decode cX4_addTalker 84 = .ok (.iadd, 1) := by decide +kernel
theorem dX4_addTalker_85 : decode cX4_addTalker 85 = .ok (.bipush 30, 2) := by decide +kernel
theorem dX4_addTalker_87 : decode cX4_addTalker 87 = .ok (.iastore, 1) := by decide +kernel
theorem dX4_addTalker_88 : decode cX4_addTalker 88 = .ok (.aload_n 0, 1) := by decide +kernel
theorem dX4_addTalker_89 : decode cX4_addTalker 89 = .ok (.getfield 26, 3) := by decide +kernel
theorem dX4_addTalker_92 : decode cX4_addTalker 92 = .ok (.bipush 36, 2) := by decide +kernel
theorem dX4_addTalker_94 : decode cX4_addTalker 94 = .ok (.aload_n 0, 1) := by decide +kernel
theorem dX4_addTalker_95 : decode cX4_addTalker 95 = .ok (.getfield 39, 3) := by decide +kernel
theorem dX4_addTalker_98 : decode cX4_addTalker 98 = .ok (.iadd, 1) := by decide +kernel
theorem dX4_addTalker_99 : decode cX4_addTalker 99 = .ok (.iconst (-1), 1) := by decide +kernel
theorem dX4_addTalker_100 : decode cX4_addTalker 100 = .ok (.iastore, 1) := by decide +kernel
theorem dX4_addTalker_101 : decode cX4_addTalker 101 = .ok (.aload_n 0, 1) := by decide +kernel
theorem dX4_addTalker_102 : decode cX4_addTalker 102 = .ok (.dup, 1) := by decide +kernel
theorem dX4_addTalker_103 : decode cX4_addTalker 103 = .ok (.getfield 39, 3) := by decide +kernel
theorem dX4_addTalker_106 : decode cX4_addTalker 106 = .ok (.iconst 1, 1) := by decide +kernel
theorem dX4_addTalker_107 : decode cX4_addTalker 107 = .ok (.iadd, 1) := by decide +kernel
theorem dX4_addTalker_108 : decode cX4_addTalker 108 = .ok (.putfield 39, 3) := by decide +kernel
theorem dX4_addTalker_111 : decode cX4_addTalker 111 = .ok (.aload_n 0, 1) := by decide +kernel
theorem dX4_addTalker_112 : decode cX4_addTalker 112 = .ok (.getfield 39, 3) := by decide +kernel
theorem dX4_addTalker_115 : decode cX4_addTalker 115 = .ok (.iconst 1, 1) := by decide +kernel
theorem dX4_addTalker_116 : decode cX4_addTalker 116 = .ok (.isub, 1) := by decide +kernel
theorem dX4_addTalker_117 : decode cX4_addTalker 117 = .ok (.ireturn, 1) := by decide +kernel
set_option maxRecDepth 20000 in
theorem ggX4_pass__X4_isIn : GoodIn wsX4_pass_ wsX4_isIn := goodIn_r _ [5] (by decide +kernel) (by decide +kernel)
set_option maxRecDepth 20000 in
theorem gX4_pass__X4_isIn : GoodIn wsX4_pass_ (va_wsS RX4 35 yX4_isIn wsX4_isIn) := goodIn_app (goodIn_of _ (by decide +kernel)) ggX4_pass__X4_isIn
set_option maxRecDepth 20000 in
theorem ggX4_pass__X4_passes : GoodIn wsX4_pass_ wsX4_passes := goodIn_r _ [9, 10, 11, 12, 4, 13, 14, 15, 16, 17, 18, 19, 20, 21, 22, 23, 24, 25, 26, 27, 28, 29, 30, 31, 32, 33, 34, 35, 36, 37, 38, 39, 40, 41, 42, 43, 44, 45, 46, 47, 52, 53, 54, 55, 56, 57, 58, 59, 60] (by decide +kernel) (by decide +kernel)
set_option maxRecDepth 20000 in
theorem gX4_pass__X4_passes : GoodIn wsX4_pass_ (wsV RX4 94 RX4 yX4_passes wsX4_passes) := goodIn_app (goodIn_of _ (by decide +kernel)) ggX4_pass__X4_passes
set_option maxRecDepth 20000 in
theorem ggX4_pass__X4_no : GoodIn wsX4_pass_ wsX4_no := goodIn_r _ [51, 1, 52, 53, 54, 55, 56, 57, 58, 59, 60] (by decide +kernel) (by decide +kernel)
set_option maxRecDepth 20000 in
theorem gX4_pass__X4_no : GoodIn wsX4_pass_ (wsV RX4 83 RX4 yX4_no wsX4_no) := goodIn_app (goodIn_of _ (by decide +kernel)) ggX4_pass__X4_no
theorem dX4_pass__0 : decode cX4_pass_ 0 = .ok (.aload_n 0, 1) := by decide +kernel
theorem dX4_pass__1 : decode cX4_pass_ 1 = .ok (.iconst 0, 1) := by decide +kernel
theorem dX4_pass__2 : decode cX4_pass_ 2 = .ok (.putfield 32, 3) := by decide +kernel
theorem dX4_pass__5 : decode cX4_pass_ 5 = .ok (.iload_n 1, 1) := by decide +kernel
theorem dX4_pass__6 : decode cX4_pass_ 6 = .ok (.iconst 1, 1) := by decide +kernel
theorem dX4_pass__7 : decode cX4_pass_ 7 = .ok (.bipush 60, 2) := by decide +kernel
theorem dX4_pass__9 : decode cX4_pass_ 9 = .ok (.invokestatic 35, 3) := by decide +kernel
theorem dX4_pass__12 : decode cX4_pass_ 12 = .ok (.ifCond .eq 11, 3) := by decide +kernel
theorem dX4_pass__15 : decode cX4_pass_ 15 = .ok (.aload_n 0, 1) := by decide +kernel
theorem dX4_pass__16 : decode cX4_pass_ 16 = .ok (.iload_n 1, 1) := by decide +kernel
theorem dX4_pass__17 : decode cX4_pass_ 17 = .ok (.invokevirtual 94, 3) := by decide +kernel
theorem dX4_pass__20 : decode cX4_pass_ 20 = .ok (.goto 8, 3) := by decide +kernel
theorem dX4_pass__23 : decode cX4_pass_ 23 = .ok (.aload_n 0, 1) := by decide +kernel
theorem dX4_pass__24 : decode cX4_pass_ 24 = .ok (.iconst 1, 1) := by decide +kernel
theorem dX4_pass__25 : decode cX4_pass_ 25 = .ok (.invokevirtual 83, 3) := by decide +kernel
theorem dX4_pass__28 : decode cX4_pass_ 28 = .ok (.ireturn, 1) := by decide +kernel
set_option maxRecDepth 20000 in
theorem ggX4_minute_X4_ok : GoodIn wsX4_minute wsX4_ok := goodIn_r _ [6, 7, 8, 9, 10, 11, 12, 13, 14, 15, 16] (by decide +kernel) (by decide +kernel)
set_option maxRecDepth 20000 in
theorem gX4_minute_X4_ok : GoodIn wsX4_minute (wsV RX4 97 RX4 yX4_ok wsX4_ok) := goodIn_app (goodIn_of _ (by decide +kernel)) ggX4_minute_X4_ok
theorem dX4_minute_0 : decode cX4_minute 0 = .ok (.aload_n 0, 1) := by decide +kernel
theorem dX4_minute_1 : decode cX4_minute 1 = .ok (.aload_n 0, 1) := by decide +kernel
theorem dX4_minute_2 : decode cX4_minute 2 = .ok (.getfield 26, 3) := by decide +kernel
theorem dX4_minute_5 : decode cX4_minute 5 = .ok (.iconst 0, 1) := by decide +kernel
theorem dX4_minute_6 : decode cX4_minute 6 = .ok (.iaload, 1) := by decide +kernel
theorem dX4_minute_7 : decode cX4_minute 7 = .ok (.invokevirtual 97, 3) := by decide +kernel
theorem dX4_minute_10 : decode cX4_minute 10 = .ok (.ireturn, 1) := by decide +kernel
set_option maxRecDepth 20000 in
theorem ggX4_topics_X4_ok : GoodIn wsX4_topics wsX4_ok := goodIn_r _ [6, 7, 8, 9, 10, 11, 12, 13, 14, 15, 16] (by decide +kernel) (by decide +kernel)
set_option maxRecDepth 20000 in
theorem gX4_topics_X4_ok : GoodIn wsX4_topics (wsV RX4 97 RX4 yX4_ok wsX4_ok) := goodIn_app (goodIn_of _ (by decide +kernel)) ggX4_topics_X4_ok
theorem dX4_topics_0 : decode cX4_topics 0 = .ok (.aload_n 0, 1) := by decide +kernel
theorem dX4_topics_1 : decode cX4_topics 1 = .ok (.aload_n 0, 1) := by decide +kernel
theorem dX4_topics_2 : decode cX4_topics 2 = .ok (.getfield 26, 3) := by decide +kernel
theorem dX4_topics_5 : decode cX4_topics 5 = .ok (.iconst 1, 1) := by decide +kernel
theorem dX4_topics_6 : decode cX4_topics 6 = .ok (.iaload, 1) := by decide +kernel
theorem dX4_topics_7 : decode cX4_topics 7 = .ok (.invokevirtual 97, 3) := by decide +kernel
theorem dX4_topics_10 : decode cX4_topics 10 = .ok (.ireturn, 1) := by decide +kernel
set_option maxRecDepth 20000 in
theorem ggX4_sizeAt_X4_isPlace : GoodIn wsX4_sizeAt wsX4_isPlace := goodIn_r _ [7, 2, 8, 9, 6, 10, 15, 16, 17, 18, 19, 20, 21, 22, 23] (by decide +kernel) (by decide +kernel)
set_option maxRecDepth 20000 in
theorem gX4_sizeAt_X4_isPlace : GoodIn wsX4_sizeAt (wsV RX4 87 RX4 yX4_isPlace wsX4_isPlace) := goodIn_app (goodIn_of _ (by decide +kernel)) ggX4_sizeAt_X4_isPlace
set_option maxRecDepth 20000 in
theorem ggX4_sizeAt_X4_no : GoodIn wsX4_sizeAt wsX4_no := goodIn_r _ [14, 1, 15, 16, 17, 18, 19, 20, 21, 22, 23] (by decide +kernel) (by decide +kernel)
set_option maxRecDepth 20000 in
theorem gX4_sizeAt_X4_no : GoodIn wsX4_sizeAt (wsV RX4 83 RX4 yX4_no wsX4_no) := goodIn_app (goodIn_of _ (by decide +kernel)) ggX4_sizeAt_X4_no
theorem dX4_sizeAt_0 : decode cX4_sizeAt 0 = .ok (.aload_n 0, 1) := by decide +kernel
theorem dX4_sizeAt_1 : decode cX4_sizeAt 1 = .ok (.iconst 0, 1) := by decide +kernel
theorem dX4_sizeAt_2 : decode cX4_sizeAt 2 = .ok (.putfield 32, 3) := by decide +kernel
theorem dX4_sizeAt_5 : decode cX4_sizeAt 5 = .ok (.aload_n 0, 1) := by decide +kernel
theorem dX4_sizeAt_6 : decode cX4_sizeAt 6 = .ok (.iload_n 1, 1) := by decide +kernel
theorem dX4_sizeAt_7 : decode cX4_sizeAt 7 = .ok (.invokevirtual 87, 3) := by decide +kernel
theorem dX4_sizeAt_10 : decode cX4_sizeAt 10 = .ok (.ifCond .eq 15, 3) := by decide +kernel
theorem dX4_sizeAt_13 : decode cX4_sizeAt 13 = .ok (.aload_n 0, 1) := by decide +kernel
theorem dX4_sizeAt_14 : decode cX4_sizeAt 14 = .ok (.getfield 26, 3) := by decide +kernel
theorem dX4_sizeAt_17 : decode cX4_sizeAt 17 = .ok (.bipush 6, 2) := by decide +kernel
theorem dX4_sizeAt_19 : decode cX4_sizeAt 19 = .ok (.iload_n 1, 1) := by decide +kernel
theorem dX4_sizeAt_20 : decode cX4_sizeAt 20 = .ok (.iadd, 1) := by decide +kernel
theorem dX4_sizeAt_21 : decode cX4_sizeAt 21 = .ok (.iaload, 1) := by decide +kernel
theorem dX4_sizeAt_22 : decode cX4_sizeAt 22 = .ok (.goto 8, 3) := by decide +kernel
theorem dX4_sizeAt_25 : decode cX4_sizeAt 25 = .ok (.aload_n 0, 1) := by decide +kernel
theorem dX4_sizeAt_26 : decode cX4_sizeAt 26 = .ok (.iconst 1, 1) := by decide +kernel
theorem dX4_sizeAt_27 : decode cX4_sizeAt 27 = .ok (.invokevirtual 83, 3) := by decide +kernel
theorem dX4_sizeAt_30 : decode cX4_sizeAt 30 = .ok (.ireturn, 1) := by decide +kernel
set_option maxRecDepth 20000 in
theorem ggX4_kindAt_X4_isPlace : GoodIn wsX4_kindAt wsX4_isPlace := goodIn_r _ [7, 2, 8, 9, 6, 10, 15, 16, 17, 18, 19, 20, 21, 22, 23] (by decide +kernel) (by decide +kernel)
set_option maxRecDepth 20000 in
theorem gX4_kindAt_X4_isPlace : GoodIn wsX4_kindAt (wsV RX4 87 RX4 yX4_isPlace wsX4_isPlace) := goodIn_app (goodIn_of _ (by decide +kernel)) ggX4_kindAt_X4_isPlace
set_option maxRecDepth 20000 in
theorem ggX4_kindAt_X4_no : GoodIn wsX4_kindAt wsX4_no := goodIn_r _ [14, 1, 15, 16, 17, 18, 19, 20, 21, 22, 23] (by decide +kernel) (by decide +kernel)
set_option maxRecDepth 20000 in
theorem gX4_kindAt_X4_no : GoodIn wsX4_kindAt (wsV RX4 83 RX4 yX4_no wsX4_no) := goodIn_app (goodIn_of _ (by decide +kernel)) ggX4_kindAt_X4_no
theorem dX4_kindAt_0 : decode cX4_kindAt 0 = .ok (.aload_n 0, 1) := by decide +kernel
theorem dX4_kindAt_1 : decode cX4_kindAt 1 = .ok (.iconst 0, 1) := by decide +kernel
theorem dX4_kindAt_2 : decode cX4_kindAt 2 = .ok (.putfield 32, 3) := by decide +kernel
theorem dX4_kindAt_5 : decode cX4_kindAt 5 = .ok (.aload_n 0, 1) := by decide +kernel
theorem dX4_kindAt_6 : decode cX4_kindAt 6 = .ok (.iload_n 1, 1) := by decide +kernel
theorem dX4_kindAt_7 : decode cX4_kindAt 7 = .ok (.invokevirtual 87, 3) := by decide +kernel
theorem dX4_kindAt_10 : decode cX4_kindAt 10 = .ok (.ifCond .eq 15, 3) := by decide +kernel
theorem dX4_kindAt_13 : decode cX4_kindAt 13 = .ok (.aload_n 0, 1) := by decide +kernel
theorem dX4_kindAt_14 : decode cX4_kindAt 14 = .ok (.getfield 26, 3) := by decide +kernel
theorem dX4_kindAt_17 : decode cX4_kindAt 17 = .ok (.bipush 18, 2) := by decide +kernel
theorem dX4_kindAt_19 : decode cX4_kindAt 19 = .ok (.iload_n 1, 1) := by decide +kernel
theorem dX4_kindAt_20 : decode cX4_kindAt 20 = .ok (.iadd, 1) := by decide +kernel
theorem dX4_kindAt_21 : decode cX4_kindAt 21 = .ok (.iaload, 1) := by decide +kernel
theorem dX4_kindAt_22 : decode cX4_kindAt 22 = .ok (.goto 8, 3) := by decide +kernel
theorem dX4_kindAt_25 : decode cX4_kindAt 25 = .ok (.aload_n 0, 1) := by decide +kernel
theorem dX4_kindAt_26 : decode cX4_kindAt 26 = .ok (.iconst 1, 1) := by decide +kernel
theorem dX4_kindAt_27 : decode cX4_kindAt 27 = .ok (.invokevirtual 83, 3) := by decide +kernel
theorem dX4_kindAt_30 : decode cX4_kindAt 30 = .ok (.ireturn, 1) := by decide +kernel
theorem dX4_largest_0 : decode cX4_largest 0 = .ok (.aload_n 0, 1) := by decide +kernel
theorem dX4_largest_1 : decode cX4_largest 1 = .ok (.iconst 0, 1) := by decide +kernel
theorem dX4_largest_2 : decode cX4_largest 2 = .ok (.putfield 32, 3) := by decide +kernel
theorem dX4_largest_5 : decode cX4_largest 5 = .ok (.iconst (-1), 1) := by decide +kernel
theorem dX4_largest_6 : decode cX4_largest 6 = .ok (.istore_n 1, 1) := by decide +kernel
theorem dX4_largest_7 : decode cX4_largest 7 = .ok (.iconst 0, 1) := by decide +kernel
theorem dX4_largest_8 : decode cX4_largest 8 = .ok (.istore_n 2, 1) := by decide +kernel
theorem dX4_largest_9 : decode cX4_largest 9 = .ok (.iload_n 2, 1) := by decide +kernel
theorem dX4_largest_10 : decode cX4_largest 10 = .ok (.aload_n 0, 1) := by decide +kernel
theorem dX4_largest_11 : decode cX4_largest 11 = .ok (.getfield 26, 3) := by decide +kernel
theorem dX4_largest_14 : decode cX4_largest 14 = .ok (.iconst 1, 1) := by decide +kernel
theorem dX4_largest_15 : decode cX4_largest 15 = .ok (.iaload, 1) := by decide +kernel
theorem dX4_largest_16 : decode cX4_largest 16 = .ok (.if_icmp .ge 37, 3) := by decide +kernel
theorem dX4_largest_19 : decode cX4_largest 19 = .ok (.iload_n 1, 1) := by decide +kernel
theorem dX4_largest_20 : decode cX4_largest 20 = .ok (.iconst (-1), 1) := by decide +kernel
theorem dX4_largest_21 : decode cX4_largest 21 = .ok (.if_icmp .eq 24, 3) := by decide +kernel
theorem dX4_largest_24 : decode cX4_largest 24 = .ok (.aload_n 0, 1) := by decide +kernel
theorem dX4_largest_25 : decode cX4_largest 25 = .ok (.getfield 26, 3) := by decide +kernel
theorem dX4_largest_28 : decode cX4_largest 28 = .ok (.bipush 6, 2) := by decide +kernel
theorem dX4_largest_30 : decode cX4_largest 30 = .ok (.iload_n 2, 1) := by decide +kernel
theorem dX4_largest_31 : decode cX4_largest 31 = .ok (.iadd, 1) := by decide +kernel
theorem dX4_largest_32 : decode cX4_largest 32 = .ok (.iaload, 1) := by decide +kernel
theorem dX4_largest_33 : decode cX4_largest 33 = .ok (.aload_n 0, 1) := by decide +kernel
theorem dX4_largest_34 : decode cX4_largest 34 = .ok (.getfield 26, 3) := by decide +kernel
theorem dX4_largest_37 : decode cX4_largest 37 = .ok (.bipush 6, 2) := by decide +kernel
theorem dX4_largest_39 : decode cX4_largest 39 = .ok (.iload_n 1, 1) := by decide +kernel
theorem dX4_largest_40 : decode cX4_largest 40 = .ok (.iadd, 1) := by decide +kernel
theorem dX4_largest_41 : decode cX4_largest 41 = .ok (.iaload, 1) := by decide +kernel
theorem dX4_largest_42 : decode cX4_largest 42 = .ok (.if_icmp .le 5, 3) := by decide +kernel
theorem dX4_largest_45 : decode cX4_largest 45 = .ok (.iload_n 2, 1) := by decide +kernel
theorem dX4_largest_46 : decode cX4_largest 46 = .ok (.istore_n 1, 1) := by decide +kernel
theorem dX4_largest_47 : decode cX4_largest 47 = .ok (.iinc 2 1, 3) := by decide +kernel
theorem dX4_largest_50 : decode cX4_largest 50 = .ok (.goto (-41), 3) := by decide +kernel
theorem dX4_largest_53 : decode cX4_largest 53 = .ok (.iload_n 1, 1) := by decide +kernel
theorem dX4_largest_54 : decode cX4_largest 54 = .ok (.ireturn, 1) := by decide +kernel
set_option maxRecDepth 20000 in
theorem ggX4_noise_X4_noiseNow : GoodIn wsX4_noise wsX4_noiseNow := goodIn_r _ [5, 6, 12, 13, 14, 15, 16, 17, 18, 19, 20] (by decide +kernel) (by decide +kernel)
set_option maxRecDepth 20000 in
theorem gX4_noise_X4_noiseNow : GoodIn wsX4_noise (wsV RX4 48 RX4 yX4_noiseNow wsX4_noiseNow) := goodIn_app (goodIn_of _ (by decide +kernel)) ggX4_noise_X4_noiseNow
set_option maxRecDepth 20000 in
theorem ggX4_noise_X4_ok : GoodIn wsX4_noise wsX4_ok := goodIn_r _ [10, 11, 12, 13, 14, 15, 16, 17, 18, 19, 20] (by decide +kernel) (by decide +kernel)
set_option maxRecDepth 20000 in
theorem gX4_noise_X4_ok : GoodIn wsX4_noise (wsV RX4 97 RX4 yX4_ok wsX4_ok) := goodIn_app (goodIn_of _ (by decide +kernel)) ggX4_noise_X4_ok
theorem dX4_noise_0 : decode cX4_noise 0 = .ok (.aload_n 0, 1) := by decide +kernel
theorem dX4_noise_1 : decode cX4_noise 1 = .ok (.aload_n 0, 1) := by decide +kernel
theorem dX4_noise_2 : decode cX4_noise 2 = .ok (.invokevirtual 48, 3) := by decide +kernel
theorem dX4_noise_5 : decode cX4_noise 5 = .ok (.invokevirtual 97, 3) := by decide +kernel
theorem dX4_noise_8 : decode cX4_noise 8 = .ok (.ireturn, 1) := by decide +kernel
set_option maxRecDepth 20000 in
theorem ggX4_topicsOf_X4_isIn : GoodIn wsX4_topicsOf wsX4_isIn := goodIn_r _ [6] (by decide +kernel) (by decide +kernel)
set_option maxRecDepth 20000 in
theorem gX4_topicsOf_X4_isIn : GoodIn wsX4_topicsOf (va_wsS RX4 35 yX4_isIn wsX4_isIn) := goodIn_app (goodIn_of _ (by decide +kernel)) ggX4_topicsOf_X4_isIn
set_option maxRecDepth 20000 in
theorem ggX4_topicsOf_X4_no : GoodIn wsX4_topicsOf wsX4_no := goodIn_r _ [10, 1, 11, 12, 13, 14, 15, 16, 17, 18, 19] (by decide +kernel) (by decide +kernel)
set_option maxRecDepth 20000 in
theorem gX4_topicsOf_X4_no : GoodIn wsX4_topicsOf (wsV RX4 83 RX4 yX4_no wsX4_no) := goodIn_app (goodIn_of _ (by decide +kernel)) ggX4_topicsOf_X4_no
theorem dX4_topicsOf_0 : decode cX4_topicsOf 0 = .ok (.aload_n 0, 1) := by decide +kernel
theorem dX4_topicsOf_1 : decode cX4_topicsOf 1 = .ok (.iconst 0, 1) := by decide +kernel
theorem dX4_topicsOf_2 : decode cX4_topicsOf 2 = .ok (.putfield 32, 3) := by decide +kernel
theorem dX4_topicsOf_5 : decode cX4_topicsOf 5 = .ok (.iload_n 1, 1) := by decide +kernel
theorem dX4_topicsOf_6 : decode cX4_topicsOf 6 = .ok (.iconst 0, 1) := by decide +kernel
theorem dX4_topicsOf_7 : decode cX4_topicsOf 7 = .ok (.iconst 4, 1) := by decide +kernel
theorem dX4_topicsOf_8 : decode cX4_topicsOf 8 = .ok (.invokestatic 35, 3) := by decide +kernel
theorem dX4_topicsOf_11 : decode cX4_topicsOf 11 = .ok (.ifCond .ne 9, 3) := by decide +kernel
theorem dX4_topicsOf_14 : decode cX4_topicsOf 14 = .ok (.aload_n 0, 1) := by decide +kernel
theorem dX4_topicsOf_15 : decode cX4_topicsOf 15 = .ok (.iconst 1, 1) := by decide +kernel
theorem dX4_topicsOf_16 : decode cX4_topicsOf 16 = .ok (.invokevirtual 83, 3) := by decide +kernel
theorem dX4_topicsOf_19 : decode cX4_topicsOf 19 = .ok (.ireturn, 1) := by decide +kernel
theorem dX4_topicsOf_20 : decode cX4_topicsOf 20 = .ok (.iconst 0, 1) := by decide +kernel
theorem dX4_topicsOf_21 : decode cX4_topicsOf 21 = .ok (.istore_n 2, 1) := by decide +kernel
theorem dX4_topicsOf_22 : decode cX4_topicsOf 22 = .ok (.iconst 0, 1) := by decide +kernel
theorem dX4_topicsOf_23 : decode cX4_topicsOf 23 = .ok (.istore_n 3, 1) := by decide +kernel
theorem dX4_topicsOf_24 : decode cX4_topicsOf 24 = .ok (.iload_n 3, 1) := by decide +kernel
theorem dX4_topicsOf_25 : decode cX4_topicsOf 25 = .ok (.aload_n 0, 1) := by decide +kernel
theorem dX4_topicsOf_26 : decode cX4_topicsOf 26 = .ok (.getfield 26, 3) := by decide +kernel
theorem dX4_topicsOf_29 : decode cX4_topicsOf 29 = .ok (.iconst 1, 1) := by decide +kernel
theorem dX4_topicsOf_30 : decode cX4_topicsOf 30 = .ok (.iaload, 1) := by decide +kernel
theorem dX4_topicsOf_31 : decode cX4_topicsOf 31 = .ok (.if_icmp .ge 30, 3) := by decide +kernel
theorem dX4_topicsOf_34 : decode cX4_topicsOf 34 = .ok (.iload_n 2, 1) := by decide +kernel
theorem dX4_topicsOf_35 : decode cX4_topicsOf 35 = .ok (.aload_n 0, 1) := by decide +kernel
theorem dX4_topicsOf_36 : decode cX4_topicsOf 36 = .ok (.getfield 26, 3) := by decide +kernel
theorem dX4_topicsOf_39 : decode cX4_topicsOf 39 = .ok (.bipush 18, 2) := by decide +kernel
theorem dX4_topicsOf_41 : decode cX4_topicsOf 41 = .ok (.iload_n 3, 1) := by decide +kernel
theorem dX4_topicsOf_42 : decode cX4_topicsOf 42 = .ok (.iadd, 1) := by decide +kernel
theorem dX4_topicsOf_43 : decode cX4_topicsOf 43 = .ok (.iaload, 1) := by decide +kernel
theorem dX4_topicsOf_44 : decode cX4_topicsOf 44 = .ok (.iload_n 1, 1) := by decide +kernel
theorem dX4_topicsOf_45 : decode cX4_topicsOf 45 = .ok (.if_icmp .ne 7, 3) := by decide +kernel
theorem dX4_topicsOf_48 : decode cX4_topicsOf 48 = .ok (.iconst 1, 1) := by decide +kernel
theorem dX4_topicsOf_49 : decode cX4_topicsOf 49 = .ok (.goto 4, 3) := by decide +kernel
theorem dX4_topicsOf_52 : decode cX4_topicsOf 52 = .ok (.iconst 0, 1) := by decide +kernel
theorem dX4_topicsOf_53 : decode cX4_topicsOf 53 = .ok (.iadd, 1) := by decide +kernel
theorem dX4_topicsOf_54 : decode cX4_topicsOf 54 = .ok (.istore_n 2, 1) := by decide +kernel
theorem dX4_topicsOf_55 : decode cX4_topicsOf 55 = .ok (.iinc 3 1, 3) := by decide +kernel
theorem dX4_topicsOf_58 : decode cX4_topicsOf 58 = .ok (.goto (-34), 3) := by decide +kernel
theorem dX4_topicsOf_61 : decode cX4_topicsOf 61 = .ok (.iload_n 2, 1) := by decide +kernel
theorem dX4_topicsOf_62 : decode cX4_topicsOf 62 = .ok (.ireturn, 1) := by decide +kernel
set_option maxRecDepth 20000 in
theorem ggX4_turnsToNod_X4_isPlace : GoodIn wsX4_turnsToNod wsX4_isPlace := goodIn_r _ [7, 2, 8, 9, 6, 10, 15, 16, 17, 18, 19, 20, 21, 22, 23] (by decide +kernel) (by decide +kernel)
set_option maxRecDepth 20000 in
theorem gX4_turnsToNod_X4_isPlace : GoodIn wsX4_turnsToNod (wsV RX4 87 RX4 yX4_isPlace wsX4_isPlace) := goodIn_app (goodIn_of _ (by decide +kernel)) ggX4_turnsToNod_X4_isPlace
set_option maxRecDepth 20000 in
theorem ggX4_turnsToNod_X4_no : GoodIn wsX4_turnsToNod wsX4_no := goodIn_r _ [14, 1, 15, 16, 17, 18, 19, 20, 21, 22, 23] (by decide +kernel) (by decide +kernel)
set_option maxRecDepth 20000 in
theorem gX4_turnsToNod_X4_no : GoodIn wsX4_turnsToNod (wsV RX4 83 RX4 yX4_no wsX4_no) := goodIn_app (goodIn_of _ (by decide +kernel)) ggX4_turnsToNod_X4_no
theorem dX4_turnsToNod_0 : decode cX4_turnsToNod 0 = .ok (.aload_n 0, 1) := by decide +kernel
theorem dX4_turnsToNod_1 : decode cX4_turnsToNod 1 = .ok (.iconst 0, 1) := by decide +kernel
theorem dX4_turnsToNod_2 : decode cX4_turnsToNod 2 = .ok (.putfield 32, 3) := by decide +kernel
theorem dX4_turnsToNod_5 : decode cX4_turnsToNod 5 = .ok (.aload_n 0, 1) := by decide +kernel
theorem dX4_turnsToNod_6 : decode cX4_turnsToNod 6 = .ok (.iload_n 1, 1) := by decide +kernel
theorem dX4_turnsToNod_7 : decode cX4_turnsToNod 7 = .ok (.invokevirtual 87, 3) := by decide +kernel
theorem dX4_turnsToNod_10 : decode cX4_turnsToNod 10 = .ok (.ifCond .ne 9, 3) := by decide +kernel
theorem dX4_turnsToNod_13 : decode cX4_turnsToNod 13 = .ok (.aload_n 0, 1) := by decide +kernel
theorem dX4_turnsToNod_14 : decode cX4_turnsToNod 14 = .ok (.iconst 1, 1) := by decide +kernel
theorem dX4_turnsToNod_15 : decode cX4_turnsToNod 15 = .ok (.invokevirtual 83, 3) := by decide +kernel
theorem dX4_turnsToNod_18 : decode cX4_turnsToNod 18 = .ok (.ireturn, 1) := by decide +kernel
theorem dX4_turnsToNod_19 : decode cX4_turnsToNod 19 = .ok (.iconst 0, 1) := by decide +kernel
theorem dX4_turnsToNod_20 : decode cX4_turnsToNod 20 = .ok (.istore_n 2, 1) := by decide +kernel
theorem dX4_turnsToNod_21 : decode cX4_turnsToNod 21 = .ok (.aload_n 0, 1) := by decide +kernel
theorem dX4_turnsToNod_22 : decode cX4_turnsToNod 22 = .ok (.getfield 26, 3) := by decide +kernel
theorem dX4_turnsToNod_25 : decode cX4_turnsToNod 25 = .ok (.bipush 6, 2) := by decide +kernel
theorem dX4_turnsToNod_27 : decode cX4_turnsToNod 27 = .ok (.iload_n 1, 1) := by decide +kernel
theorem dX4_turnsToNod_28 : decode cX4_turnsToNod 28 = .ok (.iadd, 1) := by decide +kernel
theorem dX4_turnsToNod_29 : decode cX4_turnsToNod 29 = .ok (.iaload, 1) := by decide +kernel
theorem dX4_turnsToNod_30 : decode cX4_turnsToNod 30 = .ok (.istore_n 3, 1) := by decide +kernel
theorem dX4_turnsToNod_31 : decode cX4_turnsToNod 31 = .ok (.iload_n 3, 1) := by decide +kernel
theorem dX4_turnsToNod_32 : decode cX4_turnsToNod 32 = .ok (.iconst 1, 1) := by decide +kernel
theorem dX4_turnsToNod_33 : decode cX4_turnsToNod 33 = .ok (.if_icmp .le 18, 3) := by decide +kernel
theorem dX4_turnsToNod_36 : decode cX4_turnsToNod 36 = .ok (.iinc 2 1, 3) := by decide +kernel
theorem dX4_turnsToNod_39 : decode cX4_turnsToNod 39 = .ok (.iload_n 3, 1) := by decide +kernel
theorem dX4_turnsToNod_40 : decode cX4_turnsToNod 40 = .ok (.aload_n 0, 1) := by decide +kernel
