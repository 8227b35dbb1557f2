theorem dX11_reach_0 : decode cX11_reach 0 = .ok (.iconst 0, 1) := by decide +kernel
theorem dX11_reach_1 : decode cX11_reach 1 = .ok (.istore_n 2, 1) := by decide +kernel
theorem dX11_reach_2 : decode cX11_reach 2 = .ok (.iload_n 2, 1) := by decide +kernel
theorem dX11_reach_3 : decode cX11_reach 3 = .ok (.sipush 512, 3) := by decide +kernel
theorem dX11_reach_6 : decode cX11_reach 6 = .ok (.if_icmp .ge 16, 3) := by decide +kernel
theorem dX11_reach_9 : decode cX11_reach 9 = .ok (.aload_n 0, 1) := by decide +kernel
theorem dX11_reach_10 : decode cX11_reach 10 = .ok (.getfield 69, 3) := by decide +kernel
theorem dX11_reach_13 : decode cX11_reach 13 = .ok (.iload_n 2, 1) := by decide +kernel
theorem dX11_reach_14 : decode cX11_reach 14 = .ok (.iconst (-1), 1) := by decide +kernel
theorem dX11_reach_15 : decode cX11_reach 15 = .ok (.iastore, 1) := by decide +kernel
theorem dX11_reach_16 : decode cX11_reach 16 = .ok (.iinc 2 1, 3) := by decide +kernel
theorem dX11_reach_19 : decode cX11_reach 19 = .ok (.goto (-17), 3) := by decide +kernel
theorem dX11_reach_22 : decode cX11_reach 22 = .ok (.aload_n 0, 1) := by decide +kernel
theorem dX11_reach_23 : decode cX11_reach 23 = .ok (.getfield 69, 3) := by decide +kernel
theorem dX11_reach_26 : decode cX11_reach 26 = .ok (.iload_n 1, 1) := by decide +kernel
theorem dX11_reach_27 : decode cX11_reach 27 = .ok (.iconst 0, 1) := by decide +kernel
theorem dX11_reach_28 : decode cX11_reach 28 = .ok (.iastore, 1) := by decide +kernel
theorem dX11_reach_29 : decode cX11_reach 29 = .ok (.iconst 1, 1) := by decide +kernel
theorem dX11_reach_30 : decode cX11_reach 30 = .ok (.istore_n 2, 1) := by decide +kernel
theorem dX11_reach_31 : decode cX11_reach 31 = .ok (.iconst 0, 1) := by decide +kernel
theorem dX11_reach_32 : decode cX11_reach 32 = .ok (.istore_n 3, 1) := by decide +kernel
theorem dX11_reach_33 : decode cX11_reach 33 = .ok (.iload_n 2, 1) := by decide +kernel
theorem dX11_reach_34 : decode cX11_reach 34 = .ok (.ifCond .eq 161, 3) := by decide +kernel
theorem dX11_reach_37 : decode cX11_reach 37 = .ok (.iconst 0, 1) := by decide +kernel
theorem dX11_reach_38 : decode cX11_reach 38 = .ok (.istore_n 2, 1) := by decide +kernel
theorem dX11_reach_39 : decode cX11_reach 39 = .ok (.iconst 0, 1) := by decide +kernel
theorem dX11_reach_40 : decode cX11_reach 40 = .ok (.istore 4, 2) := by decide +kernel
theorem dX11_reach_42 : decode cX11_reach 42 = .ok (.iload 4, 2) := by decide +kernel
theorem dX11_reach_44 : decode cX11_reach 44 = .ok (.sipush 512, 3) := by decide +kernel
theorem dX11_reach_47 : decode cX11_reach 47 = .ok (.if_icmp .ge 96, 3) := by decide +kernel
theorem dX11_reach_50 : decode cX11_reach 50 = .ok (.aload_n 0, 1) := by decide +kernel
theorem dX11_reach_51 : decode cX11_reach 51 = .ok (.getfield 69, 3) := by decide +kernel
theorem dX11_reach_54 : decode cX11_reach 54 = .ok (.iload 4, 2) := by decide +kernel
theorem dX11_reach_56 : decode cX11_reach 56 = .ok (.iaload, 1) := by decide +kernel
theorem dX11_reach_57 : decode cX11_reach 57 = .ok (.ifCond .lt 6, 3) := by decide +kernel
theorem dX11_reach_60 : decode cX11_reach 60 = .ok (.goto 77, 3) := by decide +kernel
theorem dX11_reach_63 : decode cX11_reach 63 = .ok (.iconst 0, 1) := by decide +kernel
theorem dX11_reach_64 : decode cX11_reach 64 = .ok (.istore 5, 2) := by decide +kernel
theorem dX11_reach_66 : decode cX11_reach 66 = .ok (.iconst 0, 1) := by decide +kernel
theorem dX11_reach_67 : decode cX11_reach 67 = .ok (.istore 6, 2) := by decide +kernel
theorem dX11_reach_69 : decode cX11_reach 69 = .ok (.iload 6, 2) := by decide +kernel
theorem dX11_reach_71 : decode cX11_reach 71 = .ok (.bipush 10, 2) := by decide +kernel
theorem dX11_reach_73 : decode cX11_reach 73 = .ok (.if_icmp .ge 46, 3) := by decide +kernel
theorem dX11_reach_76 : decode cX11_reach 76 = .ok (.iload 5, 2) := by decide +kernel
theorem dX11_reach_78 : decode cX11_reach 78 = .ok (.ifCond .ne 41, 3) := by decide +kernel
theorem dX11_reach_81 : decode cX11_reach 81 = .ok (.iload 4, 2) := by decide +kernel
theorem dX11_reach_83 : decode cX11_reach 83 = .ok (.iload 6, 2) := by decide +kernel
theorem dX11_reach_85 : decode cX11_reach 85 = .ok (.invokestatic 292, 3) := by decide +kernel
theorem dX11_reach_88 : decode cX11_reach 88 = .ok (.istore 7, 2) := by decide +kernel
theorem dX11_reach_90 : decode cX11_reach 90 = .ok (.iload 7, 2) := by decide +kernel
theorem dX11_reach_92 : decode cX11_reach 92 = .ok (.ifCond .lt 18, 3) := by decide +kernel
theorem dX11_reach_95 : decode cX11_reach 95 = .ok (.aload_n 0, 1) := by decide +kernel
theorem dX11_reach_96 : decode cX11_reach 96 = .ok (.getfield 69, 3) := by decide +kernel
theorem dX11_reach_99 : decode cX11_reach 99 = .ok (.iload 7, 2) := by decide +kernel
theorem dX11_reach_101 : decode cX11_reach 101 = .ok (.iaload, 1) := by decide +kernel
theorem dX11_reach_102 : decode cX11_reach 102 = .ok (.iload_n 3, 1) := by decide +kernel
theorem dX11_reach_103 : decode cX11_reach 103 = .ok (.if_icmp .ne 7, 3) := by decide +kernel
theorem dX11_reach_106 : decode cX11_reach 106 = .ok (.iconst 1, 1) := by decide +kernel
theorem dX11_reach_107 : decode cX11_reach 107 = .ok (.goto 4, 3) := by decide +kernel
theorem dX11_reach_110 : decode cX11_reach 110 = .ok (.iconst 0, 1) := by decide +kernel
theorem dX11_reach_111 : decode cX11_reach 111 = .ok (.istore 5, 2) := by decide +kernel
theorem dX11_reach_113 : decode cX11_reach 113 = .ok (.iinc 6 1, 3) := by decide +kernel
theorem dX11_reach_116 : decode cX11_reach 116 = .ok (.goto (-47), 3) := by decide +kernel
theorem dX11_reach_119 : decode cX11_reach 119 = .ok (.iload 5, 2) := by decide +kernel
theorem dX11_reach_121 : decode cX11_reach 121 = .ok (.ifCond .ne 6, 3) := by decide +kernel
theorem dX11_reach_124 : decode cX11_reach 124 = .ok (.goto 13, 3) := by decide +kernel
theorem dX11_reach_127 : decode cX11_reach 127 = .ok (.aload_n 0, 1) := by decide +kernel
theorem dX11_reach_128 : decode cX11_reach 128 = .ok (.getfield 72, 3) := by decide +kernel
theorem dX11_reach_131 : decode cX11_reach 131 = .ok (.iload 4, 2) := by decide +kernel
theorem dX11_reach_133 : decode cX11_reach 133 = .ok (.iconst 1, 1) := by decide +kernel
theorem dX11_reach_134 : decode cX11_reach 134 = .ok (.iastore, 1) := by decide +kernel
theorem dX11_reach_135 : decode cX11_reach 135 = .ok (.iconst 1, 1) := by decide +kernel
theorem dX11_reach_136 : decode cX11_reach 136 = .ok (.istore_n 2, 1) := by decide +kernel
theorem dX11_reach_137 : decode cX11_reach 137 = .ok (.iinc 4 1, 3) := by decide +kernel
theorem dX11_reach_140 : decode cX11_reach 140 = .ok (.goto (-98), 3) := by decide +kernel
theorem dX11_reach_143 : decode cX11_reach 143 = .ok (.iconst 0, 1) := by decide +kernel
theorem dX11_reach_144 : decode cX11_reach 144 = .ok (.istore 4, 2) := by decide +kernel
theorem dX11_reach_146 : decode cX11_reach 146 = .ok (.iload 4, 2) := by decide +kernel
theorem dX11_reach_148 : decode cX11_reach 148 = .ok (.sipush 512, 3) := by decide +kernel
theorem dX11_reach_151 : decode cX11_reach 151 = .ok (.if_icmp .ge 38, 3) := by decide +kernel
theorem dX11_reach_154 : decode cX11_reach 154 = .ok (.aload_n 0, 1) := by decide +kernel
theorem dX11_reach_155 : decode cX11_reach 155 = .ok (.getfield 72, 3) := by decide +kernel
theorem dX11_reach_158 : decode cX11_reach 158 = .ok (.iload 4, 2) := by decide +kernel
theorem dX11_reach_160 : decode cX11_reach 160 = .ok (.iaload, 1) := by decide +kernel
theorem dX11_reach_161 : decode cX11_reach 161 = .ok (.iconst 1, 1) := by decide +kernel
theorem dX11_reach_162 : decode cX11_reach 162 = .ok (.if_icmp .ne 13, 3) := by decide +kernel
theorem dX11_reach_165 : decode cX11_reach 165 = .ok (.aload_n 0, 1) := by decide +kernel
theorem dX11_reach_166 : decode cX11_reach 166 = .ok (.getfield 69, 3) := by decide +kernel
theorem dX11_reach_169 : decode cX11_reach 169 = .ok (.iload 4, 2) := by decide +kernel
theorem dX11_reach_171 : decode cX11_reach 171 = .ok (.iload_n 3, 1) := by decide +kernel
theorem dX11_reach_172 : decode cX11_reach 172 = .ok (.iconst 1, 1) := by decide +kernel
theorem dX11_reach_173 : decode cX11_reach 173 = .ok (.iadd, 1) := by decide +kernel
theorem dX11_reach_174 : decode cX11_reach 174 = .ok (.iastore, 1) := by decide +kernel
theorem dX11_reach_175 : decode cX11_reach 175 = .ok (.aload_n 0, 1) := by decide +kernel
theorem dX11_reach_176 : decode cX11_reach 176 = .ok (.getfield 72, 3) := by decide +kernel
theorem dX11_reach_179 : decode cX11_reach 179 = .ok (.iload 4, 2) := by decide +kernel
theorem dX11_reach_181 : decode cX11_reach 181 = .ok (.iconst 0, 1) := by decide +kernel
theorem dX11_reach_182 : decode cX11_reach 182 = .ok (.iastore, 1) := by decide +kernel
theorem dX11_reach_183 : decode cX11_reach 183 = .ok (.iinc 4 1, 3) := by decide +kernel
theorem dX11_reach_186 : decode cX11_reach 186 = .ok (.goto (-40), 3) := by decide +kernel
theorem dX11_reach_189 : decode cX11_reach 189 = .ok (.iinc 3 1, 3) := by decide +kernel
theorem dX11_reach_192 : decode cX11_reach 192 = .ok (.goto (-159), 3) := by decide +kernel
theorem dX11_reach_195 : decode cX11_reach 195 = .ok (.return_, 1) := by decide +kernel
theorem dX11_firstStep_0 : decode cX11_firstStep 0 = .ok (.iconst 0, 1) := by decide +kernel
theorem dX11_firstStep_1 : decode cX11_firstStep 1 = .ok (.istore_n 2, 1) := by decide +kernel
theorem dX11_firstStep_2 : decode cX11_firstStep 2 = .ok (.iload_n 2, 1) := by decide +kernel
theorem dX11_firstStep_3 : decode cX11_firstStep 3 = .ok (.bipush 10, 2) := by decide +kernel
theorem dX11_firstStep_5 : decode cX11_firstStep 5 = .ok (.if_icmp .ge 38, 3) := by decide +kernel
theorem dX11_firstStep_8 : decode cX11_firstStep 8 = .ok (.iload_n 1, 1) := by decide +kernel
theorem dX11_firstStep_9 : decode cX11_firstStep 9 = .ok (.iload_n 2, 1) := by decide +kernel
theorem dX11_firstStep_10 : decode cX11_firstStep 10 = .ok (.invokestatic 292, 3) := by decide +kernel
theorem dX11_firstStep_13 : decode cX11_firstStep 13 = .ok (.istore_n 3, 1) := by decide +kernel
theorem dX11_firstStep_14 : decode cX11_firstStep 14 = .ok (.iload_n 3, 1) := by decide +kernel
theorem dX11_firstStep_15 : decode cX11_firstStep 15 = .ok (.ifCond .lt 22, 3) := by decide +kernel
theorem dX11_firstStep_18 : decode cX11_firstStep 18 = .ok (.aload_n 0, 1) := by decide +kernel
theorem dX11_firstStep_19 : decode cX11_firstStep 19 = .ok (.getfield 69, 3) := by decide +kernel
theorem dX11_firstStep_22 : decode cX11_firstStep 22 = .ok (.iload_n 3, 1) := by decide +kernel
theorem dX11_firstStep_23 : decode cX11_firstStep 23 = .ok (.iaload, 1) := by decide +kernel
theorem dX11_firstStep_24 : decode cX11_firstStep 24 = .ok (.aload_n 0, 1) := by decide +kernel
theorem dX11_firstStep_25 : decode cX11_firstStep 25 = .ok (.getfield 69, 3) := by decide +kernel
theorem dX11_firstStep_28 : decode cX11_firstStep 28 = .ok (.iload_n 1, 1) := by decide +kernel
theorem dX11_firstStep_29 : decode cX11_firstStep 29 = .ok (.iaload, 1) := by decide +kernel
theorem dX11_firstStep_30 : decode cX11_firstStep 30 = .ok (.iconst 1, 1) := by decide +kernel
theorem dX11_firstStep_31 : decode cX11_firstStep 31 = .ok (.isub, 1) := by decide +kernel
theorem dX11_firstStep_32 : decode cX11_firstStep 32 = .ok (.if_icmp .ne 5, 3) := by decide +kernel
theorem dX11_firstStep_35 : decode cX11_firstStep 35 = .ok (.iload_n 2, 1) := by decide +kernel
theorem dX11_firstStep_36 : decode cX11_firstStep 36 = .ok (.ireturn, 1) := by decide +kernel
theorem dX11_firstStep_37 : decode cX11_firstStep 37 = .ok (.iinc 2 1, 3) := by decide +kernel
theorem dX11_firstStep_40 : decode cX11_firstStep 40 = .ok (.goto (-38), 3) := by decide +kernel
theorem dX11_way_0 : decode cX11_way 0 = .ok (.iload_n 1, 1) := by decide +kernel
theorem dX11_way_1 : decode cX11_way 1 = .ok (.iconst 0, 1) := by decide +kernel
theorem dX11_way_2 : decode cX11_way 2 = .ok (.sipush 511, 3) := by decide +kernel
theorem dX11_way_5 : decode cX11_way 5 = .ok (.invokestatic 100, 3) := by decide +kernel
theorem dX11_way_8 : decode cX11_way 8 = .ok (.ifCond .eq 19, 3) := by decide +kernel
theorem dX11_way_11 : decode cX11_way 11 = .ok (.iload_n 2, 1) := by decide +kernel
theorem dX11_way_12 : decode cX11_way 12 = .ok (.iconst 0, 1) := by decide +kernel
theorem dX11_way_13 : decode cX11_way 13 = .ok (.sipush 511, 3) := by decide +kernel
theorem dX11_way_16 : decode cX11_way 16 = .ok (.invokestatic 100, 3) := by decide +kernel
theorem dX11_way_19 : decode cX11_way 19 = .ok (.ifCond .eq 8, 3) := by decide +kernel
theorem dX11_way_22 : decode cX11_way 22 = .ok (.iload_n 3, 1) := by decide +kernel
theorem dX11_way_23 : decode cX11_way 23 = .ok (.iconst (-1), 1) := by decide +kernel
theorem dX11_way_24 : decode cX11_way 24 = .ok (.if_icmp .ge 5, 3) := by decide +kernel
theorem dX11_way_27 : decode cX11_way 27 = .ok (.iconst (-1), 1) := by decide +kernel
theorem dX11_way_28 : decode cX11_way 28 = .ok (.ireturn, 1) := by decide +kernel
theorem dX11_way_29 : decode cX11_way 29 = .ok (.aload_n 0, 1) := by decide +kernel
theorem dX11_way_30 : decode cX11_way 30 = .ok (.iload_n 2, 1) := by decide +kernel
theorem dX11_way_31 : decode cX11_way 31 = .ok (.invokevirtual 295, 3) := by decide +kernel
theorem dX11_way_34 : decode cX11_way 34 = .ok (.aload_n 0, 1) := by decide +kernel
theorem dX11_way_35 : decode cX11_way 35 = .ok (.getfield 69, 3) := by decide +kernel
theorem dX11_way_38 : decode cX11_way 38 = .ok (.iload_n 1, 1) := by decide +kernel
theorem dX11_way_39 : decode cX11_way 39 = .ok (.iaload, 1) := by decide +kernel
theorem dX11_way_40 : decode cX11_way 40 = .ok (.ifCond .lt 8, 3) := by decide +kernel
theorem dX11_way_43 : decode cX11_way 43 = .ok (.iload_n 3, 1) := by decide +kernel
theorem dX11_way_44 : decode cX11_way 44 = .ok (.iconst (-1), 1) := by decide +kernel
theorem dX11_way_45 : decode cX11_way 45 = .ok (.if_icmp .ne 10, 3) := by decide +kernel
theorem dX11_way_48 : decode cX11_way 48 = .ok (.aload_n 0, 1) := by decide +kernel
theorem dX11_way_49 : decode cX11_way 49 = .ok (.getfield 69, 3) := by decide +kernel
theorem dX11_way_52 : decode cX11_way 52 = .ok (.iload_n 1, 1) := by decide +kernel
theorem dX11_way_53 : decode cX11_way 53 = .ok (.iaload, 1) := by decide +kernel
theorem dX11_way_54 : decode cX11_way 54 = .ok (.ireturn, 1) := by decide +kernel
theorem dX11_way_55 : decode cX11_way 55 = .ok (.iload_n 3, 1) := by decide +kernel
theorem dX11_way_56 : decode cX11_way 56 = .ok (.aload_n 0, 1) := by decide +kernel
theorem dX11_way_57 : decode cX11_way 57 = .ok (.getfield 69, 3) := by decide +kernel
theorem dX11_way_60 : decode cX11_way 60 = .ok (.iload_n 1, 1) := by decide +kernel
theorem dX11_way_61 : decode cX11_way 61 = .ok (.iaload, 1) := by decide +kernel
theorem dX11_way_62 : decode cX11_way 62 = .ok (.if_icmp .lt 5, 3) := by decide +kernel
theorem dX11_way_65 : decode cX11_way 65 = .ok (.iconst (-1), 1) := by decide +kernel
theorem dX11_way_66 : decode cX11_way 66 = .ok (.ireturn, 1) := by decide +kernel
theorem dX11_way_67 : decode cX11_way 67 = .ok (.iload_n 1, 1) := by decide +kernel
theorem dX11_way_68 : decode cX11_way 68 = .ok (.istore 4, 2) := by decide +kernel
theorem dX11_way_70 : decode cX11_way 70 = .ok (.iconst 0, 1) := by decide +kernel
theorem dX11_way_71 : decode cX11_way 71 = .ok (.istore 5, 2) := by decide +kernel
theorem dX11_way_73 : decode cX11_way 73 = .ok (.iload 5, 2) := by decide +kernel
theorem dX11_way_75 : decode cX11_way 75 = .ok (.iload_n 3, 1) := by decide +kernel
theorem dX11_way_76 : decode cX11_way 76 = .ok (.if_icmp .ge 22, 3) := by decide +kernel
theorem dX11_way_79 : decode cX11_way 79 = .ok (.iload 4, 2) := by decide +kernel
theorem dX11_way_81 : decode cX11_way 81 = .ok (.aload_n 0, 1) := by decide +kernel
theorem dX11_way_82 : decode cX11_way 82 = .ok (.iload 4, 2) := by decide +kernel
theorem dX11_way_84 : decode cX11_way 84 = .ok (.invokevirtual 298, 3) := by decide +kernel
theorem dX11_way_87 : decode cX11_way 87 = .ok (.invokestatic 292, 3) := by decide +kernel
theorem dX11_way_90 : decode cX11_way 90 = .ok (.istore 4, 2) := by decide +kernel
theorem dX11_way_92 : decode cX11_way 92 = .ok (.iinc 5 1, 3) := by decide +kernel
theorem dX11_way_95 : decode cX11_way 95 = .ok (.goto (-22), 3) := by decide +kernel
theorem dX11_way_98 : decode cX11_way 98 = .ok (.aload_n 0, 1) := by decide +kernel
theorem dX11_way_99 : decode cX11_way 99 = .ok (.iload 4, 2) := by decide +kernel
theorem dX11_way_101 : decode cX11_way 101 = .ok (.invokevirtual 298, 3) := by decide +kernel
theorem dX11_way_104 : decode cX11_way 104 = .ok (.ireturn, 1) := by decide +kernel
set_option maxRecDepth 20000 in
theorem ggX11_reach_X11_step : GoodIn wsX11_reach wsX11_step := goodIn_r _ [6] (by decide +kernel) (by decide +kernel)
set_option maxRecDepth 20000 in
theorem gX11_reach_X11_step : GoodIn wsX11_reach (va_wsS RX11 292 yX11_step wsX11_step) := goodIn_app (goodIn_of _ (by decide +kernel)) ggX11_reach_X11_step
set_option maxRecDepth 20000 in
theorem ggX11_firstStep_X11_step : GoodIn wsX11_firstStep wsX11_step := goodIn_r _ [5] (by decide +kernel) (by decide +kernel)
set_option maxRecDepth 20000 in
theorem gX11_firstStep_X11_step : GoodIn wsX11_firstStep (va_wsS RX11 292 yX11_step wsX11_step) := goodIn_app (goodIn_of _ (by decide +kernel)) ggX11_firstStep_X11_step
set_option maxRecDepth 20000 in
theorem ggX11_way_X11_isIn : GoodIn wsX11_way wsX11_isIn := goodIn_r _ [5] (by decide +kernel) (by decide +kernel)
set_option maxRecDepth 20000 in
theorem gX11_way_X11_isIn : GoodIn wsX11_way (va_wsS RX11 100 yX11_isIn wsX11_isIn) := goodIn_app (goodIn_of _ (by decide +kernel)) ggX11_way_X11_isIn
set_option maxRecDepth 20000 in
theorem ggX11_way_X11_reach : GoodIn wsX11_way wsX11_reach := goodIn_r _ [9, 1, 10, 11, 12, 4, 13, 18, 19, 20, 21, 22, 23, 24, 25, 26, 27, 28, 29, 30, 31, 32, 33, 34, 35, 36, 37, 38, 39, 40, 41, 42, 43, 44, 45, 46, 47, 48, 49, 50, 51, 52, 53, 54, 55, 56, 57, 58, 59, 60, 61, 62, 63, 64] (by decide +kernel) (by decide +kernel)
set_option maxRecDepth 20000 in
theorem gX11_way_X11_reach : GoodIn wsX11_way (wsV RX11 295 RX11 yX11_reach wsX11_reach) := goodIn_app (goodIn_of _ (by decide +kernel)) ggX11_way_X11_reach
set_option maxRecDepth 20000 in
theorem ggX11_way_X11_firstStep : GoodIn wsX11_way wsX11_firstStep := goodIn_r _ [17, 1, 11, 12, 4, 13, 18, 19, 20, 21, 22, 23, 24, 25, 26, 27, 28, 29, 30, 31, 32, 33, 34, 35, 36, 37, 38, 39, 40, 41, 42, 43, 44, 45, 46, 47, 48, 49, 50, 51, 52, 53, 54, 55, 56, 57, 58, 59, 60, 61, 62, 63, 64] (by decide +kernel) (by decide +kernel)
set_option maxRecDepth 20000 in
theorem gX11_way_X11_firstStep : GoodIn wsX11_way (wsV RX11 298 RX11 yX11_firstStep wsX11_firstStep) := goodIn_app (goodIn_of _ (by decide +kernel)) ggX11_way_X11_firstStep
set_option maxRecDepth 20000 in
theorem ggX11_way_X11_step : GoodIn wsX11_way wsX11_step := goodIn_r _ [13] (by decide +kernel) (by decide +kernel)
set_option maxRecDepth 20000 in
theorem gX11_way_X11_step : GoodIn wsX11_way (va_wsS RX11 292 yX11_step wsX11_step) := goodIn_app (goodIn_of _ (by decide +kernel)) ggX11_way_X11_step
theorem FF.ext {to : Nat} {far far' : Nat → Int32} (F : FF to far) (h : ∀ j, j < 512 → far' j = far j) : FF to far' := by
  intro s hs
  rw [h s hs]
  exact F s hs
theorem jx_neg1 {i : Int32} (h1 : -1 ≤ i) (h2 : ¬ i = -1) : ¬ i < 0 := by
  intro h
  apply h2
  have a := Int32.le_iff_toInt_le.mp h1
  have b := Int32.lt_iff_toInt_lt.mp h
  have e1 : (-1 : Int32).toInt = -1 := by decide
  have e2 : (0 : Int32).toInt = 0 := by decide
  exact Int32.toInt_inj.mp (by omega)
theorem in511 {x : Int32} {a : Nat} (ha : a < 512) (e : x = nI a) : inI x 0 511 = 1 := by
  subst e
  unfold inI
  rw [if_neg (nI_pos (by omega)), if_neg (show ¬ (511 : Int32) < nI a from nI_nlt (b := a) (a := 511) (by omega) (by decide))]
theorem out511 {x : Int32} (h : ¬ ∃ a : Nat, a < 512 ∧ x = nI a) : inI x 0 511 = 0 := by
  unfold inI
  by_cases c1 : x < 0
  · rw [if_pos c1]
  · rw [if_neg c1]
    by_cases c2 : 511 < x
    · rw [if_pos c2]
    · obtain ⟨j, hj, e⟩ := nI_of2 (M := 511) (n := 511) (by decide) c1 (Int32.not_lt.mp c2)
      exact absurd ⟨j, by omega, e⟩ h
set_option maxRecDepth 100000 in
set_option maxHeartbeats 4000000 in
/-- how far each state is from one -/
theorem c_reach (l : Launch) (D : va_G) (cI cR cM : ClassId) (sz : Nat) {to : Nat} (hto : to < 512) (mm : Nat) (fs : List Value) (a1 a2 : Nat) (hf_far : fs[36]? = some (.ref a1)) (hf_waits : fs[37]? = some (.ref a2)) (far0 wt0 : Nat → Int32) (hwt : ∀ j, j < 512 → wt0 j = 0) : Met l yX11_reach wsX11_reach ({ frames := 1, cells := 0, slots := 0, locals := 21 }) (P0 D cI cR cM [.ref mm, .int (nI to)] sz [(mm, .inr (11, fs)), (a1, .inl (cI, 512, .inl far0)), (a2, .inl (cI, 512, .inl wt0))]) (QG (S := (Nat → Int32) × (Nat → Int32)) (fun _ => none) (fun u => [(mm, .inr (11, fs)), (a1, .inl (cI, 512, .inl u.1)), (a2, .inl (cI, 512, .inl u.2))]) (fun u => FF to u.1 ∧ ∀ j, j < 512 → u.2 j = 0) D (va_A [(mm, .inr (11, fs)), (a1, .inl (cI, 512, .inl far0)), (a2, .inl (cI, 512, .inl wt0))] sz)) 0 0 (va_A [(mm, .inr (11, fs)), (a1, .inl (cI, 512, .inl far0)), (a2, .inl (cI, 512, .inl wt0))] sz) := by
  refine go (cc := cX11_reach) (maxL := 8) (ret := none) (by decide) rfl (Nat.le_of_ble_eq_true rfl) ?_
  intro p e s m below meth c ls args Q hQ hsz hx hb hr hml hts hown hlocks hnm hP hK hD hl
  subst hsz
  have hD := hD.self (sz := s.heap.size)
  generalize hAe : va_A [(mm, .inr (11, fs)), (a1, .inl (cI, 512, .inl far0)), (a2, .inl (cI, 512, .inl wt0))] s.heap.size = A at hD hQ
  have hA : ∀ q, s.heap.size ≤ q → A q := fun q h => by rw [← hAe]; exact Or.inr h
  have hS : va_S A s.heap s.heap [] := va_S.rf
  have hl : lv_has ls 8 [(0, .ref mm), (1, .int (nI to))] := hl
  refine lv_iconst (v := 0) hx hb dX11_reach_0 (by decide) ?_
  refine lv_eqi (y := nI 0) (jx_c0) ?_
  refine lv_istore_n (lv' := [(2, .int (nI 0)), (0, .ref mm), (1, .int (nI to))]) hx hb dX11_reach_1 rfl hl (by decide) rfl (fun ls hl => ?_)
  have loopA : ∀ (ddA : Nat) (k : Nat) (far : Nat → Int32) (H : Heap) (locs : List Loc) (ls : Array Slot), 512 - k < ddA → (k ≤ 512) → (∀ j, j < k → far j = -1) → va_P D vwCl [(mm, .inr (11, fs)), (a1, .inl (cI, 512, .inl far)), (a2, .inl (cI, 512, .inl wt0))] H → va_D A [(mm, .inr (11, fs)), (a1, .inl (cI, 512, .inl far)), (a2, .inl (cI, 512, .inl wt0))] → va_S A s.heap H locs → lv_has ls 8 [(0, .ref mm), (1, .int (nI to)), (2, .int (nI k))] → W p l e ({ frames := 1, cells := 0, slots := 0, locals := 21 }) s m args below meth c H locs 0 0 Q (F0 m 2 ls []) := by
    intro ddA
    induction ddA with
    | zero =>
      intro k far H locs ls hdd
      exact absurd hdd (Nat.not_lt_zero _)
    | succ ddA ihA =>
      intro k far H locs ls hdd hk hg hP hD hS hl
      refine lv_iload_n hx hb dX11_reach_2 rfl (lv_at hl 2 rfl) ?_
      refine lv_sipush (v := 512) hx hb dX11_reach_3 (by decide) ?_
      refine lv_icmp_ge (tgt := 22) hx hb dX11_reach_6 (by decide) (fun c6 => ?_) (fun c6 => ?_)
      · have hkn : k = 512 := by have := (nI_leI (a := 512) (by decide) (by omega)).mp c6; omega
        subst hkn
        refine lv_aload_n hx hb dX11_reach_22 rfl (lv_at hl 0 rfl) ?_
        refine va_get (D := D) (ci := 11) (v := .ref a1) (C := RX11) (T := TX11) (N := 47) hx hb hts (by decide +kernel) hown hK.1 hP 0 rfl rfl 36 (by decide) (hts (.fieldLink RX11 69 "JugglingHallModel" "far" "[I") (by decide +kernel)) (fun _ h9 => h9) hf_far dX11_reach_23 ?_
        refine lv_iload_n hx hb dX11_reach_26 rfl (lv_at hl 1 rfl) ?_
        refine lv_iconst (v := 0) hx hb dX11_reach_27 (by decide) ?_
        refine ast_n (k := to) hx hb hK.1 hP hD hS 1 0 rfl rfl (hto) (by decide) dX11_reach_28 (fun H locs hP hD hS => ?_)
        have hP : va_P D vwCl [(mm, .inr (11, fs)), (a1, .inl (cI, 512, .inl (upd far to 0))), (a2, .inl (cI, 512, .inl wt0))] H := hP
        have hD : va_D A [(mm, .inr (11, fs)), (a1, .inl (cI, 512, .inl (upd far to 0))), (a2, .inl (cI, 512, .inl wt0))] := hD
        refine lv_iconst (v := 1) hx hb dX11_reach_29 (by decide) ?_
        refine lv_istore_n (lv' := [(2, .int 1), (0, .ref mm), (1, .int (nI to))]) hx hb dX11_reach_30 rfl hl (by decide) rfl (fun ls hl => ?_)
        refine lv_iconst (v := 0) hx hb dX11_reach_31 (by decide) ?_
        refine lv_eqi (y := nI 0) (jx_c0) ?_
        refine lv_istore_n (lv' := [(3, .int (nI 0)), (2, .int 1), (0, .ref mm), (1, .int (nI to))]) hx hb dX11_reach_32 rfl hl (by decide) rfl (fun ls hl => ?_)
        have loopB : ∀ (ddB : Nat) (d : Nat) (far : Nat → Int32) (wt : Nat → Int32) (H : Heap) (locs : List Loc) (ls : Array Slot), 512 - d < ddB → (FI to far d) → (d + 1 ≤ cntM far 512) → (∀ j, j < 512 → wt j = 0) → va_P D vwCl [(mm, .inr (11, fs)), (a1, .inl (cI, 512, .inl far)), (a2, .inl (cI, 512, .inl wt))] H → va_D A [(mm, .inr (11, fs)), (a1, .inl (cI, 512, .inl far)), (a2, .inl (cI, 512, .inl wt))] → va_S A s.heap H locs → lv_has ls 8 [(0, .ref mm), (1, .int (nI to)), (2, .int 1), (3, .int (nI d))] → W p l e ({ frames := 1, cells := 0, slots := 0, locals := 21 }) s m args below meth c H locs 0 0 Q (F0 m 33 ls []) := by
          intro ddB
          induction ddB with
          | zero =>
            intro d far wt H locs ls hdd
            exact absurd hdd (Nat.not_lt_zero _)
          | succ ddB ihB =>
            intro d far wt H locs ls hdd hF hc hwt hP hD hS hl
            have hle := cntM_le far 512
            refine lv_iload_n hx hb dX11_reach_33 rfl (lv_at hl 2 rfl) ?_
            refine lv_if_eq (tgt := 195) hx hb dX11_reach_34 (by decide) (fun c34 => absurd c34 (by decide)) (fun c34 => ?_)
            refine lv_iconst (v := 0) hx hb dX11_reach_37 (by decide) ?_
            refine lv_istore_n (lv' := [(2, .int 0), (0, .ref mm), (1, .int (nI to)), (3, .int (nI d))]) hx hb dX11_reach_38 rfl hl (by decide) rfl (fun ls hl => ?_)
            refine lv_iconst (v := 0) hx hb dX11_reach_39 (by decide) ?_
            refine lv_istore (lv' := [(4, .int 0), (2, .int 0), (0, .ref mm), (1, .int (nI to)), (3, .int (nI d))]) hx hb dX11_reach_40 hl (by decide) rfl (fun ls hl => ?_)
            have loopC : ∀ (ddC : Nat) (mo : Int32) (wt1 : Nat → Int32) (sx : Nat) (H : Heap) (locs : List Loc) (ls : Array Slot), 512 - sx < ddC → (sx ≤ 512) → ((mo = 0 ∧ ∀ j, j < sx → ¬ mkd far d j) ∨ (mo = 1 ∧ ∃ j, j < sx ∧ mkd far d j)) → (∀ j, j < sx → mkd far d j → wt1 j = 1) → (∀ j, j < 512 → (sx ≤ j ∨ ¬ mkd far d j) → wt1 j = 0) → va_P D vwCl [(mm, .inr (11, fs)), (a1, .inl (cI, 512, .inl far)), (a2, .inl (cI, 512, .inl wt1))] H → va_D A [(mm, .inr (11, fs)), (a1, .inl (cI, 512, .inl far)), (a2, .inl (cI, 512, .inl wt1))] → va_S A s.heap H locs → lv_has ls 8 [(0, .ref mm), (1, .int (nI to)), (2, .int mo), (3, .int (nI d)), (4, .int (nI sx))] → W p l e ({ frames := 1, cells := 0, slots := 0, locals := 21 }) s m args below meth c H locs 0 0 Q (F0 m 42 ls []) := by
              intro ddC
              induction ddC with
              | zero =>
                intro mo wt1 sx H locs ls hdd
                exact absurd hdd (Nat.not_lt_zero _)
              | succ ddC ihC =>
                intro mo wt1 sx H locs ls hdd hs hm hw1 hw0 hP hD hS hl
                refine lv_iload hx hb dX11_reach_42 (lv_at hl 4 rfl) ?_
                refine lv_sipush (v := 512) hx hb dX11_reach_44 (by decide) ?_
                refine lv_icmp_ge (tgt := 143) hx hb dX11_reach_47 (by decide) (fun c47 => ?_) (fun c47 => ?_)
                · have hs9 : sx = 512 := by have := (nI_leI (a := 512) (by decide) (by omega)).mp c47; omega
                  subst hs9
                  refine lv_iconst (v := 0) hx hb dX11_reach_143 (by decide) ?_
                  refine lv_eqi (y := nI 0) (jx_c0) ?_
                  refine lv_istore (lv' := [(4, .int (nI 0)), (0, .ref mm), (1, .int (nI to)), (2, .int mo), (3, .int (nI d))]) hx hb dX11_reach_144 hl (by decide) rfl (fun ls hl => ?_)
                  have loopE : ∀ (ddE : Nat) (far1 : Nat → Int32) (wt2 : Nat → Int32) (sy : Nat) (H : Heap) (locs : List Loc) (ls : Array Slot), 512 - sy < ddE → (sy ≤ 512) → (∀ j, j < sy → (mkd far d j → far1 j = nI (d + 1)) ∧ (¬ mkd far d j → far1 j = far j) ∧ wt2 j = 0) → (∀ j, j < 512 → sy ≤ j → far1 j = far j ∧ wt2 j = wt1 j) → va_P D vwCl [(mm, .inr (11, fs)), (a1, .inl (cI, 512, .inl far1)), (a2, .inl (cI, 512, .inl wt2))] H → va_D A [(mm, .inr (11, fs)), (a1, .inl (cI, 512, .inl far1)), (a2, .inl (cI, 512, .inl wt2))] → va_S A s.heap H locs → lv_has ls 8 [(0, .ref mm), (1, .int (nI to)), (2, .int mo), (3, .int (nI d)), (4, .int (nI sy))] → W p l e ({ frames := 1, cells := 0, slots := 0, locals := 21 }) s m args below meth c H locs 0 0 Q (F0 m 146 ls []) := by
                    intro ddE
                    induction ddE with
                    | zero =>
                      intro far1 wt2 sy H locs ls hdd
                      exact absurd hdd (Nat.not_lt_zero _)
                    | succ ddE ihE =>
                      intro far1 wt2 sy H locs ls hdd hy g1 g2 hP hD hS hl
                      refine lv_iload hx hb dX11_reach_146 (lv_at hl 4 rfl) ?_
                      refine lv_sipush (v := 512) hx hb dX11_reach_148 (by decide) ?_
                      refine lv_icmp_ge (tgt := 189) hx hb dX11_reach_151 (by decide) (fun c151 => ?_) (fun c151 => ?_)
                      · have hy9 : sy = 512 := by have := (nI_leI (a := 512) (by decide) (by omega)).mp c151; omega
                        rw [hy9] at g1 g2
                        refine lv_iinc (v := nI (d + 1)) (lv' := [(3, .int (nI (d + 1))), (0, .ref mm), (1, .int (nI to)), (2, .int mo), (4, .int (nI sy))]) hx hb dX11_reach_189 hl (k := 3) rfl (jx_inc) (by decide) rfl (fun ls hl => ?_)
                        refine lv_goto (tgt := 33) hx hb dX11_reach_192 (by decide) ?_
                        rcases hm with hm | hm
                        · obtain ⟨rfl, hnone⟩ := hm
                          refine lv_iload_n hx hb dX11_reach_33 rfl (lv_at hl 3 rfl) ?_
                          refine lv_if_eq (tgt := 195) hx hb dX11_reach_34 (by decide) (fun c34 => ?_) (fun c34 => absurd (by decide) c34)
                          exact g_vret ((far1, wt2)) hx hb hr hlocks hS rfl (⟨(hF.done (by omega) hnone).ext (fun j j1 => (g1 j j1).2.1 (hnone j j1)), fun j j1 => (g1 j j1).2.2⟩) (hP.sub [0, 1, 2] rfl) (hD.sub [0, 1, 2] (by decide) rfl) hQ (Nat.le_of_ble_eq_true rfl) (Nat.le_of_ble_eq_true rfl) dX11_reach_195
                        · obtain ⟨rfl, j9, j1, j2⟩ := hm
                          have hcnt := cntM_more (b := far) (b' := far1) (n := 512) (fun t ht q => by rw [(g1 t ht).2.1 (fun z => q z.1)]; exact q) j1 j2.1 (by rw [(g1 j9 j1).1 j2]; exact nI_m1 (by omega))
                          exact ihB (d + 1) far1 wt2 _ _ _ (by omega) (hF.step (by omega) (fun s9 h9 z => (g1 s9 h9).1 z) (fun s9 h9 z => (g1 s9 h9).2.1 z)) (by omega) (fun j j3 => (g1 j j3).2.2) hP hD hS (lv_sub hl [1, 2, 3, 0] rfl)
                      · have hy9 : sy < 512 := Nat.lt_of_not_le fun q => c151 (nI_le (a := 512) q (by omega))
                        refine lv_aload_n hx hb dX11_reach_154 rfl (lv_at hl 0 rfl) ?_
                        refine va_get (D := D) (ci := 11) (v := .ref a2) (C := RX11) (T := TX11) (N := 47) hx hb hts (by decide +kernel) hown hK.1 hP 0 rfl rfl 37 (by decide) (hts (.fieldLink RX11 72 "JugglingHallModel" "waits" "[I") (by decide +kernel)) (fun _ h9 => h9) hf_waits dX11_reach_155 ?_
                        refine lv_iload hx hb dX11_reach_158 (lv_at hl 4 rfl) ?_
                        refine ald_n (k := sy) hx hb hK.1 hP 2 0 rfl rfl (hy9) (by decide) dX11_reach_160 ?_
                        rcases Classical.em (mkd far d sy) with hmk | hmk
                        · refine lv_eqi (y := 1) (by rw [(g2 sy hy9 (Nat.le_refl sy)).2]; exact hw1 sy (by omega) hmk) ?_
                          refine lv_iconst (v := 1) hx hb dX11_reach_161 (by decide) ?_
                          refine lv_icmp_ne (tgt := 175) hx hb dX11_reach_162 (by decide) (fun c162 => absurd (by decide) c162) (fun c162 => ?_)
                          refine lv_aload_n hx hb dX11_reach_165 rfl (lv_at hl 0 rfl) ?_
                          refine va_get (D := D) (ci := 11) (v := .ref a1) (C := RX11) (T := TX11) (N := 47) hx hb hts (by decide +kernel) hown hK.1 hP 0 rfl rfl 36 (by decide) (hts (.fieldLink RX11 69 "JugglingHallModel" "far" "[I") (by decide +kernel)) (fun _ h9 => h9) hf_far dX11_reach_166 ?_
                          refine lv_iload hx hb dX11_reach_169 (lv_at hl 4 rfl) ?_
                          refine lv_iload_n hx hb dX11_reach_171 rfl (lv_at hl 3 rfl) ?_
                          refine lv_iconst (v := 1) hx hb dX11_reach_172 (by decide) ?_
                          refine lv_iadd hx hb dX11_reach_173 ?_
                          refine lv_eqi (y := nI (d + 1)) (nI_1 d) ?_
                          refine ast_n (k := sy) hx hb hK.1 hP hD hS 1 0 rfl rfl (hy9) (by decide) dX11_reach_174 (fun H locs hP hD hS => ?_)
                          have hP : va_P D vwCl [(mm, .inr (11, fs)), (a1, .inl (cI, 512, .inl (upd far1 sy (nI (d + 1))))), (a2, .inl (cI, 512, .inl wt2))] H := hP
                          have hD : va_D A [(mm, .inr (11, fs)), (a1, .inl (cI, 512, .inl (upd far1 sy (nI (d + 1))))), (a2, .inl (cI, 512, .inl wt2))] := hD
                          refine lv_aload_n hx hb dX11_reach_175 rfl (lv_at hl 0 rfl) ?_
                          refine va_get (D := D) (ci := 11) (v := .ref a2) (C := RX11) (T := TX11) (N := 47) hx hb hts (by decide +kernel) hown hK.1 hP 0 rfl rfl 37 (by decide) (hts (.fieldLink RX11 72 "JugglingHallModel" "waits" "[I") (by decide +kernel)) (fun _ h9 => h9) hf_waits dX11_reach_176 ?_
                          refine lv_iload hx hb dX11_reach_179 (lv_at hl 4 rfl) ?_
                          refine lv_iconst (v := 0) hx hb dX11_reach_181 (by decide) ?_
                          refine ast_n (k := sy) hx hb hK.1 hP hD hS 2 0 rfl rfl (hy9) (by decide) dX11_reach_182 (fun H locs hP hD hS => ?_)
                          have hP : va_P D vwCl [(mm, .inr (11, fs)), (a1, .inl (cI, 512, .inl (upd far1 sy (nI (d + 1))))), (a2, .inl (cI, 512, .inl (upd wt2 sy 0)))] H := hP
                          have hD : va_D A [(mm, .inr (11, fs)), (a1, .inl (cI, 512, .inl (upd far1 sy (nI (d + 1))))), (a2, .inl (cI, 512, .inl (upd wt2 sy 0)))] := hD
                          refine lv_iinc (v := nI (sy + 1)) (lv' := [(4, .int (nI (sy + 1))), (0, .ref mm), (1, .int (nI to)), (2, .int mo), (3, .int (nI d))]) hx hb dX11_reach_183 hl (k := 4) rfl (jx_inc) (by decide) rfl (fun ls hl => ?_)
                          refine lv_goto (tgt := 146) hx hb dX11_reach_186 (by decide) ?_
                          exact ihE (upd far1 sy (nI (d + 1))) (upd wt2 sy 0) (sy + 1) _ _ _ (by omega) (hy9) (lt_s (fun j j1 => by rw [pk_un (by omega), pk_un (by omega)]; exact g1 j j1) ⟨fun _ => pk_us, fun z => absurd hmk z, pk_us⟩) (fun j j1 j2 => by rw [pk_un (by omega), pk_un (by omega)]; exact g2 j j1 (by omega)) hP hD hS (lv_sub hl [1, 2, 3, 4, 0] rfl)
                        · refine lv_eqi (y := 0) (by rw [(g2 sy hy9 (Nat.le_refl sy)).2]; exact hw0 sy hy9 (Or.inr hmk)) ?_
                          refine lv_iconst (v := 1) hx hb dX11_reach_161 (by decide) ?_
                          refine lv_icmp_ne (tgt := 175) hx hb dX11_reach_162 (by decide) (fun c162 => ?_) (fun c162 => absurd c162 (by decide))
                          refine lv_aload_n hx hb dX11_reach_175 rfl (lv_at hl 0 rfl) ?_
                          refine va_get (D := D) (ci := 11) (v := .ref a2) (C := RX11) (T := TX11) (N := 47) hx hb hts (by decide +kernel) hown hK.1 hP 0 rfl rfl 37 (by decide) (hts (.fieldLink RX11 72 "JugglingHallModel" "waits" "[I") (by decide +kernel)) (fun _ h9 => h9) hf_waits dX11_reach_176 ?_
                          refine lv_iload hx hb dX11_reach_179 (lv_at hl 4 rfl) ?_
                          refine lv_iconst (v := 0) hx hb dX11_reach_181 (by decide) ?_
                          refine ast_n (k := sy) hx hb hK.1 hP hD hS 2 0 rfl rfl (hy9) (by decide) dX11_reach_182 (fun H locs hP hD hS => ?_)
                          have hP : va_P D vwCl [(mm, .inr (11, fs)), (a1, .inl (cI, 512, .inl far1)), (a2, .inl (cI, 512, .inl (upd wt2 sy 0)))] H := hP
                          have hD : va_D A [(mm, .inr (11, fs)), (a1, .inl (cI, 512, .inl far1)), (a2, .inl (cI, 512, .inl (upd wt2 sy 0)))] := hD
                          refine lv_iinc (v := nI (sy + 1)) (lv' := [(4, .int (nI (sy + 1))), (0, .ref mm), (1, .int (nI to)), (2, .int mo), (3, .int (nI d))]) hx hb dX11_reach_183 hl (k := 4) rfl (jx_inc) (by decide) rfl (fun ls hl => ?_)
                          refine lv_goto (tgt := 146) hx hb dX11_reach_186 (by decide) ?_
                          exact ihE far1 (upd wt2 sy 0) (sy + 1) _ _ _ (by omega) (hy9) (lt_s (fun j j1 => by rw [pk_un (by omega)]; exact g1 j j1) ⟨fun z => absurd z hmk, fun _ => (g2 sy hy9 (Nat.le_refl sy)).1, pk_us⟩) (fun j j1 j2 => by rw [pk_un (by omega)]; exact g2 j j1 (by omega)) hP hD hS (lv_sub hl [1, 2, 3, 4, 0] rfl)
                  exact loopE 513 far wt1 0 _ _ _ (by omega) (by omega) (fun j q => by omega) (fun j _ _ => ⟨rfl, rfl⟩) hP hD hS (lv_sub hl [1, 2, 3, 4, 0] rfl)
                · have hs9 : sx < 512 := Nat.lt_of_not_le fun q => c47 (nI_le (a := 512) q (by omega))
                  refine lv_aload_n hx hb dX11_reach_50 rfl (lv_at hl 0 rfl) ?_
                  refine va_get (D := D) (ci := 11) (v := .ref a1) (C := RX11) (T := TX11) (N := 47) hx hb hts (by decide +kernel) hown hK.1 hP 0 rfl rfl 36 (by decide) (hts (.fieldLink RX11 69 "JugglingHallModel" "far" "[I") (by decide +kernel)) (fun _ h9 => h9) hf_far dX11_reach_51 ?_
                  refine lv_iload hx hb dX11_reach_54 (lv_at hl 4 rfl) ?_
                  refine ald_n (k := sx) hx hb hK.1 hP 1 0 rfl rfl (hs9) (by decide) dX11_reach_56 ?_
                  rcases hF sx hs9 with ⟨e0, -⟩ | ⟨m9, m1, m2, -⟩
                  · refine lv_eqi (y := (-1)) (e0) ?_
                    refine lv_if_lt (tgt := 63) hx hb dX11_reach_57 (by decide) (fun c57 => ?_) (fun c57 => absurd (by decide) c57)
                    refine lv_iconst (v := 0) hx hb dX11_reach_63 (by decide) ?_
                    refine lv_istore (lv' := [(5, .int 0), (0, .ref mm), (1, .int (nI to)), (2, .int mo), (3, .int (nI d)), (4, .int (nI sx))]) hx hb dX11_reach_64 hl (by decide) rfl (fun ls hl => ?_)
                    refine lv_iconst (v := 0) hx hb dX11_reach_66 (by decide) ?_
                    refine lv_eqi (y := nI 0) (jx_c0) ?_
                    refine lv_istore (lv' := [(6, .int (nI 0)), (5, .int 0), (0, .ref mm), (1, .int (nI to)), (2, .int mo), (3, .int (nI d)), (4, .int (nI sx))]) hx hb dX11_reach_67 hl (by decide) rfl (fun ls hl => ?_)
                    have loopD : ∀ (ddD : Nat) (hh : Nat) (H : Heap) (locs : List Loc) (ls : Array Slot), 10 - hh < ddD → (hh ≤ 10) → (∀ h1, h1 < hh → ¬ ∃ t, stp sx h1 = some t ∧ far t = nI d) → va_P D vwCl [(mm, .inr (11, fs)), (a1, .inl (cI, 512, .inl far)), (a2, .inl (cI, 512, .inl wt1))] H → va_D A [(mm, .inr (11, fs)), (a1, .inl (cI, 512, .inl far)), (a2, .inl (cI, 512, .inl wt1))] → va_S A s.heap H locs → lv_has ls 8 [(0, .ref mm), (1, .int (nI to)), (2, .int mo), (3, .int (nI d)), (4, .int (nI sx)), (5, .int 0), (6, .int (nI hh))] → W p l e ({ frames := 1, cells := 0, slots := 0, locals := 21 }) s m args below meth c H locs 0 0 Q (F0 m 69 ls []) := by
                      intro ddD
                      induction ddD with
                      | zero =>
                        intro hh H locs ls hdd
                        exact absurd hdd (Nat.not_lt_zero _)
                      | succ ddD ihD =>
                        intro hh H locs ls hdd hh9 hn9 hP hD hS hl
                        refine lv_iload hx hb dX11_reach_69 (lv_at hl 6 rfl) ?_
                        refine lv_bipush (v := 10) hx hb dX11_reach_71 (by decide) ?_
                        refine lv_icmp_ge (tgt := 119) hx hb dX11_reach_73 (by decide) (fun c73 => ?_) (fun c73 => ?_)
                        · have h10 : hh = 10 := by have := (nI_leI (a := 10) (by decide) (by omega)).mp c73; omega
                          have hnm : ¬ mkd far d sx := fun ⟨_, h1, t, e1, e2⟩ => hn9 h1 (by have := stp_h e1; omega) ⟨t, e1, e2⟩
                          refine lv_iload hx hb dX11_reach_119 (lv_at hl 5 rfl) ?_
                          refine lv_if_ne (tgt := 127) hx hb dX11_reach_121 (by decide) (fun c121 => absurd (by decide) c121) (fun c121 => ?_)
                          refine lv_goto (tgt := 137) hx hb dX11_reach_124 (by decide) ?_
                          refine lv_iinc (v := nI (sx + 1)) (lv' := [(4, .int (nI (sx + 1))), (0, .ref mm), (1, .int (nI to)), (2, .int mo), (3, .int (nI d)), (5, .int 0), (6, .int (nI hh))]) hx hb dX11_reach_137 hl (k := 4) rfl (jx_inc) (by decide) rfl (fun ls hl => ?_)
                          refine lv_goto (tgt := 42) hx hb dX11_reach_140 (by decide) ?_
                          exact ihC mo wt1 (sx + 1) _ _ _ (by omega) (hs9) (hm.imp (fun q => ⟨q.1, lt_s q.2 hnm⟩) (fun ⟨q, j, j1, j2⟩ => ⟨q, j, by omega, j2⟩)) (lt_s hw1 (fun z => absurd z hnm)) (fun j j1 j2 => hw0 j j1 (j2.elim (fun z => Or.inl (by omega)) Or.inr)) hP hD hS (lv_sub hl [1, 2, 3, 4, 0] rfl)
                        · have h10 : hh < 10 := Nat.lt_of_not_le fun q => c73 (nI_le (a := 10) q (by omega))
                          refine lv_iload hx hb dX11_reach_76 (lv_at hl 5 rfl) ?_
                          refine lv_if_ne (tgt := 119) hx hb dX11_reach_78 (by decide) (fun c78 => absurd (by decide) c78) (fun c78 => ?_)
                          refine lv_iload hx hb dX11_reach_81 (lv_at hl 4 rfl) ?_
                          refine lv_iload hx hb dX11_reach_83 (lv_at hl 6 rfl) ?_
                          refine ro (va_runS (As := [.int (nI sx), .int (nI hh)]) (rest := []) ⟨hx, hb, hml, hown, hts⟩ (c_step l D cI cR cM _ hs9 h10) (va_cwS 2 hts gX11_reach_X11_step rfl rfl rfl (by decide +kernel) ⟨Nat.le_of_ble_eq_true rfl, Nat.le_of_ble_eq_true rfl⟩) (pre_S hK va_P_nil (va_D_nil (A := fun _ => True))) rfl rfl hl.1 rfl (lv_room (Nat.le_of_ble_eq_true rfl)) dX11_reach_85 ⟨Nat.le_of_ble_eq_true rfl, Nat.le_of_ble_eq_true rfl⟩) hS hA hP (fun H locs hP hS => ?_)
                          rcases est : stp sx hh with _ | t
                          · refine lv_eqi (y := (-1)) (stI_none est) ?_
                            refine lv_istore (lv' := [(7, .int (-1)), (0, .ref mm), (1, .int (nI to)), (2, .int mo), (3, .int (nI d)), (4, .int (nI sx)), (5, .int 0), (6, .int (nI hh))]) hx hb dX11_reach_88 hl (by decide) rfl (fun ls hl => ?_)
                            refine lv_iload hx hb dX11_reach_90 (lv_at hl 0 rfl) ?_
                            refine lv_if_lt (tgt := 110) hx hb dX11_reach_92 (by decide) (fun c92 => ?_) (fun c92 => absurd (by decide) c92)
                            refine lv_iconst (v := 0) hx hb dX11_reach_110 (by decide) ?_
                            refine lv_istore (lv' := [(5, .int 0), (7, .int (-1)), (0, .ref mm), (1, .int (nI to)), (2, .int mo), (3, .int (nI d)), (4, .int (nI sx)), (6, .int (nI hh))]) hx hb dX11_reach_111 hl (by decide) rfl (fun ls hl => ?_)
                            refine lv_iinc (v := nI (hh + 1)) (lv' := [(6, .int (nI (hh + 1))), (5, .int 0), (7, .int (-1)), (0, .ref mm), (1, .int (nI to)), (2, .int mo), (3, .int (nI d)), (4, .int (nI sx))]) hx hb dX11_reach_113 hl (k := 7) rfl (jx_inc) (by decide) rfl (fun ls hl => ?_)
                            refine lv_goto (tgt := 69) hx hb dX11_reach_116 (by decide) ?_
                            exact ihD (hh + 1) _ _ _ (by omega) (h10) (lt_s hn9 (fun ⟨t, e1, _⟩ => by rw [est] at e1; cases e1)) hP hD hS (lv_sub hl [3, 4, 5, 6, 7, 1, 0] rfl)
                          · have htl : t < 512 := stp_lt hs9 est
                            refine lv_eqi (y := nI t) (stI_some est) ?_
                            refine lv_istore (lv' := [(7, .int (nI t)), (0, .ref mm), (1, .int (nI to)), (2, .int mo), (3, .int (nI d)), (4, .int (nI sx)), (5, .int 0), (6, .int (nI hh))]) hx hb dX11_reach_88 hl (by decide) rfl (fun ls hl => ?_)
                            refine lv_iload hx hb dX11_reach_90 (lv_at hl 0 rfl) ?_
                            refine lv_if_lt (tgt := 110) hx hb dX11_reach_92 (by decide) (fun c92 => absurd c92 (nI_pos (by omega))) (fun c92 => ?_)
                            refine lv_aload_n hx hb dX11_reach_95 rfl (lv_at hl 1 rfl) ?_
                            refine va_get (D := D) (ci := 11) (v := .ref a1) (C := RX11) (T := TX11) (N := 47) hx hb hts (by decide +kernel) hown hK.1 hP 0 rfl rfl 36 (by decide) (hts (.fieldLink RX11 69 "JugglingHallModel" "far" "[I") (by decide +kernel)) (fun _ h9 => h9) hf_far dX11_reach_96 ?_
                            refine lv_iload hx hb dX11_reach_99 (lv_at hl 0 rfl) ?_
                            refine ald_n (k := t) hx hb hK.1 hP 1 0 rfl rfl (htl) (by decide) dX11_reach_101 ?_
                            refine lv_iload_n hx hb dX11_reach_102 rfl (lv_at hl 4 rfl) ?_
                            refine lv_icmp_ne (tgt := 110) hx hb dX11_reach_103 (by decide) (fun c103 => ?_) (fun c103 => ?_)
                            · refine lv_iconst (v := 0) hx hb dX11_reach_110 (by decide) ?_
                              refine lv_istore (lv' := [(5, .int 0), (7, .int (nI t)), (0, .ref mm), (1, .int (nI to)), (2, .int mo), (3, .int (nI d)), (4, .int (nI sx)), (6, .int (nI hh))]) hx hb dX11_reach_111 hl (by decide) rfl (fun ls hl => ?_)
                              refine lv_iinc (v := nI (hh + 1)) (lv' := [(6, .int (nI (hh + 1))), (5, .int 0), (7, .int (nI t)), (0, .ref mm), (1, .int (nI to)), (2, .int mo), (3, .int (nI d)), (4, .int (nI sx))]) hx hb dX11_reach_113 hl (k := 7) rfl (jx_inc) (by decide) rfl (fun ls hl => ?_)
                              refine lv_goto (tgt := 69) hx hb dX11_reach_116 (by decide) ?_
                              exact ihD (hh + 1) _ _ _ (by omega) (h10) (lt_s hn9 (fun ⟨t9, e1, e2⟩ => by rw [est] at e1; cases e1; exact c103 e2)) hP hD hS (lv_sub hl [3, 4, 5, 6, 7, 1, 0] rfl)
                            · have hmk : mkd far d sx := ⟨e0, hh, t, est, c103⟩
                              refine lv_iconst (v := 1) hx hb dX11_reach_106 (by decide) ?_
                              refine lv_goto (tgt := 111) hx hb dX11_reach_107 (by decide) ?_
                              refine lv_istore (lv' := [(5, .int 1), (7, .int (nI t)), (0, .ref mm), (1, .int (nI to)), (2, .int mo), (3, .int (nI d)), (4, .int (nI sx)), (6, .int (nI hh))]) hx hb dX11_reach_111 hl (by decide) rfl (fun ls hl => ?_)
                              refine lv_iinc (v := nI (hh + 1)) (lv' := [(6, .int (nI (hh + 1))), (5, .int 1), (7, .int (nI t)), (0, .ref mm), (1, .int (nI to)), (2, .int mo), (3, .int (nI d)), (4, .int (nI sx))]) hx hb dX11_reach_113 hl (k := 7) rfl (jx_inc) (by decide) rfl (fun ls hl => ?_)
                              refine lv_goto (tgt := 69) hx hb dX11_reach_116 (by decide) ?_
                              refine lv_iload hx hb dX11_reach_69 (lv_at hl 0 rfl) ?_
                              refine lv_bipush (v := 10) hx hb dX11_reach_71 (by decide) ?_
                              refine lv_icmp_ge (tgt := 119) hx hb dX11_reach_73 (by decide) (fun c73_1 => ?_) (fun c73_1 => ?_)
                              · have := c73
                                refine lv_iload hx hb dX11_reach_119 (lv_at hl 1 rfl) ?_
                                refine lv_if_ne (tgt := 127) hx hb dX11_reach_121 (by decide) (fun c121 => ?_) (fun c121 => absurd c121 (by decide))
                                refine lv_aload_n hx hb dX11_reach_127 rfl (lv_at hl 3 rfl) ?_
                                refine va_get (D := D) (ci := 11) (v := .ref a2) (C := RX11) (T := TX11) (N := 47) hx hb hts (by decide +kernel) hown hK.1 hP 0 rfl rfl 37 (by decide) (hts (.fieldLink RX11 72 "JugglingHallModel" "waits" "[I") (by decide +kernel)) (fun _ h9 => h9) hf_waits dX11_reach_128 ?_
                                refine lv_iload hx hb dX11_reach_131 (lv_at hl 7 rfl) ?_
                                refine lv_iconst (v := 1) hx hb dX11_reach_133 (by decide) ?_
                                refine ast_n (k := sx) hx hb hK.1 hP hD hS 2 0 rfl rfl (hs9) (by decide) dX11_reach_134 (fun H locs hP hD hS => ?_)
                                have hP : va_P D vwCl [(mm, .inr (11, fs)), (a1, .inl (cI, 512, .inl far)), (a2, .inl (cI, 512, .inl (upd wt1 sx 1)))] H := hP
                                have hD : va_D A [(mm, .inr (11, fs)), (a1, .inl (cI, 512, .inl far)), (a2, .inl (cI, 512, .inl (upd wt1 sx 1)))] := hD
                                refine lv_iconst (v := 1) hx hb dX11_reach_135 (by decide) ?_
                                refine lv_istore_n (lv' := [(2, .int 1), (6, .int (nI (hh + 1))), (5, .int 1), (7, .int (nI t)), (0, .ref mm), (1, .int (nI to)), (3, .int (nI d)), (4, .int (nI sx))]) hx hb dX11_reach_136 rfl hl (by decide) rfl (fun ls hl => ?_)
                                refine lv_iinc (v := nI (sx + 1)) (lv' := [(4, .int (nI (sx + 1))), (2, .int 1), (6, .int (nI (hh + 1))), (5, .int 1), (7, .int (nI t)), (0, .ref mm), (1, .int (nI to)), (3, .int (nI d))]) hx hb dX11_reach_137 hl (k := 7) rfl (jx_inc) (by decide) rfl (fun ls hl => ?_)
                                refine lv_goto (tgt := 42) hx hb dX11_reach_140 (by decide) ?_
                                exact ihC 1 (upd wt1 sx 1) (sx + 1) _ _ _ (by omega) (hs9) (Or.inr ⟨rfl, sx, by omega, hmk⟩) (lt_s (fun j j1 j2 => by rw [pk_un (by omega)]; exact hw1 j j1 j2) (fun _ => pk_us)) (fun j j1 j2 => by
                                      have hne : j ≠ sx := fun q => by subst q; exact j2.elim (fun z => by omega) (fun z => z hmk)
                                      rw [pk_un hne]
                                      exact hw0 j j1 (j2.elim (fun z => Or.inl (by omega)) Or.inr)) hP hD hS (lv_sub hl [5, 6, 1, 7, 0] rfl)
                              · have := c73
                                refine lv_iload hx hb dX11_reach_76 (lv_at hl 1 rfl) ?_
                                refine lv_if_ne (tgt := 119) hx hb dX11_reach_78 (by decide) (fun c78 => ?_) (fun c78 => absurd c78 (by decide))
                                refine lv_iload hx hb dX11_reach_119 (lv_at hl 1 rfl) ?_
                                refine lv_if_ne (tgt := 127) hx hb dX11_reach_121 (by decide) (fun c121 => ?_) (fun c121 => absurd c121 (by decide))
                                refine lv_aload_n hx hb dX11_reach_127 rfl (lv_at hl 3 rfl) ?_
                                refine va_get (D := D) (ci := 11) (v := .ref a2) (C := RX11) (T := TX11) (N := 47) hx hb hts (by decide +kernel) hown hK.1 hP 0 rfl rfl 37 (by decide) (hts (.fieldLink RX11 72 "JugglingHallModel" "waits" "[I") (by decide +kernel)) (fun _ h9 => h9) hf_waits dX11_reach_128 ?_
                                refine lv_iload hx hb dX11_reach_131 (lv_at hl 7 rfl) ?_
                                refine lv_iconst (v := 1) hx hb dX11_reach_133 (by decide) ?_
                                refine ast_n (k := sx) hx hb hK.1 hP hD hS 2 0 rfl rfl (hs9) (by decide) dX11_reach_134 (fun H locs hP hD hS => ?_)
                                have hP : va_P D vwCl [(mm, .inr (11, fs)), (a1, .inl (cI, 512, .inl far)), (a2, .inl (cI, 512, .inl (upd wt1 sx 1)))] H := hP
                                have hD : va_D A [(mm, .inr (11, fs)), (a1, .inl (cI, 512, .inl far)), (a2, .inl (cI, 512, .inl (upd wt1 sx 1)))] := hD
                                refine lv_iconst (v := 1) hx hb dX11_reach_135 (by decide) ?_
                                refine lv_istore_n (lv' := [(2, .int 1), (6, .int (nI (hh + 1))), (5, .int 1), (7, .int (nI t)), (0, .ref mm), (1, .int (nI to)), (3, .int (nI d)), (4, .int (nI sx))]) hx hb dX11_reach_136 rfl hl (by decide) rfl (fun ls hl => ?_)
                                refine lv_iinc (v := nI (sx + 1)) (lv' := [(4, .int (nI (sx + 1))), (2, .int 1), (6, .int (nI (hh + 1))), (5, .int 1), (7, .int (nI t)), (0, .ref mm), (1, .int (nI to)), (3, .int (nI d))]) hx hb dX11_reach_137 hl (k := 7) rfl (jx_inc) (by decide) rfl (fun ls hl => ?_)
                                refine lv_goto (tgt := 42) hx hb dX11_reach_140 (by decide) ?_
                                exact ihC 1 (upd wt1 sx 1) (sx + 1) _ _ _ (by omega) (hs9) (Or.inr ⟨rfl, sx, by omega, hmk⟩) (lt_s (fun j j1 j2 => by rw [pk_un (by omega)]; exact hw1 j j1 j2) (fun _ => pk_us)) (fun j j1 j2 => by
                                      have hne : j ≠ sx := fun q => by subst q; exact j2.elim (fun z => by omega) (fun z => z hmk)
                                      rw [pk_un hne]
                                      exact hw0 j j1 (j2.elim (fun z => Or.inl (by omega)) Or.inr)) hP hD hS (lv_sub hl [5, 6, 1, 7, 0] rfl)
                    exact loopD 11 0 _ _ _ (by omega) (by omega) (fun h1 q => by omega) hP hD hS (lv_sub hl [2, 3, 4, 5, 6, 1, 0] rfl)
                  · refine lv_eqi (y := nI m9) (m2) ?_
                    have hnm : ¬ mkd far d sx := fun q => nI_m1 (by omega) (m2.symm.trans q.1)
                    refine lv_if_lt (tgt := 63) hx hb dX11_reach_57 (by decide) (fun c57 => absurd c57 (nI_pos (by omega))) (fun c57 => ?_)
                    refine lv_goto (tgt := 137) hx hb dX11_reach_60 (by decide) ?_
                    refine lv_iinc (v := nI (sx + 1)) (lv' := [(4, .int (nI (sx + 1))), (0, .ref mm), (1, .int (nI to)), (2, .int mo), (3, .int (nI d))]) hx hb dX11_reach_137 hl (k := 4) rfl (jx_inc) (by decide) rfl (fun ls hl => ?_)
                    refine lv_goto (tgt := 42) hx hb dX11_reach_140 (by decide) ?_
                    exact ihC mo wt1 (sx + 1) _ _ _ (by omega) (hs9) (hm.imp (fun q => ⟨q.1, lt_s q.2 hnm⟩) (fun ⟨q, j, j1, j2⟩ => ⟨q, j, by omega, j2⟩)) (lt_s hw1 (fun z => absurd z hnm)) (fun j j1 j2 => hw0 j j1 (j2.elim (fun z => Or.inl (by omega)) Or.inr)) hP hD hS (lv_sub hl [1, 2, 3, 4, 0] rfl)
            exact loopC 513 0 wt 0 _ _ _ (by omega) (by omega) (Or.inl ⟨rfl, fun j q => by omega⟩) (fun j q => by omega) (fun j j1 _ => hwt j j1) hP hD hS (lv_sub hl [2, 3, 1, 4, 0] rfl)
        exact loopB 513 0 (upd far to 0) wt0 _ _ _ (by omega) (FI.init hg) (by rw [cntM_upd hto (hg to hto) (by decide)]; omega) (hwt) hP hD hS (lv_sub hl [2, 3, 1, 0] rfl)
      · have hkn : k < 512 := Nat.lt_of_not_le fun q => c6 (nI_le (a := 512) q (by omega))
        refine lv_aload_n hx hb dX11_reach_9 rfl (lv_at hl 0 rfl) ?_
        refine va_get (D := D) (ci := 11) (v := .ref a1) (C := RX11) (T := TX11) (N := 47) hx hb hts (by decide +kernel) hown hK.1 hP 0 rfl rfl 36 (by decide) (hts (.fieldLink RX11 69 "JugglingHallModel" "far" "[I") (by decide +kernel)) (fun _ h9 => h9) hf_far dX11_reach_10 ?_
        refine lv_iload_n hx hb dX11_reach_13 rfl (lv_at hl 2 rfl) ?_
        refine lv_iconst (v := (-1)) hx hb dX11_reach_14 (by decide) ?_
        refine ast_n (k := k) hx hb hK.1 hP hD hS 1 0 rfl rfl (hkn) (by decide) dX11_reach_15 (fun H locs hP hD hS => ?_)
        have hP : va_P D vwCl [(mm, .inr (11, fs)), (a1, .inl (cI, 512, .inl (upd far k (-1)))), (a2, .inl (cI, 512, .inl wt0))] H := hP
        have hD : va_D A [(mm, .inr (11, fs)), (a1, .inl (cI, 512, .inl (upd far k (-1)))), (a2, .inl (cI, 512, .inl wt0))] := hD
        refine lv_iinc (v := nI (k + 1)) (lv' := [(2, .int (nI (k + 1))), (0, .ref mm), (1, .int (nI to))]) hx hb dX11_reach_16 hl (k := 2) rfl (jx_inc) (by decide) rfl (fun ls hl => ?_)
        refine lv_goto (tgt := 2) hx hb dX11_reach_19 (by decide) ?_
        exact ihA (k + 1) (upd far k (-1)) _ _ _ (by omega) (hkn) (fun j hj => by
              by_cases q : j = k
              · rw [q, pk_us]
              · rw [pk_un q]; exact hg j (by omega)) hP hD hS (lv_sub hl [1, 2, 0] rfl)
  exact loopA 513 0 far0 _ _ _ (by omega) (by omega) (fun j hj => by omega) hP hD hS (lv_sub hl [1, 2, 0] rfl)
set_option maxRecDepth 100000 in
set_option maxHeartbeats 4000000 in
/-- the first height that leads nearer -/
theorem c_firstStep (l : Launch) (D : va_G) (cI cR cM : ClassId) (sz : Nat) {x h0 : Nat} (hx5 : x < 512) (mm : Nat) (fs : List Value) (a1 : Nat) (hf_far : fs[36]? = some (.ref a1)) (far : Nat → Int32) (hfo : FirstOk far x h0) : Met l yX11_firstStep wsX11_firstStep ({ frames := 1, cells := 0, slots := 0, locals := 21 }) (P0 D cI cR cM [.ref mm, .int (nI x)] sz [(mm, .inr (11, fs)), (a1, .inl (cI, 512, .inl far))]) (QE (some (.int (nI h0))) sz) 0 0 (va_A [] sz) := by
  refine go (cc := cX11_firstStep) (maxL := 4) (ret := (some .int)) (by decide) rfl (Nat.le_of_ble_eq_true rfl) ?_
  intro p e s m below meth c ls args Q hQ hsz hx hb hr hml hts hown hlocks hnm hP hK hD hl
  subst hsz
  have hS : va_S (va_A [] s.heap.size) s.heap s.heap [] := va_S.rf
  have hA : ∀ q, s.heap.size ≤ q → va_A [] s.heap.size q := fun q h => Or.inr h
  have hl : lv_has ls 4 [(0, .ref mm), (1, .int (nI x))] := hl
  refine lv_iconst (v := 0) hx hb dX11_firstStep_0 (by decide) ?_
  refine lv_eqi (y := nI 0) (jx_c0) ?_
  refine lv_istore_n (lv' := [(2, .int (nI 0)), (0, .ref mm), (1, .int (nI x))]) hx hb dX11_firstStep_1 rfl hl (by decide) rfl (fun ls hl => ?_)
  have loop : ∀ (dd : Nat) (h : Nat) (H : Heap) (locs : List Loc) (ls : Array Slot), 10 - h < dd → (h ≤ h0) → va_P D vwCl [(mm, .inr (11, fs)), (a1, .inl (cI, 512, .inl far))] H → va_S (va_A [] s.heap.size) s.heap H locs → lv_has ls 4 [(0, .ref mm), (1, .int (nI x)), (2, .int (nI h))] → W p l e ({ frames := 1, cells := 0, slots := 0, locals := 21 }) s m args below meth c H locs 0 0 Q (F0 m 2 ls []) := by
    intro dd
    induction dd with
    | zero =>
      intro h H locs ls hdd
      exact absurd hdd (Nat.not_lt_zero _)
    | succ dd ih =>
      intro h H locs ls hdd hh hP hS hl
      have h10 : h < 10 := Nat.lt_of_le_of_lt hh hfo.1
      refine lv_iload_n hx hb dX11_firstStep_2 rfl (lv_at hl 2 rfl) ?_
      refine lv_bipush (v := 10) hx hb dX11_firstStep_3 (by decide) ?_
      refine lv_icmp_ge (tgt := 43) hx hb dX11_firstStep_5 (by decide) (fun c5 => absurd c5 (nI_ge (b := 10) h10 (by decide))) (fun c5 => ?_)
      refine lv_iload_n hx hb dX11_firstStep_8 rfl (lv_at hl 1 rfl) ?_
      refine lv_iload_n hx hb dX11_firstStep_9 rfl (lv_at hl 2 rfl) ?_
      refine ro (va_runS (As := [.int (nI x), .int (nI h)]) (rest := []) ⟨hx, hb, hml, hown, hts⟩ (c_step l D cI cR cM _ hx5 h10) (va_cwS 2 hts gX11_firstStep_X11_step rfl rfl rfl (by decide +kernel) ⟨Nat.le_of_ble_eq_true rfl, Nat.le_of_ble_eq_true rfl⟩) (pre_S hK va_P_nil (va_D_nil (A := fun _ => True))) rfl rfl hl.1 rfl (lv_room (Nat.le_of_ble_eq_true rfl)) dX11_firstStep_10 ⟨Nat.le_of_ble_eq_true rfl, Nat.le_of_ble_eq_true rfl⟩) hS hA hP (fun H locs hP hS => ?_)
      rcases est : stp x h with _ | t
      · refine lv_eqi (y := (-1)) (stI_none est) ?_
        refine lv_istore_n (lv' := [(3, .int (-1)), (0, .ref mm), (1, .int (nI x)), (2, .int (nI h))]) hx hb dX11_firstStep_13 rfl hl (by decide) rfl (fun ls hl => ?_)
        refine lv_iload_n hx hb dX11_firstStep_14 rfl (lv_at hl 0 rfl) ?_
        refine lv_if_lt (tgt := 37) hx hb dX11_firstStep_15 (by decide) (fun c15 => ?_) (fun c15 => absurd (by decide) c15)
        refine lv_iinc (v := nI (h + 1)) (lv' := [(2, .int (nI (h + 1))), (3, .int (-1)), (0, .ref mm), (1, .int (nI x))]) hx hb dX11_firstStep_37 hl (k := 3) rfl (jx_inc) (by decide) rfl (fun ls hl => ?_)
        refine lv_goto (tgt := 2) hx hb dX11_firstStep_40 (by decide) ?_
        exact ih (h + 1) _ _ _ (by omega) (Nat.lt_of_le_of_ne hh (fun q => by subst q; obtain ⟨t9, e1, -⟩ := hfo.2.1; rw [est] at e1; cases e1)) hP hS (lv_sub hl [2, 3, 0] rfl)
      · have htl : t < 512 := stp_lt hx5 est
        refine lv_eqi (y := nI t) (stI_some est) ?_
        refine lv_istore_n (lv' := [(3, .int (nI t)), (0, .ref mm), (1, .int (nI x)), (2, .int (nI h))]) hx hb dX11_firstStep_13 rfl hl (by decide) rfl (fun ls hl => ?_)
        refine lv_iload_n hx hb dX11_firstStep_14 rfl (lv_at hl 0 rfl) ?_
        refine lv_if_lt (tgt := 37) hx hb dX11_firstStep_15 (by decide) (fun c15 => absurd c15 (nI_pos (by omega))) (fun c15 => ?_)
        refine lv_aload_n hx hb dX11_firstStep_18 rfl (lv_at hl 1 rfl) ?_
        refine va_get (D := D) (ci := 11) (v := .ref a1) (C := RX11) (T := TX11) (N := 47) hx hb hts (by decide +kernel) hown hK.1 hP 0 rfl rfl 36 (by decide) (hts (.fieldLink RX11 69 "JugglingHallModel" "far" "[I") (by decide +kernel)) (fun _ h9 => h9) hf_far dX11_firstStep_19 ?_
        refine lv_iload_n hx hb dX11_firstStep_22 rfl (lv_at hl 0 rfl) ?_
        refine ald_n (k := t) hx hb hK.1 hP 1 0 rfl rfl (htl) (by decide) dX11_firstStep_23 ?_
        refine lv_aload_n hx hb dX11_firstStep_24 rfl (lv_at hl 1 rfl) ?_
        refine va_get (D := D) (ci := 11) (v := .ref a1) (C := RX11) (T := TX11) (N := 47) hx hb hts (by decide +kernel) hown hK.1 hP 0 rfl rfl 36 (by decide) (hts (.fieldLink RX11 69 "JugglingHallModel" "far" "[I") (by decide +kernel)) (fun _ h9 => h9) hf_far dX11_firstStep_25 ?_
        refine lv_iload_n hx hb dX11_firstStep_28 rfl (lv_at hl 2 rfl) ?_
        refine ald_n (k := x) hx hb hK.1 hP 1 0 rfl rfl (hx5) (by decide) dX11_firstStep_29 ?_
        refine lv_iconst (v := 1) hx hb dX11_firstStep_30 (by decide) ?_
        refine lv_isub hx hb dX11_firstStep_31 ?_
        refine lv_icmp_ne (tgt := 37) hx hb dX11_firstStep_32 (by decide) (fun c32 => ?_) (fun c32 => ?_)
        · refine lv_iinc (v := nI (h + 1)) (lv' := [(2, .int (nI (h + 1))), (3, .int (nI t)), (0, .ref mm), (1, .int (nI x))]) hx hb dX11_firstStep_37 hl (k := 3) rfl (jx_inc) (by decide) rfl (fun ls hl => ?_)
          refine lv_goto (tgt := 2) hx hb dX11_firstStep_40 (by decide) ?_
          exact ih (h + 1) _ _ _ (by omega) (Nat.lt_of_le_of_ne hh (fun q => by subst q; obtain ⟨t9, e1, e2⟩ := hfo.2.1; rw [est] at e1; cases e1; exact c32 e2)) hP hS (lv_sub hl [2, 3, 0] rfl)
        · refine lv_iload_n hx hb dX11_firstStep_35 rfl (lv_at hl 3 rfl) ?_
          exact ro_iret hx hb hr hlocks hS (by rw [show h = h0 from Nat.le_antisymm hh (Nat.le_of_not_lt fun q => hfo.2.2 h q ⟨t, est, c32⟩)]) hQ dX11_firstStep_36
  exact loop 11 0 _ _ _ (by omega) (Nat.zero_le h0) hP hS (lv_sub hl [1, 2, 0] rfl)
set_option maxRecDepth 100000 in
set_option maxHeartbeats 4000000 in
/-- the reference: way -/
theorem c_mway (l : Launch) (D : va_G) (cI cR cM : ClassId) (sz : Nat) (f t i : Int32) (mm : Nat) (fs : List Value) (a1 a2 : Nat) (hf_far : fs[36]? = some (.ref a1)) (hf_waits : fs[37]? = some (.ref a2)) (far0 wt0 : Nat → Int32) (hwt : ∀ j, j < 512 → wt0 j = 0) : Met l yX11_way wsX11_way ({ frames := 2, cells := 0, slots := 0, locals := 48 }) (P0 D cI cR cM [.ref mm, .int f, .int t, .int i] sz [(mm, .inr (11, fs)), (a1, .inl (cI, 512, .inl far0)), (a2, .inl (cI, 512, .inl wt0))]) (QG (S := Int32 × (Nat → Int32) × (Nat → Int32)) (fun u => some (.int u.1)) (fun u => [(mm, .inr (11, fs)), (a1, .inl (cI, 512, .inl u.2.1)), (a2, .inl (cI, 512, .inl u.2.2))]) (fun u => WA f t i u.1 ∧ ∀ j, j < 512 → u.2.2 j = 0) D (va_A [(mm, .inr (11, fs)), (a1, .inl (cI, 512, .inl far0)), (a2, .inl (cI, 512, .inl wt0))] sz)) 0 0 (va_A [(mm, .inr (11, fs)), (a1, .inl (cI, 512, .inl far0)), (a2, .inl (cI, 512, .inl wt0))] sz) := by
  refine go (cc := cX11_way) (maxL := 6) (ret := (some .int)) (by decide) rfl (Nat.le_of_ble_eq_true rfl) ?_
  intro p e s m below meth c ls args Q hQ hsz hx hb hr hml hts hown hlocks hnm hP hK hD hl
  subst hsz
  have hD := hD.self (sz := s.heap.size)
  generalize hAe : va_A [(mm, .inr (11, fs)), (a1, .inl (cI, 512, .inl far0)), (a2, .inl (cI, 512, .inl wt0))] s.heap.size = A at hD hQ
  have hA : ∀ q, s.heap.size ≤ q → A q := fun q h => by rw [← hAe]; exact Or.inr h
  have hS : va_S A s.heap s.heap [] := va_S.rf
  have hl : lv_has ls 6 [(0, .ref mm), (1, .int f), (2, .int t), (3, .int i)] := hl
  have hcase : (∃ a b : Nat, a < 512 ∧ b < 512 ∧ f = nI a ∧ t = nI b) ∨ (¬ (∃ a : Nat, a < 512 ∧ f = nI a)) ∨ ((∃ a : Nat, a < 512 ∧ f = nI a) ∧ ¬ ∃ b : Nat, b < 512 ∧ t = nI b) := by
    rcases Classical.em (∃ a : Nat, a < 512 ∧ f = nI a) with ⟨a, h1, h2⟩ | h1
    · rcases Classical.em (∃ b : Nat, b < 512 ∧ t = nI b) with ⟨b, h3, h4⟩ | h3
      · exact Or.inl ⟨a, b, h1, h3, h2, h4⟩
      · exact Or.inr (Or.inr ⟨⟨a, h1, h2⟩, h3⟩)
    · exact Or.inr (Or.inl h1)
  rcases hcase with hin9 | hin9 | hin9
  · obtain ⟨a, b, ha, hb5, rfl, rfl⟩ := hin9
    refine lv_iload_n hx hb dX11_way_0 rfl (lv_at hl 1 rfl) ?_
    refine lv_iconst (v := 0) hx hb dX11_way_1 (by decide) ?_
    refine lv_sipush (v := 511) hx hb dX11_way_2 (by decide) ?_
    refine ro (va_runS (As := [.int (nI a), .int 0, .int 511]) (rest := []) ⟨hx, hb, hml, hown, hts⟩ (c_isIn l D cI cR cM _ (nI a) 0 511) (va_cwS 3 hts gX11_way_X11_isIn rfl rfl rfl (by decide +kernel) ⟨Nat.le_of_ble_eq_true rfl, Nat.le_of_ble_eq_true rfl⟩) (pre_S hK va_P_nil (va_D_nil (A := fun _ => True))) rfl rfl hl.1 rfl (lv_room (Nat.le_of_ble_eq_true rfl)) dX11_way_5 ⟨Nat.le_of_ble_eq_true rfl, Nat.le_of_ble_eq_true rfl⟩) hS hA hP (fun H locs hP hS => ?_)
    refine lv_eqi (y := 1) (in511 ha rfl) ?_
    refine lv_if_eq (tgt := 27) hx hb dX11_way_8 (by decide) (fun c8 => absurd c8 (by decide)) (fun c8 => ?_)
    refine lv_iload_n hx hb dX11_way_11 rfl (lv_at hl 2 rfl) ?_
    refine lv_iconst (v := 0) hx hb dX11_way_12 (by decide) ?_
    refine lv_sipush (v := 511) hx hb dX11_way_13 (by decide) ?_
    refine ro (va_runS (As := [.int (nI b), .int 0, .int 511]) (rest := []) ⟨hx, hb, hml, hown, hts⟩ (c_isIn l D cI cR cM _ (nI b) 0 511) (va_cwS 3 hts gX11_way_X11_isIn rfl rfl rfl (by decide +kernel) ⟨Nat.le_of_ble_eq_true rfl, Nat.le_of_ble_eq_true rfl⟩) (pre_S hK va_P_nil (va_D_nil (A := fun _ => True))) rfl rfl hl.1 rfl (lv_room (Nat.le_of_ble_eq_true rfl)) dX11_way_16 ⟨Nat.le_of_ble_eq_true rfl, Nat.le_of_ble_eq_true rfl⟩) hS hA hP (fun H locs hP hS => ?_)
    refine lv_eqi (y := 1) (in511 hb5 rfl) ?_
    refine lv_if_eq (tgt := 27) hx hb dX11_way_19 (by decide) (fun c19 => absurd c19 (by decide)) (fun c19 => ?_)
    refine lv_iload_n hx hb dX11_way_22 rfl (lv_at hl 3 rfl) ?_
    refine lv_iconst (v := (-1)) hx hb dX11_way_23 (by decide) ?_
    refine lv_icmp_ge (tgt := 29) hx hb dX11_way_24 (by decide) (fun c24 => ?_) (fun c24 => ?_)
    · refine lv_aload_n hx hb dX11_way_29 rfl (lv_at hl 0 rfl) ?_
      refine lv_iload_n hx hb dX11_way_30 rfl (lv_at hl 2 rfl) ?_
      have hPc := hP.sub (ws' := [(mm, .inr (11, fs)), (a1, .inl (cI, 512, .inl far0)), (a2, .inl (cI, 512, .inl wt0))]) [0, 1, 2] rfl
      have hDc := hD.sub (ws' := [(mm, .inr (11, fs)), (a1, .inl (cI, 512, .inl far0)), (a2, .inl (cI, 512, .inl wt0))]) [0, 1, 2] (by decide) rfl
      refine call_g (wr := []) (va_runV (As := [.int (nI b)]) (rest := []) ⟨hx, hb, hml, hown, hts⟩ (c_reach l D cI cR cM _ hb5 mm fs a1 a2 hf_far hf_waits far0 wt0 hwt) (cwV 1 hts gX11_way_X11_reach rfl rfl rfl (by decide +kernel) ⟨Nat.le_of_ble_eq_true rfl, Nat.le_of_ble_eq_true rfl⟩) (pre_V hK hPc hDc 0 11 rfl rfl) rfl rfl hl.1 rfl (lv_room (Nat.le_of_ble_eq_true rfl)) dX11_way_31 ⟨Nat.le_of_ble_eq_true rfl, Nat.le_of_ble_eq_true rfl⟩) hP hD hS hA [0, 1, 2] [] rfl rfl (by decide) (by decide) (fun u1 H locs hw hP hD hS => ?_)
      obtain ⟨far, wt⟩ := u1
      obtain ⟨hFF, hwt1⟩ := hw
      have hP : va_P D vwCl [(mm, .inr (11, fs)), (a1, .inl (cI, 512, .inl far)), (a2, .inl (cI, 512, .inl wt))] H := hP
      have hD : va_D A [(mm, .inr (11, fs)), (a1, .inl (cI, 512, .inl far)), (a2, .inl (cI, 512, .inl wt))] := hD
      refine lv_aload_n hx hb dX11_way_34 rfl (lv_at hl 0 rfl) ?_
      refine va_get (D := D) (ci := 11) (v := .ref a1) (C := RX11) (T := TX11) (N := 47) hx hb hts (by decide +kernel) hown hK.1 hP 0 rfl rfl 36 (by decide) (hts (.fieldLink RX11 69 "JugglingHallModel" "far" "[I") (by decide +kernel)) (fun _ h9 => h9) hf_far dX11_way_35 ?_
      refine lv_iload_n hx hb dX11_way_38 rfl (lv_at hl 1 rfl) ?_
      refine ald_n (k := a) hx hb hK.1 hP 1 0 rfl rfl (ha) (by decide) dX11_way_39 ?_
      rcases hFF a ha with ⟨e0, hnp⟩ | ⟨m9, m1, m2, -, -⟩
      · refine lv_eqi (y := (-1)) (e0) ?_
        refine lv_if_lt (tgt := 48) hx hb dX11_way_40 (by decide) (fun c40 => ?_) (fun c40 => absurd (by decide) c40)
        refine lv_aload_n hx hb dX11_way_48 rfl (lv_at hl 0 rfl) ?_
        refine va_get (D := D) (ci := 11) (v := .ref a1) (C := RX11) (T := TX11) (N := 47) hx hb hts (by decide +kernel) hown hK.1 hP 0 rfl rfl 36 (by decide) (hts (.fieldLink RX11 69 "JugglingHallModel" "far" "[I") (by decide +kernel)) (fun _ h9 => h9) hf_far dX11_way_49 ?_
        refine lv_iload_n hx hb dX11_way_52 rfl (lv_at hl 1 rfl) ?_
        refine ald_n (k := a) hx hb hK.1 hP 1 0 rfl rfl (ha) (by decide) dX11_way_53 ?_
        refine lv_eqi (y := (-1)) (e0) ?_
        exact g_iret ((-1, far, wt)) hx hb hr hlocks hS rfl (⟨Or.inr ⟨a, b, ha, hb5, rfl, rfl, Or.inl ⟨fun ⟨hs, e9⟩ => hnp hs.length ⟨hs, e9, rfl⟩, rfl⟩⟩, hwt1⟩) (hP.sub [0, 1, 2] rfl) (hD.sub [0, 1, 2] (by decide) rfl) hQ (Nat.le_of_ble_eq_true rfl) (Nat.le_of_ble_eq_true rfl) dX11_way_54
      · refine lv_eqi (y := nI m9) (m2) ?_
        obtain ⟨hs, hl1, hg1, hway⟩ := hFF.way ha m1 m2
        refine lv_if_lt (tgt := 48) hx hb dX11_way_40 (by decide) (fun c40 => absurd c40 (nI_pos (by omega))) (fun c40 => ?_)
        refine lv_iload_n hx hb dX11_way_43 rfl (lv_at hl 3 rfl) ?_
        refine lv_iconst (v := (-1)) hx hb dX11_way_44 (by decide) ?_
        refine lv_icmp_ne (tgt := 55) hx hb dX11_way_45 (by decide) (fun c45 => ?_) (fun c45 => ?_)
        · refine lv_iload_n hx hb dX11_way_55 rfl (lv_at hl 3 rfl) ?_
          refine lv_aload_n hx hb dX11_way_56 rfl (lv_at hl 0 rfl) ?_
          refine va_get (D := D) (ci := 11) (v := .ref a1) (C := RX11) (T := TX11) (N := 47) hx hb hts (by decide +kernel) hown hK.1 hP 0 rfl rfl 36 (by decide) (hts (.fieldLink RX11 69 "JugglingHallModel" "far" "[I") (by decide +kernel)) (fun _ h9 => h9) hf_far dX11_way_57 ?_
          refine lv_iload_n hx hb dX11_way_60 rfl (lv_at hl 1 rfl) ?_
          refine ald_n (k := a) hx hb hK.1 hP 1 0 rfl rfl (ha) (by decide) dX11_way_61 ?_
          refine lv_eqi (y := nI m9) (m2) ?_
          refine lv_icmp_lt (tgt := 67) hx hb dX11_way_62 (by decide) (fun c62 => ?_) (fun c62 => ?_)
          · have hi0 : ¬ i < 0 := jx_neg1 c24 c45
            obtain ⟨j9, hj8, rfl, -⟩ := pk_mu (L := m9) hi0 (fun q => absurd c62 (Int32.not_lt.mpr q)) (by omega)
            refine lv_iload_n hx hb dX11_way_67 rfl (lv_at hl 1 rfl) ?_
            refine lv_istore (lv' := [(4, .int (nI a)), (0, .ref mm), (1, .int (nI a)), (2, .int (nI b)), (3, .int (nI j9))]) hx hb dX11_way_68 hl (by decide) rfl (fun ls hl => ?_)
            refine lv_iconst (v := 0) hx hb dX11_way_70 (by decide) ?_
            refine lv_eqi (y := nI 0) (jx_c0) ?_
            refine lv_istore (lv' := [(5, .int (nI 0)), (4, .int (nI a)), (0, .ref mm), (1, .int (nI a)), (2, .int (nI b)), (3, .int (nI j9))]) hx hb dX11_way_71 hl (by decide) rfl (fun ls hl => ?_)
            have loopw : ∀ (ddw : Nat) (x : Nat) (k : Nat) (rest : List Nat) (H : Heap) (locs : List Loc) (ls : Array Slot), j9 - k < ddw → (x < 512) → (k ≤ j9) → (rest.length + k = hs.length) → (hs.drop k = rest) → (gr b far x rest) → va_P D vwCl [(mm, .inr (11, fs)), (a1, .inl (cI, 512, .inl far)), (a2, .inl (cI, 512, .inl wt))] H → va_D A [(mm, .inr (11, fs)), (a1, .inl (cI, 512, .inl far)), (a2, .inl (cI, 512, .inl wt))] → va_S A s.heap H locs → lv_has ls 6 [(0, .ref mm), (1, .int (nI a)), (2, .int (nI b)), (3, .int (nI j9)), (4, .int (nI x)), (5, .int (nI k))] → W p l e ({ frames := 2, cells := 0, slots := 0, locals := 48 }) s m args below meth c H locs 0 0 Q (F0 m 73 ls []) := by
              intro ddw
              induction ddw with
              | zero =>
                intro x k rest H locs ls hdd
                exact absurd hdd (Nat.not_lt_zero _)
              | succ ddw ihw =>
                intro x k rest H locs ls hdd hx5 hk hr1 hr2 hr3 hP hD hS hl
                rcases rest with _ | ⟨h1, rest1⟩
                · exact absurd hr1 (by simp; omega)
                obtain ⟨hfo, t1, ht1, hst, -, hr4⟩ := hr3
                refine lv_iload hx hb dX11_way_73 (lv_at hl 5 rfl) ?_
                refine lv_iload_n hx hb dX11_way_75 rfl (lv_at hl 3 rfl) ?_
                refine lv_icmp_ge (tgt := 98) hx hb dX11_way_76 (by decide) (fun c76 => ?_) (fun c76 => ?_)
                · have hkj : k = j9 := by have := (nI_leI (by omega) (by omega)).mp c76; omega
                  subst hkj
                  refine lv_aload_n hx hb dX11_way_98 rfl (lv_at hl 0 rfl) ?_
                  refine lv_iload hx hb dX11_way_99 (lv_at hl 4 rfl) ?_
                  have hPc := hP.sub (ws' := [(mm, .inr (11, fs)), (a1, .inl (cI, 512, .inl far))]) [0, 1] rfl
                  have hDc := hD.sub (ws' := [(mm, .inr (11, fs)), (a1, .inl (cI, 512, .inl far))]) [0, 1] (by decide) rfl
                  refine ro (va_runV (As := [.int (nI x)]) (rest := []) ⟨hx, hb, hml, hown, hts⟩ (c_firstStep l D cI cR cM _ hx5 mm fs a1 hf_far far hfo) (cwV 1 hts gX11_way_X11_firstStep rfl rfl rfl (by decide +kernel) ⟨Nat.le_of_ble_eq_true rfl, Nat.le_of_ble_eq_true rfl⟩) (pre_V hK hPc hDc 0 11 rfl rfl) rfl rfl hl.1 rfl (lv_room (Nat.le_of_ble_eq_true rfl)) dX11_way_101 ⟨Nat.le_of_ble_eq_true rfl, Nat.le_of_ble_eq_true rfl⟩) hS hA hP (fun H locs hP hS => ?_)
                  exact g_iret ((nI h1, far, wt)) hx hb hr hlocks hS rfl (⟨Or.inr ⟨a, b, ha, hb5, rfl, rfl, Or.inr ⟨hs, hway, by
                      unfold wayOf
                      rw [if_neg (nI_m1 (by omega)), if_neg (nI_pos (by omega)), if_neg (nI_ge (by omega) (by omega)), nI_clamp (by omega)]
                      have hgd : hs.getD k 0 = h1 := by
                        have := congrArg List.head? hr2
                        rw [List.head?_drop] at this
                        simp [List.getD, this]
                      rw [hgd]⟩⟩, hwt1⟩) (hP.sub [0, 1, 2] rfl) (hD.sub [0, 1, 2] (by decide) rfl) hQ (Nat.le_of_ble_eq_true rfl) (Nat.le_of_ble_eq_true rfl) dX11_way_104
                · have hkj : k < j9 := Nat.lt_of_not_le fun q => c76 (nI_le q (by omega))
                  refine lv_iload hx hb dX11_way_79 (lv_at hl 4 rfl) ?_
                  refine lv_aload_n hx hb dX11_way_81 rfl (lv_at hl 0 rfl) ?_
                  refine lv_iload hx hb dX11_way_82 (lv_at hl 4 rfl) ?_
                  have hPc := hP.sub (ws' := [(mm, .inr (11, fs)), (a1, .inl (cI, 512, .inl far))]) [0, 1] rfl
                  have hDc := hD.sub (ws' := [(mm, .inr (11, fs)), (a1, .inl (cI, 512, .inl far))]) [0, 1] (by decide) rfl
                  refine ro (va_runV (As := [.int (nI x)]) (rest := [.int (nI x)]) ⟨hx, hb, hml, hown, hts⟩ (c_firstStep l D cI cR cM _ hx5 mm fs a1 hf_far far hfo) (cwV 1 hts gX11_way_X11_firstStep rfl rfl rfl (by decide +kernel) ⟨Nat.le_of_ble_eq_true rfl, Nat.le_of_ble_eq_true rfl⟩) (pre_V hK hPc hDc 0 11 rfl rfl) rfl rfl hl.1 rfl (lv_room (Nat.le_of_ble_eq_true rfl)) dX11_way_84 ⟨Nat.le_of_ble_eq_true rfl, Nat.le_of_ble_eq_true rfl⟩) hS hA hP (fun H locs hP hS => ?_)
                  refine ro (va_runS (As := [.int (nI x), .int (nI h1)]) (rest := []) ⟨hx, hb, hml, hown, hts⟩ (c_step l D cI cR cM _ hx5 hfo.1) (va_cwS 2 hts gX11_way_X11_step rfl rfl rfl (by decide +kernel) ⟨Nat.le_of_ble_eq_true rfl, Nat.le_of_ble_eq_true rfl⟩) (pre_S hK va_P_nil (va_D_nil (A := fun _ => True))) rfl rfl hl.1 rfl (lv_room (Nat.le_of_ble_eq_true rfl)) dX11_way_87 ⟨Nat.le_of_ble_eq_true rfl, Nat.le_of_ble_eq_true rfl⟩) hS hA hP (fun H locs hP hS => ?_)
                  refine lv_eqi (y := nI t1) (stI_some hst) ?_
                  refine lv_istore (lv' := [(4, .int (nI t1)), (0, .ref mm), (1, .int (nI a)), (2, .int (nI b)), (3, .int (nI j9)), (5, .int (nI k))]) hx hb dX11_way_90 hl (by decide) rfl (fun ls hl => ?_)
                  refine lv_iinc (v := nI (k + 1)) (lv' := [(5, .int (nI (k + 1))), (4, .int (nI t1)), (0, .ref mm), (1, .int (nI a)), (2, .int (nI b)), (3, .int (nI j9))]) hx hb dX11_way_92 hl (k := 5) rfl (jx_inc) (by decide) rfl (fun ls hl => ?_)
                  refine lv_goto (tgt := 73) hx hb dX11_way_95 (by decide) ?_
                  exact ihw t1 (k + 1) rest1 _ _ _ (by omega) (ht1) (hkj) (by simp at hr1; omega) (by have := congrArg (List.drop 1) hr2; simpa [List.drop_drop, Nat.add_comm] using this) (hr4) hP hD hS (lv_sub hl [2, 3, 4, 5, 1, 0] rfl)
            exact loopw (j9 + 1) a 0 hs _ _ _ (by omega) (ha) (Nat.zero_le _) (by omega) (by simp) (hg1) hP hD hS (lv_sub hl [2, 3, 4, 5, 1, 0] rfl)
          · refine lv_iconst (v := (-1)) hx hb dX11_way_65 (by decide) ?_
            exact g_iret ((-1, far, wt)) hx hb hr hlocks hS rfl (⟨Or.inr ⟨a, b, ha, hb5, rfl, rfl, Or.inr ⟨hs, hway, by
                unfold wayOf
                rw [if_neg c45, hl1]
                split
                · rfl
                · rw [if_pos (Int32.not_lt.mp c62)]⟩⟩, hwt1⟩) (hP.sub [0, 1, 2] rfl) (hD.sub [0, 1, 2] (by decide) rfl) hQ (Nat.le_of_ble_eq_true rfl) (Nat.le_of_ble_eq_true rfl) dX11_way_66
        · refine lv_aload_n hx hb dX11_way_48 rfl (lv_at hl 0 rfl) ?_
          refine va_get (D := D) (ci := 11) (v := .ref a1) (C := RX11) (T := TX11) (N := 47) hx hb hts (by decide +kernel) hown hK.1 hP 0 rfl rfl 36 (by decide) (hts (.fieldLink RX11 69 "JugglingHallModel" "far" "[I") (by decide +kernel)) (fun _ h9 => h9) hf_far dX11_way_49 ?_
          refine lv_iload_n hx hb dX11_way_52 rfl (lv_at hl 1 rfl) ?_
          refine ald_n (k := a) hx hb hK.1 hP 1 0 rfl rfl (ha) (by decide) dX11_way_53 ?_
          refine lv_eqi (y := nI m9) (m2) ?_
          exact g_iret ((nI m9, far, wt)) hx hb hr hlocks hS rfl (⟨Or.inr ⟨a, b, ha, hb5, rfl, rfl, Or.inr ⟨hs, hway, by unfold wayOf; rw [if_pos c45, hl1]⟩⟩, hwt1⟩) (hP.sub [0, 1, 2] rfl) (hD.sub [0, 1, 2] (by decide) rfl) hQ (Nat.le_of_ble_eq_true rfl) (Nat.le_of_ble_eq_true rfl) dX11_way_54
    · refine lv_iconst (v := (-1)) hx hb dX11_way_27 (by decide) ?_
      exact g_iret ((-1, far0, wt0)) hx hb hr hlocks hS rfl (⟨Or.inr ⟨a, b, ha, hb5, rfl, rfl, by
          rcases Classical.em (∃ hs, jrun a hs = some b) with q | q
          · obtain ⟨hs, z⟩ := way_ex q
            refine Or.inr ⟨hs, z, ?_⟩
            unfold wayOf
            rw [if_neg (fun z => c24 (by rw [z]; exact Int32.le_refl _)), if_pos (Int32.lt_of_lt_of_le (Int32.not_le.mp c24) (by decide))]
          · exact Or.inl ⟨q, rfl⟩⟩, hwt⟩) (hP.sub [0, 1, 2] rfl) (hD.sub [0, 1, 2] (by decide) rfl) hQ (Nat.le_of_ble_eq_true rfl) (Nat.le_of_ble_eq_true rfl) dX11_way_28
  · refine lv_iload_n hx hb dX11_way_0 rfl (lv_at hl 1 rfl) ?_
    refine lv_iconst (v := 0) hx hb dX11_way_1 (by decide) ?_
    refine lv_sipush (v := 511) hx hb dX11_way_2 (by decide) ?_
    refine ro (va_runS (As := [.int f, .int 0, .int 511]) (rest := []) ⟨hx, hb, hml, hown, hts⟩ (c_isIn l D cI cR cM _ f 0 511) (va_cwS 3 hts gX11_way_X11_isIn rfl rfl rfl (by decide +kernel) ⟨Nat.le_of_ble_eq_true rfl, Nat.le_of_ble_eq_true rfl⟩) (pre_S hK va_P_nil (va_D_nil (A := fun _ => True))) rfl rfl hl.1 rfl (lv_room (Nat.le_of_ble_eq_true rfl)) dX11_way_5 ⟨Nat.le_of_ble_eq_true rfl, Nat.le_of_ble_eq_true rfl⟩) hS hA hP (fun H locs hP hS => ?_)
    refine lv_eqi (y := 0) (out511 hin9) ?_
    refine lv_if_eq (tgt := 27) hx hb dX11_way_8 (by decide) (fun c8 => ?_) (fun c8 => absurd (by decide) c8)
    refine lv_iconst (v := (-1)) hx hb dX11_way_27 (by decide) ?_
    exact g_iret ((-1, far0, wt0)) hx hb hr hlocks hS rfl (⟨Or.inl ⟨fun ⟨a, b, h1, h2, h3, h4⟩ => hin9 ⟨a, h1, h3⟩, rfl⟩, hwt⟩) (hP.sub [0, 1, 2] rfl) (hD.sub [0, 1, 2] (by decide) rfl) hQ (Nat.le_of_ble_eq_true rfl) (Nat.le_of_ble_eq_true rfl) dX11_way_28
  · refine lv_iload_n hx hb dX11_way_0 rfl (lv_at hl 1 rfl) ?_
    refine lv_iconst (v := 0) hx hb dX11_way_1 (by decide) ?_
    refine lv_sipush (v := 511) hx hb dX11_way_2 (by decide) ?_
    refine ro (va_runS (As := [.int f, .int 0, .int 511]) (rest := []) ⟨hx, hb, hml, hown, hts⟩ (c_isIn l D cI cR cM _ f 0 511) (va_cwS 3 hts gX11_way_X11_isIn rfl rfl rfl (by decide +kernel) ⟨Nat.le_of_ble_eq_true rfl, Nat.le_of_ble_eq_true rfl⟩) (pre_S hK va_P_nil (va_D_nil (A := fun _ => True))) rfl rfl hl.1 rfl (lv_room (Nat.le_of_ble_eq_true rfl)) dX11_way_5 ⟨Nat.le_of_ble_eq_true rfl, Nat.le_of_ble_eq_true rfl⟩) hS hA hP (fun H locs hP hS => ?_)
    obtain ⟨⟨a, ha, ea⟩, hno⟩ := hin9
    refine lv_eqi (y := 1) (in511 ha ea) ?_
    refine lv_if_eq (tgt := 27) hx hb dX11_way_8 (by decide) (fun c8 => absurd c8 (by decide)) (fun c8 => ?_)
    refine lv_iload_n hx hb dX11_way_11 rfl (lv_at hl 2 rfl) ?_
    refine lv_iconst (v := 0) hx hb dX11_way_12 (by decide) ?_
    refine lv_sipush (v := 511) hx hb dX11_way_13 (by decide) ?_
    refine ro (va_runS (As := [.int t, .int 0, .int 511]) (rest := []) ⟨hx, hb, hml, hown, hts⟩ (c_isIn l D cI cR cM _ t 0 511) (va_cwS 3 hts gX11_way_X11_isIn rfl rfl rfl (by decide +kernel) ⟨Nat.le_of_ble_eq_true rfl, Nat.le_of_ble_eq_true rfl⟩) (pre_S hK va_P_nil (va_D_nil (A := fun _ => True))) rfl rfl hl.1 rfl (lv_room (Nat.le_of_ble_eq_true rfl)) dX11_way_16 ⟨Nat.le_of_ble_eq_true rfl, Nat.le_of_ble_eq_true rfl⟩) hS hA hP (fun H locs hP hS => ?_)
    refine lv_eqi (y := 0) (out511 hno) ?_
    refine lv_if_eq (tgt := 27) hx hb dX11_way_19 (by decide) (fun c19 => ?_) (fun c19 => absurd (by decide) c19)
    refine lv_iconst (v := (-1)) hx hb dX11_way_27 (by decide) ?_
    exact g_iret ((-1, far0, wt0)) hx hb hr hlocks hS rfl (⟨Or.inl ⟨fun ⟨a9, b, h1, h2, h3, h4⟩ => hno ⟨b, h2, h4⟩, rfl⟩, hwt⟩) (hP.sub [0, 1, 2] rfl) (hD.sub [0, 1, 2] (by decide) rfl) hQ (Nat.le_of_ble_eq_true rfl) (Nat.le_of_ble_eq_true rfl) dX11_way_28
