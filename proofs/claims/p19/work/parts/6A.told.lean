theorem dX1_without_0 : decode cX1_without 0 = .ok (.new 37, 3) := by decide +kernel
theorem dX1_without_3 : decode cX1_without 3 = .ok (.dup, 1) := by decide +kernel
theorem dX1_without_4 : decode cX1_without 4 = .ok (.aload_n 0, 1) := by decide +kernel
theorem dX1_without_5 : decode cX1_without 5 = .ok (.getfield 60, 3) := by decide +kernel
theorem dX1_without_8 : decode cX1_without 8 = .ok (.getfield 92, 3) := by decide +kernel
theorem dX1_without_11 : decode cX1_without 11 = .ok (.aload_n 0, 1) := by decide +kernel
theorem dX1_without_12 : decode cX1_without 12 = .ok (.getfield 60, 3) := by decide +kernel
theorem dX1_without_15 : decode cX1_without 15 = .ok (.getfield 95, 3) := by decide +kernel
theorem dX1_without_18 : decode cX1_without 18 = .ok (.invokespecial 98, 3) := by decide +kernel
theorem dX1_without_21 : decode cX1_without 21 = .ok (.astore_n 2, 1) := by decide +kernel
theorem dX1_without_22 : decode cX1_without 22 = .ok (.aload_n 2, 1) := by decide +kernel
theorem dX1_without_23 : decode cX1_without 23 = .ok (.aload_n 0, 1) := by decide +kernel
theorem dX1_without_24 : decode cX1_without 24 = .ok (.getfield 60, 3) := by decide +kernel
theorem dX1_without_27 : decode cX1_without 27 = .ok (.getfield 95, 3) := by decide +kernel
theorem dX1_without_30 : decode cX1_without 30 = .ok (.invokevirtual 100, 3) := by decide +kernel
theorem dX1_without_33 : decode cX1_without 33 = .ok (.iconst 0, 1) := by decide +kernel
theorem dX1_without_34 : decode cX1_without 34 = .ok (.istore_n 3, 1) := by decide +kernel
theorem dX1_without_35 : decode cX1_without 35 = .ok (.iload_n 3, 1) := by decide +kernel
theorem dX1_without_36 : decode cX1_without 36 = .ok (.aload_n 0, 1) := by decide +kernel
theorem dX1_without_37 : decode cX1_without 37 = .ok (.getfield 60, 3) := by decide +kernel
theorem dX1_without_40 : decode cX1_without 40 = .ok (.invokevirtual 36, 3) := by decide +kernel
theorem dX1_without_43 : decode cX1_without 43 = .ok (.if_icmp .ge 88, 3) := by decide +kernel
theorem dX1_without_46 : decode cX1_without 46 = .ok (.aload_n 0, 1) := by decide +kernel
theorem dX1_without_47 : decode cX1_without 47 = .ok (.getfield 18, 3) := by decide +kernel
theorem dX1_without_50 : decode cX1_without 50 = .ok (.iload_n 3, 1) := by decide +kernel
theorem dX1_without_51 : decode cX1_without 51 = .ok (.iaload, 1) := by decide +kernel
theorem dX1_without_52 : decode cX1_without 52 = .ok (.istore 4, 2) := by decide +kernel
theorem dX1_without_54 : decode cX1_without 54 = .ok (.iload 4, 2) := by decide +kernel
theorem dX1_without_56 : decode cX1_without 56 = .ok (.ifCond .lt 24, 3) := by decide +kernel
theorem dX1_without_59 : decode cX1_without 59 = .ok (.iload 4, 2) := by decide +kernel
theorem dX1_without_61 : decode cX1_without 61 = .ok (.bipush 32, 2) := by decide +kernel
theorem dX1_without_63 : decode cX1_without 63 = .ok (.if_icmp .ge 17, 3) := by decide +kernel
theorem dX1_without_66 : decode cX1_without 66 = .ok (.iload_n 1, 1) := by decide +kernel
theorem dX1_without_67 : decode cX1_without 67 = .ok (.iload 4, 2) := by decide +kernel
theorem dX1_without_69 : decode cX1_without 69 = .ok (.iushr, 1) := by decide +kernel
theorem dX1_without_70 : decode cX1_without 70 = .ok (.iconst 1, 1) := by decide +kernel
theorem dX1_without_71 : decode cX1_without 71 = .ok (.iand, 1) := by decide +kernel
theorem dX1_without_72 : decode cX1_without 72 = .ok (.iconst 1, 1) := by decide +kernel
theorem dX1_without_73 : decode cX1_without 73 = .ok (.if_icmp .ne 7, 3) := by decide +kernel
theorem dX1_without_76 : decode cX1_without 76 = .ok (.iconst 1, 1) := by decide +kernel
theorem dX1_without_77 : decode cX1_without 77 = .ok (.goto 4, 3) := by decide +kernel
theorem dX1_without_80 : decode cX1_without 80 = .ok (.iconst 0, 1) := by decide +kernel
theorem dX1_without_81 : decode cX1_without 81 = .ok (.istore 5, 2) := by decide +kernel
theorem dX1_without_83 : decode cX1_without 83 = .ok (.iload 5, 2) := by decide +kernel
theorem dX1_without_85 : decode cX1_without 85 = .ok (.ifCond .ne 40, 3) := by decide +kernel
theorem dX1_without_88 : decode cX1_without 88 = .ok (.aload_n 2, 1) := by decide +kernel
theorem dX1_without_89 : decode cX1_without 89 = .ok (.aload_n 0, 1) := by decide +kernel
theorem dX1_without_90 : decode cX1_without 90 = .ok (.getfield 60, 3) := by decide +kernel
theorem dX1_without_93 : decode cX1_without 93 = .ok (.iload_n 3, 1) := by decide +kernel
theorem dX1_without_94 : decode cX1_without 94 = .ok (.invokevirtual 103, 3) := by decide +kernel
theorem dX1_without_97 : decode cX1_without 97 = .ok (.aload_n 0, 1) := by decide +kernel
theorem dX1_without_98 : decode cX1_without 98 = .ok (.getfield 60, 3) := by decide +kernel
theorem dX1_without_101 : decode cX1_without 101 = .ok (.iload_n 3, 1) := by decide +kernel
theorem dX1_without_102 : decode cX1_without 102 = .ok (.invokevirtual 106, 3) := by decide +kernel
theorem dX1_without_105 : decode cX1_without 105 = .ok (.aload_n 0, 1) := by decide +kernel
theorem dX1_without_106 : decode cX1_without 106 = .ok (.getfield 60, 3) := by decide +kernel
theorem dX1_without_109 : decode cX1_without 109 = .ok (.iload_n 3, 1) := by decide +kernel
theorem dX1_without_110 : decode cX1_without 110 = .ok (.invokevirtual 79, 3) := by decide +kernel
theorem dX1_without_113 : decode cX1_without 113 = .ok (.aload_n 0, 1) := by decide +kernel
theorem dX1_without_114 : decode cX1_without 114 = .ok (.getfield 60, 3) := by decide +kernel
theorem dX1_without_117 : decode cX1_without 117 = .ok (.iload_n 3, 1) := by decide +kernel
theorem dX1_without_118 : decode cX1_without 118 = .ok (.invokevirtual 109, 3) := by decide +kernel
theorem dX1_without_121 : decode cX1_without 121 = .ok (.invokevirtual 112, 3) := by decide +kernel
theorem dX1_without_124 : decode cX1_without 124 = .ok (.pop, 1) := by decide +kernel
theorem dX1_without_125 : decode cX1_without 125 = .ok (.iinc 3 1, 3) := by decide +kernel
theorem dX1_without_128 : decode cX1_without 128 = .ok (.goto (-93), 3) := by decide +kernel
theorem dX1_without_131 : decode cX1_without 131 = .ok (.aload_n 2, 1) := by decide +kernel
theorem dX1_without_132 : decode cX1_without 132 = .ok (.areturn, 1) := by decide +kernel
theorem dX3_copy_0 : decode cX3_copy 0 = .ok (.new 10, 3) := by decide +kernel
theorem dX3_copy_3 : decode cX3_copy 3 = .ok (.dup, 1) := by decide +kernel
theorem dX3_copy_4 : decode cX3_copy 4 = .ok (.invokespecial 19, 3) := by decide +kernel
theorem dX3_copy_7 : decode cX3_copy 7 = .ok (.astore_n 1, 1) := by decide +kernel
theorem dX3_copy_8 : decode cX3_copy 8 = .ok (.iconst 0, 1) := by decide +kernel
theorem dX3_copy_9 : decode cX3_copy 9 = .ok (.istore_n 2, 1) := by decide +kernel
theorem dX3_copy_10 : decode cX3_copy 10 = .ok (.iload_n 2, 1) := by decide +kernel
theorem dX3_copy_11 : decode cX3_copy 11 = .ok (.aload_n 0, 1) := by decide +kernel
theorem dX3_copy_12 : decode cX3_copy 12 = .ok (.getfield 15, 3) := by decide +kernel
theorem dX3_copy_15 : decode cX3_copy 15 = .ok (.if_icmp .ge 20, 3) := by decide +kernel
theorem dX3_copy_18 : decode cX3_copy 18 = .ok (.aload_n 1, 1) := by decide +kernel
theorem dX3_copy_19 : decode cX3_copy 19 = .ok (.aload_n 0, 1) := by decide +kernel
theorem dX3_copy_20 : decode cX3_copy 20 = .ok (.getfield 9, 3) := by decide +kernel
theorem dX3_copy_23 : decode cX3_copy 23 = .ok (.iload_n 2, 1) := by decide +kernel
theorem dX3_copy_24 : decode cX3_copy 24 = .ok (.iaload, 1) := by decide +kernel
theorem dX3_copy_25 : decode cX3_copy 25 = .ok (.invokevirtual 20, 3) := by decide +kernel
theorem dX3_copy_28 : decode cX3_copy 28 = .ok (.pop, 1) := by decide +kernel
theorem dX3_copy_29 : decode cX3_copy 29 = .ok (.iinc 2 1, 3) := by decide +kernel
theorem dX3_copy_32 : decode cX3_copy 32 = .ok (.goto (-22), 3) := by decide +kernel
theorem dX3_copy_35 : decode cX3_copy 35 = .ok (.aload_n 1, 1) := by decide +kernel
theorem dX3_copy_36 : decode cX3_copy 36 = .ok (.areturn, 1) := by decide +kernel
theorem dX4_tellAll_0 : decode cX4_tellAll 0 = .ok (.aload_n 0, 1) := by decide +kernel
theorem dX4_tellAll_1 : decode cX4_tellAll 1 = .ok (.getfield 45, 3) := by decide +kernel
theorem dX4_tellAll_4 : decode cX4_tellAll 4 = .ok (.invokevirtual 84, 3) := by decide +kernel
theorem dX4_tellAll_7 : decode cX4_tellAll 7 = .ok (.iconst 0, 1) := by decide +kernel
theorem dX4_tellAll_8 : decode cX4_tellAll 8 = .ok (.istore_n 1, 1) := by decide +kernel
theorem dX4_tellAll_9 : decode cX4_tellAll 9 = .ok (.iload_n 1, 1) := by decide +kernel
theorem dX4_tellAll_10 : decode cX4_tellAll 10 = .ok (.aload_n 0, 1) := by decide +kernel
theorem dX4_tellAll_11 : decode cX4_tellAll 11 = .ok (.getfield 21, 3) := by decide +kernel
theorem dX4_tellAll_14 : decode cX4_tellAll 14 = .ok (.arraylength, 1) := by decide +kernel
theorem dX4_tellAll_15 : decode cX4_tellAll 15 = .ok (.if_icmp .ge 38, 3) := by decide +kernel
theorem dX4_tellAll_18 : decode cX4_tellAll 18 = .ok (.aload_n 0, 1) := by decide +kernel
theorem dX4_tellAll_19 : decode cX4_tellAll 19 = .ok (.getfield 21, 3) := by decide +kernel
theorem dX4_tellAll_22 : decode cX4_tellAll 22 = .ok (.iload_n 1, 1) := by decide +kernel
theorem dX4_tellAll_23 : decode cX4_tellAll 23 = .ok (.aaload, 1) := by decide +kernel
theorem dX4_tellAll_24 : decode cX4_tellAll 24 = .ok (.getfield 62, 3) := by decide +kernel
theorem dX4_tellAll_27 : decode cX4_tellAll 27 = .ok (.ifCond .le 20, 3) := by decide +kernel
theorem dX4_tellAll_30 : decode cX4_tellAll 30 = .ok (.aload_n 0, 1) := by decide +kernel
theorem dX4_tellAll_31 : decode cX4_tellAll 31 = .ok (.getfield 45, 3) := by decide +kernel
theorem dX4_tellAll_34 : decode cX4_tellAll 34 = .ok (.iload_n 1, 1) := by decide +kernel
theorem dX4_tellAll_35 : decode cX4_tellAll 35 = .ok (.aload_n 0, 1) := by decide +kernel
theorem dX4_tellAll_36 : decode cX4_tellAll 36 = .ok (.getfield 21, 3) := by decide +kernel
theorem dX4_tellAll_39 : decode cX4_tellAll 39 = .ok (.iload_n 1, 1) := by decide +kernel
theorem dX4_tellAll_40 : decode cX4_tellAll 40 = .ok (.aaload, 1) := by decide +kernel
theorem dX4_tellAll_41 : decode cX4_tellAll 41 = .ok (.invokevirtual 89, 3) := by decide +kernel
theorem dX4_tellAll_44 : decode cX4_tellAll 44 = .ok (.invokevirtual 93, 3) := by decide +kernel
theorem dX4_tellAll_47 : decode cX4_tellAll 47 = .ok (.iinc 1 1, 3) := by decide +kernel
theorem dX4_tellAll_50 : decode cX4_tellAll 50 = .ok (.goto (-41), 3) := by decide +kernel
theorem dX4_tellAll_53 : decode cX4_tellAll 53 = .ok (.aload_n 0, 1) := by decide +kernel
theorem dX4_tellAll_54 : decode cX4_tellAll 54 = .ok (.getfield 27, 3) := by decide +kernel
theorem dX4_tellAll_57 : decode cX4_tellAll 57 = .ok (.getfield 59, 3) := by decide +kernel
theorem dX4_tellAll_60 : decode cX4_tellAll 60 = .ok (.ifCond .le 17, 3) := by decide +kernel
theorem dX4_tellAll_63 : decode cX4_tellAll 63 = .ok (.aload_n 0, 1) := by decide +kernel
theorem dX4_tellAll_64 : decode cX4_tellAll 64 = .ok (.getfield 45, 3) := by decide +kernel
theorem dX4_tellAll_67 : decode cX4_tellAll 67 = .ok (.aload_n 0, 1) := by decide +kernel
theorem dX4_tellAll_68 : decode cX4_tellAll 68 = .ok (.getfield 27, 3) := by decide +kernel
theorem dX4_tellAll_71 : decode cX4_tellAll 71 = .ok (.invokevirtual 97, 3) := by decide +kernel
theorem dX4_tellAll_74 : decode cX4_tellAll 74 = .ok (.invokevirtual 100, 3) := by decide +kernel
theorem dX4_tellAll_77 : decode cX4_tellAll 77 = .ok (.return_, 1) := by decide +kernel
theorem dX5_copy_0 : decode cX5_copy 0 = .ok (.new 16, 3) := by decide +kernel
theorem dX5_copy_3 : decode cX5_copy 3 = .ok (.dup, 1) := by decide +kernel
theorem dX5_copy_4 : decode cX5_copy 4 = .ok (.aload_n 0, 1) := by decide +kernel
theorem dX5_copy_5 : decode cX5_copy 5 = .ok (.getfield 15, 3) := by decide +kernel
theorem dX5_copy_8 : decode cX5_copy 8 = .ok (.aload_n 0, 1) := by decide +kernel
theorem dX5_copy_9 : decode cX5_copy 9 = .ok (.getfield 28, 3) := by decide +kernel
theorem dX5_copy_12 : decode cX5_copy 12 = .ok (.invokespecial 76, 3) := by decide +kernel
theorem dX5_copy_15 : decode cX5_copy 15 = .ok (.astore_n 1, 1) := by decide +kernel
theorem dX5_copy_16 : decode cX5_copy 16 = .ok (.aload_n 1, 1) := by decide +kernel
theorem dX5_copy_17 : decode cX5_copy 17 = .ok (.aload_n 0, 1) := by decide +kernel
theorem dX5_copy_18 : decode cX5_copy 18 = .ok (.invokevirtual 79, 3) := by decide +kernel
theorem dX5_copy_21 : decode cX5_copy 21 = .ok (.pop, 1) := by decide +kernel
theorem dX5_copy_22 : decode cX5_copy 22 = .ok (.aload_n 1, 1) := by decide +kernel
theorem dX5_copy_23 : decode cX5_copy 23 = .ok (.areturn, 1) := by decide +kernel
set_option maxRecDepth 20000 in
theorem ggX1_without_X5_init : GoodIn wsX1_without wsX5_init := goodIn_r _ [8, 9, 10, 11, 12, 13, 14, 15, 16, 17, 18, 19, 56, 57, 58, 59] (by decide +kernel) (by decide +kernel)
set_option maxRecDepth 20000 in
theorem ggX1_without_X5_reset : GoodIn wsX1_without wsX5_reset := goodIn_r _ [23, 19, 17, 24, 25, 14, 26, 12, 13, 15, 27, 28, 29, 30, 31, 56, 57, 58, 59] (by decide +kernel) (by decide +kernel)
set_option maxRecDepth 20000 in
theorem gX1_without_X5_reset : GoodIn wsX1_without (wsV RX1 100 RX5 yX5_reset wsX5_reset) := goodIn_app (goodIn_of _ (by decide +kernel)) ggX1_without_X5_reset
set_option maxRecDepth 20000 in
theorem ggX1_without_X5_cellCount : GoodIn wsX1_without wsX5_cellCount := goodIn_r _ [35, 27, 17, 56, 57, 58, 59] (by decide +kernel) (by decide +kernel)
set_option maxRecDepth 20000 in
theorem gX1_without_X5_cellCount : GoodIn wsX1_without (wsV RX1 36 RX5 yX5_cellCount wsX5_cellCount) := goodIn_app (goodIn_of _ (by decide +kernel)) ggX1_without_X5_cellCount
set_option maxRecDepth 20000 in
theorem ggX1_without_X5_beatOf : GoodIn wsX1_without wsX5_beatOf := goodIn_r _ [39, 17, 56, 57, 58, 59] (by decide +kernel) (by decide +kernel)
set_option maxRecDepth 20000 in
theorem gX1_without_X5_beatOf : GoodIn wsX1_without (wsV RX1 103 RX5 yX5_beatOf wsX5_beatOf) := goodIn_app (goodIn_of _ (by decide +kernel)) ggX1_without_X5_beatOf
set_option maxRecDepth 20000 in
theorem ggX1_without_X5_jugglerOf : GoodIn wsX1_without wsX5_jugglerOf := goodIn_r _ [43, 17, 56, 57, 58, 59] (by decide +kernel) (by decide +kernel)
set_option maxRecDepth 20000 in
theorem gX1_without_X5_jugglerOf : GoodIn wsX1_without (wsV RX1 106 RX5 yX5_jugglerOf wsX5_jugglerOf) := goodIn_app (goodIn_of _ (by decide +kernel)) ggX1_without_X5_jugglerOf
set_option maxRecDepth 20000 in
theorem ggX1_without_X5_height : GoodIn wsX1_without wsX5_height := goodIn_r _ [47, 19, 56, 57, 58, 59] (by decide +kernel) (by decide +kernel)
set_option maxRecDepth 20000 in
theorem gX1_without_X5_height : GoodIn wsX1_without (wsV RX1 79 RX5 yX5_height wsX5_height) := goodIn_app (goodIn_of _ (by decide +kernel)) ggX1_without_X5_height
set_option maxRecDepth 20000 in
theorem ggX1_without_X5_target : GoodIn wsX1_without wsX5_target := goodIn_r _ [51, 19, 56, 57, 58, 59] (by decide +kernel) (by decide +kernel)
set_option maxRecDepth 20000 in
theorem gX1_without_X5_target : GoodIn wsX1_without (wsV RX1 109 RX5 yX5_target wsX5_target) := goodIn_app (goodIn_of _ (by decide +kernel)) ggX1_without_X5_target
set_option maxRecDepth 20000 in
theorem ggX1_without_X5_put : GoodIn wsX1_without wsX5_put := goodIn_r _ [55, 17, 19, 56, 57, 58, 59] (by decide +kernel) (by decide +kernel)
set_option maxRecDepth 20000 in
theorem gX1_without_X5_put : GoodIn wsX1_without (wsV RX1 112 RX5 yX5_put wsX5_put) := goodIn_app (goodIn_of _ (by decide +kernel)) ggX1_without_X5_put
set_option maxRecDepth 20000 in
theorem ggX3_copy_X3_init : GoodIn wsX3_copy wsX3_init := goodIn_r _ [8, 9, 10, 11, 12, 5, 17, 18] (by decide +kernel) (by decide +kernel)
set_option maxRecDepth 20000 in
theorem ggX3_copy_X3_write : GoodIn wsX3_copy wsX3_write := goodIn_r _ [16, 4, 5, 17, 18] (by decide +kernel) (by decide +kernel)
set_option maxRecDepth 20000 in
theorem gX3_copy_X3_write : GoodIn wsX3_copy (wsV RX3 20 RX3 yX3_write wsX3_write) := goodIn_app (goodIn_of _ (by decide +kernel)) ggX3_copy_X3_write
set_option maxRecDepth 20000 in
theorem ggX4_tellAll_X0_turnPage : GoodIn wsX4_tellAll wsX0_turnPage := goodIn_r _ [8, 9, 10, 11, 12, 13, 14, 15, 7, 16, 93, 94, 95, 96] (by decide +kernel) (by decide +kernel)
set_option maxRecDepth 20000 in
theorem gX4_tellAll_X0_turnPage : GoodIn wsX4_tellAll (wsV RX4 84 RX0 yX0_turnPage wsX0_turnPage) := goodIn_app (goodIn_of _ (by decide +kernel)) ggX4_tellAll_X0_turnPage
set_option maxRecDepth 20000 in
theorem ggX4_tellAll_X5_copy : GoodIn wsX4_tellAll wsX5_copy := goodIn_r _ [21, 22, 23, 20, 24, 25, 26, 27, 28, 29, 30, 31, 32, 33, 34, 35, 36, 37, 38, 39, 40, 41, 42, 43, 44, 45, 46, 47, 48, 49, 50, 87, 88, 89, 90] (by decide +kernel) (by decide +kernel)
set_option maxRecDepth 20000 in
theorem gX4_tellAll_X5_copy : GoodIn wsX4_tellAll (wsV RX4 89 RX5 yX5_copy wsX5_copy) := goodIn_app (goodIn_of _ (by decide +kernel)) ggX4_tellAll_X5_copy
set_option maxRecDepth 20000 in
theorem ggX4_tellAll_X0_writeRow : GoodIn wsX4_tellAll wsX0_writeRow := goodIn_r _ [54, 9, 10, 93, 94, 95, 96] (by decide +kernel) (by decide +kernel)
set_option maxRecDepth 20000 in
theorem gX4_tellAll_X0_writeRow : GoodIn wsX4_tellAll (wsV RX4 93 RX0 yX0_writeRow wsX0_writeRow) := goodIn_app (goodIn_of _ (by decide +kernel)) ggX4_tellAll_X0_writeRow
set_option maxRecDepth 20000 in
theorem ggX4_tellAll_X3_copy : GoodIn wsX4_tellAll wsX3_copy := goodIn_r _ [59, 60, 61, 58, 62, 63, 64, 65, 66, 67, 30, 31, 37, 68, 69, 70, 71, 91, 92] (by decide +kernel) (by decide +kernel)
set_option maxRecDepth 20000 in
theorem gX4_tellAll_X3_copy : GoodIn wsX4_tellAll (wsV RX4 97 RX3 yX3_copy wsX3_copy) := goodIn_app (goodIn_of _ (by decide +kernel)) ggX4_tellAll_X3_copy
set_option maxRecDepth 20000 in
theorem ggX4_tellAll_X0_writeMarks : GoodIn wsX4_tellAll wsX0_writeMarks := goodIn_r _ [75, 11, 10, 93, 94, 95, 96] (by decide +kernel) (by decide +kernel)
set_option maxRecDepth 20000 in
theorem gX4_tellAll_X0_writeMarks : GoodIn wsX4_tellAll (wsV RX4 100 RX0 yX0_writeMarks wsX0_writeMarks) := goodIn_app (goodIn_of _ (by decide +kernel)) ggX4_tellAll_X0_writeMarks
set_option maxRecDepth 20000 in
theorem ggX5_copy_X5_init : GoodIn wsX5_copy wsX5_init := goodIn_r _ [8, 9, 10, 11, 12, 13, 14, 15, 4, 16, 17, 18, 31, 32, 33, 34] (by decide +kernel) (by decide +kernel)
set_option maxRecDepth 20000 in
theorem ggX5_copy_X5_takeFrom : GoodIn wsX5_copy wsX5_takeFrom := goodIn_r _ [22, 5, 23, 24, 25, 3, 26, 16, 18, 27, 28, 29, 30, 31, 32, 33, 34] (by decide +kernel) (by decide +kernel)
set_option maxRecDepth 20000 in
theorem gX5_copy_X5_takeFrom : GoodIn wsX5_copy (wsV RX5 79 RX5 yX5_takeFrom wsX5_takeFrom) := goodIn_app (goodIn_of _ (by decide +kernel)) ggX5_copy_X5_takeFrom
set_option maxRecDepth 100000 in
set_option maxHeartbeats 4000000 in
theorem t_X5_copy (l : Launch) (D : va_G) (cI cR cM : ClassId) (sz : Nat) {jn : Nat} {g : Nat → Nat} {L : List Nat} {S : Sg} {f : Nat → va_E} {b b_p b_n : Nat} {b_l : Int32} {b_c : Nat → Int32}  (hj : 1 ≤ jn ∧ jn ≤ 3) (hG : SG g L S) (hI : IN jn cI cR cM g L S f) (m_b : b ∈ L) (s_b : S b = (0, b_p, b_n)) (f_b : f b = .inr (5, [.int (nI jn), .int (nI (2 * jn)), .ref b_p, .int b_l])) (f_b_p : f b_p = .inl (cI, b_n, .inl b_c))  : Met l yX5_copy wsX5_copy ({ frames := 3, cells := 2, slots := 148, locals := 109 }) (P0 D cI cR cM [.ref b] sz (va_pl L f)) (QG (S := Nat × List Nat × Sg × (Nat → va_E)) (fun u => some (.ref u.1)) (fun u => va_pl (u.2.1) (u.2.2.2)) (fun u => EXT L S u.2.1 u.2.2.1 ∧ IN jn cI cR cM g u.2.1 u.2.2.1 u.2.2.2 ∧ FRX L S [0, 1] f (u.2.2.2) ∧ (∃ p9 n9, isRow (u.2.1) (u.2.2.1) (u.1) p9 n9)) D (va_A (va_pl L f) sz)) 2 148 (va_A (va_pl L f) sz) := by
  refine go (cc := cX5_copy) (maxL := 2) (ret := (some (.object "JugglingHall$Row"))) (by decide +kernel) rfl (Nat.le_of_ble_eq_true rfl) ?_
  intro p e s m below meth c ls args Q hQ hsz hx hb hr hml hts hown hlocks hnm hP hK hD hl
  subst hsz
  have hD := hD.self (sz := s.heap.size)
  generalize hAe : va_A (va_pl L f) s.heap.size = A at hD hQ
  have hA : ∀ q, s.heap.size ≤ q → A q := fun q h => by rw [← hAe]; exact Or.inr h
  have hS : va_S A s.heap s.heap [] := va_S.rf
  obtain ⟨L0, eL0⟩ : ∃ x, x = L := ⟨_, rfl⟩
  obtain ⟨S0, eS0⟩ : ∃ x, x = S := ⟨_, rfl⟩
  have hX : EXT L0 S0 L S := by rw [eL0, eS0]; exact EXT_rf
  have hF : FRX L0 S0 [0, 1] f f := FRX_rf
  have hl : lv_has ls 2 [(0, .ref b)] := hl
  obtain ⟨v1_b, v2_b, v3_b, m_b_p, s_b_p⟩ := iv_0 hI m_b s_b f_b
  obtain ⟨w1_b, w2_b, w3_b, w4_b, w5_b⟩ := lenw hj v1_b v2_b v3_b
  have k_b := iv_1 hI m_b_p s_b_p f_b_p
  refine va_new (D := D) (ci := 5) (fs := [.int 0, .int 0, .null, .int 0]) (C := RX5) (T := TX5) (N := 4) hx hb hts (by decide +kernel) tyX5 tyX5_ok hown (hts (.classLink RX5 16 RX5) (by decide +kernel)) (hts (.instantiable RX5 4) (by decide +kernel)) (hts (.initialized RX5) (by decide +kernel)) hK.1 hP hD hS hA rfl (fun j hj => by rcases (show j = 0 ∨ j = 1 ∨ j = 2 ∨ j = 3 by omega) with rfl | rfl | rfl | rfl <;> rfl) (Nat.le_of_ble_eq_true rfl) (Nat.le_of_ble_eq_true rfl) dX5_copy_0 (fun o_1 H hP hD hS => ?_)
  have hPo : va_P D vwCl ([(o_1, .inr (5, [.int 0, .int 0, .null, .int 0]))] ++ va_pl L f) H := swP hP
  have hDo : va_D A ([(o_1, .inr (5, [.int 0, .int 0, .null, .int 0]))] ++ va_pl L f) := swD hD
  have hP := tail_P hPo
  have hD := tail_D hDo
  refine W.widen (k := 1) (n := 4) (Nat.le_of_ble_eq_true rfl) (Nat.le_of_ble_eq_true rfl) ?_
  refine lv_dup hx hb dX5_copy_3 rfl ?_
  refine lv_aload_n hx hb dX5_copy_4 rfl (lv_at hl 0 rfl) ?_
  refine t_get (D := D) (L := L) (f := f) (ci := 5) (v := .int (nI jn)) (C := RX5) (T := TX5) (N := 4) hx hb hts (by decide +kernel) hown hK.1 hP m_b f_b rfl 0 (by decide) (hts (.fieldLink RX5 15 "JugglingHall$Row" "jugglers" "I") (by decide +kernel)) (fun _ h9 => h9) rfl dX5_copy_5 ?_
  refine lv_aload_n hx hb dX5_copy_8 rfl (lv_at hl 0 rfl) ?_
  refine t_get (D := D) (L := L) (f := f) (ci := 5) (v := .int b_l) (C := RX5) (T := TX5) (N := 4) hx hb hts (by decide +kernel) hown hK.1 hP m_b f_b rfl 3 (by decide) (hts (.fieldLink RX5 28 "JugglingHall$Row" "length" "I") (by decide +kernel)) (fun _ h9 => h9) rfl dX5_copy_9 ?_
  obtain ⟨k_2, hk_2, ek_2⟩ := nI_ex (x := b_l) (N := 73) (by omega) (by decide)
  have ei_2 : b_l.toInt = (k_2 : Int) := by rw [ek_2, nI_toInt (by omega)]
  have hm_2 : k_2 * (jn * 2) ≤ 144 := by rcases j3 hj with h9 | h9 | h9 <;> subst h9 <;> omega
  refine lv_eqi (y := nI k_2) ek_2 ?_
  have hP1 := head_P hPo
  have hD1 := d_one o_1 (.inr (5, [.int 0, .int 0, .null, .int 0]))
  refine call_new (a := o_1) (eo := .inr (5, [.int 0, .int 0, .null, .int 0])) (L := L) (f := f) (va_runI (As := [.int (nI jn), .int (nI k_2)]) (rest := [.ref o_1]) ⟨hx, hb, hml, hown, hts⟩ (c_Row_init l D cI cR cM _ hj.1 hj.2 (cap := k_2) (by omega) hm_2 o_1) (cwI 2 hts ggX5_copy_X5_init rfl rfl rfl (hts (.initialized RX5) (by decide +kernel)) (hts (.methodLink RX5 76 yX5_init) (by decide +kernel)) (hts (.instanceMethod yX5_init) (by decide +kernel)) rfl (by decide +kernel) ⟨Nat.le_of_ble_eq_true rfl, Nat.le_of_ble_eq_true rfl⟩) (pre_S hK hP1 hD1) rfl rfl hl.1 rfl (lv_room (Nat.le_of_ble_eq_true rfl)) dX5_copy_12 ⟨Nat.le_of_ble_eq_true rfl, Nat.le_of_ble_eq_true rfl⟩) hPo hDo hS hA (fun u_2 H locs hw hP hD hS => ?_)
  have hP : va_P D vwCl ([(o_1, .inr (5, [.int (nI jn), .int (nI (2 * jn)), .ref (u_2 0), .int 0])), ((u_2 0), .inl (cI, k_2 * (jn * 2), .inl (fun _ => 0)))] ++ va_pl L f) H := by rw [Nat.mul_comm 2 jn]; exact hP
  have hD : va_D A ([(o_1, .inr (5, [.int (nI jn), .int (nI (2 * jn)), .ref (u_2 0), .int 0])), ((u_2 0), .inl (cI, k_2 * (jn * 2), .inl (fun _ => 0)))] ++ va_pl L f) := by rw [Nat.mul_comm 2 jn]; exact hD
  obtain ⟨f_2, fo_2, fq_2, hfL_2, ho_2, hq_2, hoq_2, hP, hD⟩ := absorb hP hD
  have fb_3 : f_2 b = .inr (5, [.int (nI jn), .int (nI (2 * jn)), .ref b_p, .int b_l]) := (hfL_2 _ m_b).trans f_b
  have fb_4 : f_2 b_p = .inl (cI, b_n, .inl b_c) := (hfL_2 _ m_b_p).trans f_b_p
  have hF := FRX_trX (T1 := []) hF hX (fun b hb _ => hfL_2 b hb) (fun t ht => absurd ht (List.not_mem_nil))
  obtain ⟨L, S, n_2, hX_2, mo_2, so_2, mq_2, sq_2, hI_2, fq_2, hn_2, hP, hD⟩ : ∃ (L1 : List Nat) (S1 : Sg) (n1 : Nat), EXT L S L1 S1 ∧ o_1 ∈ L1 ∧ S1 o_1 = (0, (u_2 0), n1) ∧ (u_2 0) ∈ L1 ∧ S1 (u_2 0) = (1, n1, o_1) ∧ IN jn cI cR cM g L1 S1 f_2 ∧ f_2 (u_2 0) = .inl (cI, n1, .inl (fun _ => 0)) ∧ n1 ≤ 144 ∧ va_P D vwCl (va_pl L1 f_2) H ∧ va_D A (va_pl L1 f_2) := by
    obtain ⟨S1, h1, h2, h3, h4⟩ := newRow hI ho_2 hq_2 hoq_2 hfL_2 fo_2 fq_2 hm_2 (cOK_0 (fun _ _ => rfl))
    exact ⟨_, S1, _, h1, by simp, h2, by simp, h3, h4, fq_2, hm_2, hP, hD⟩
  have su_5 := (hX_2 _ m_b).2.trans s_b
  have mu_5 := (hX_2 _ m_b).1
  have su_6 := (hX_2 _ m_b_p).2.trans s_b_p
  have mu_6 := (hX_2 _ m_b_p).1
  have hX := EXT_tr hX hX_2
  have hG := SG_ext hX_2 hG
  have hI := hI_2
  have ok_2 : cOK jn n_2 (fun _ => 0) := cOK_0 (fun _ _ => rfl)
  refine W.widen (k := 2) (n := 148) (Nat.le_of_ble_eq_true rfl) (Nat.le_of_ble_eq_true rfl) ?_
  refine lv_astore_n (lv' := [(1, .ref o_1), (0, .ref b)]) hx hb dX5_copy_15 rfl hl (by decide) rfl (fun ls hl => ?_)
  refine lv_aload_n hx hb dX5_copy_16 rfl (lv_at hl 0 rfl) ?_
  refine lv_aload_n hx hb dX5_copy_17 rfl (lv_at hl 1 rfl) ?_
  have hz_7 : (0 : Int32).toInt = 0 := by decide
  refine call_p (va_runV (As := [.ref b]) (rest := []) ⟨hx, hb, hml, hown, hts⟩ (t_X5_takeFrom l D cI cR cM _  hj hG hI mo_2 so_2 fo_2 fq_2 mu_5 su_5 fb_3 fb_4 ) (cwV 1 hts gX5_copy_X5_takeFrom rfl rfl rfl (by decide +kernel) ⟨Nat.le_of_ble_eq_true rfl, Nat.le_of_ble_eq_true rfl⟩) (pre_T hK hP hD mo_2 fo_2 rfl) rfl rfl hl.1 rfl (lv_room (Nat.le_of_ble_eq_true rfl)) dX5_copy_18 ⟨Nat.le_of_ble_eq_true rfl, Nat.le_of_ble_eq_true rfl⟩) hD hS hA (fun u_8 H locs hw hP hD hS => ?_)
  obtain ⟨r_8, f_8⟩ := u_8
  obtain ⟨hI, hF_8, h01_8⟩ : IN jn cI cR cM g L S f_8 ∧ FR S [0, 1] f_2 f_8 ∧ (r_8.toInt = 0 ∨ r_8.toInt = 1) := hw
  have hP : va_P D vwCl (va_pl L f_8) H := hP
  have hD : va_D A (va_pl L f_8) := hD
  have hF := FRX_tr hF hX hF_8 (by decide)
  refine lv_pop hx hb dX5_copy_21 rfl ?_
  refine lv_aload_n hx hb dX5_copy_22 rfl (lv_at hl 0 rfl) ?_
  exact g_aret (o_1, L, S, f_8) hx hb hr hlocks hS rfl (⟨EXT_c eL0 eS0 hX, hI, FRX_c eL0 eS0 hF, (⟨_, _, mo_2, so_2⟩)⟩) hP hD hQ (Nat.le_of_ble_eq_true rfl) (Nat.le_of_ble_eq_true rfl) dX5_copy_23
set_option maxRecDepth 100000 in
set_option maxHeartbeats 4000000 in
theorem t_X3_copy (l : Launch) (D : va_G) (cI cR cM : ClassId) (sz : Nat) {jn : Nat} {g : Nat → Nat} {L : List Nat} {S : Sg} {f : Nat → va_E} {k k_p : Nat} {k_l : Int32} {k_c : Nat → Int32}  (hj : 1 ≤ jn ∧ jn ≤ 3) (hG : SG g L S) (hI : IN jn cI cR cM g L S f) (m_k : k ∈ L) (s_k : S k = (2, k_p, 0)) (f_k : f k = .inr (3, [.ref k_p, .int k_l])) (f_k_p : f k_p = .inl (cI, 7, .inl k_c))  : Met l yX3_copy wsX3_copy ({ frames := 2, cells := 2, slots := 9, locals := 33 }) (P0 D cI cR cM [.ref k] sz (va_pl L f)) (QG (S := Nat × List Nat × Sg × (Nat → va_E)) (fun u => some (.ref u.1)) (fun u => va_pl (u.2.1) (u.2.2.2)) (fun u => EXT L S u.2.1 u.2.2.1 ∧ IN jn cI cR cM g u.2.1 u.2.2.1 u.2.2.2 ∧ FRX L S [2, 3] f (u.2.2.2) ∧ (∃ p9, isMk (u.2.1) (u.2.2.1) (u.1) p9)) D (va_A (va_pl L f) sz)) 2 9 (va_A (va_pl L f) sz) := by
  refine go (cc := cX3_copy) (maxL := 3) (ret := (some (.object "JugglingHall$Marks"))) (by decide +kernel) rfl (Nat.le_of_ble_eq_true rfl) ?_
  intro p e s m below meth c ls args Q hQ hsz hx hb hr hml hts hown hlocks hnm hP hK hD hl
  subst hsz
  have hD := hD.self (sz := s.heap.size)
  generalize hAe : va_A (va_pl L f) s.heap.size = A at hD hQ
  have hA : ∀ q, s.heap.size ≤ q → A q := fun q h => by rw [← hAe]; exact Or.inr h
  have hS : va_S A s.heap s.heap [] := va_S.rf
  obtain ⟨L0, eL0⟩ : ∃ x, x = L := ⟨_, rfl⟩
  obtain ⟨S0, eS0⟩ : ∃ x, x = S := ⟨_, rfl⟩
  have hX : EXT L0 S0 L S := by rw [eL0, eS0]; exact EXT_rf
  have hF : FRX L0 S0 [2, 3] f f := FRX_rf
  have hl : lv_has ls 3 [(0, .ref k)] := hl
  obtain ⟨v1_k, v2_k, m_k_p, s_k_p⟩ := iv_2 hI m_k s_k f_k
  refine va_new (D := D) (ci := 3) (fs := [.null, .int 0]) (C := RX3) (T := TX3) (N := 2) hx hb hts (by decide +kernel) tyX3 tyX3_ok hown (hts (.classLink RX3 10 RX3) (by decide +kernel)) (hts (.instantiable RX3 2) (by decide +kernel)) (hts (.initialized RX3) (by decide +kernel)) hK.1 hP hD hS hA rfl (fun j hj => by rcases (show j = 0 ∨ j = 1 by omega) with rfl | rfl <;> rfl) (Nat.le_of_ble_eq_true rfl) (Nat.le_of_ble_eq_true rfl) dX3_copy_0 (fun o_1 H hP hD hS => ?_)
  have hPo : va_P D vwCl ([(o_1, .inr (3, [.null, .int 0]))] ++ va_pl L f) H := swP hP
  have hDo : va_D A ([(o_1, .inr (3, [.null, .int 0]))] ++ va_pl L f) := swD hD
  have hP := tail_P hPo
  have hD := tail_D hDo
  refine W.widen (k := 1) (n := 2) (Nat.le_of_ble_eq_true rfl) (Nat.le_of_ble_eq_true rfl) ?_
  refine lv_dup hx hb dX3_copy_3 rfl ?_
  have hP1 := head_P hPo
  have hD1 := d_one o_1 (.inr (3, [.null, .int 0]))
  refine call_new (a := o_1) (eo := .inr (3, [.null, .int 0])) (L := L) (f := f) (va_runI (As := []) (rest := [.ref o_1]) ⟨hx, hb, hml, hown, hts⟩ (c_Marks_init l D cI cR cM _ o_1) (cwI 0 hts ggX3_copy_X3_init rfl rfl rfl (hts (.initialized RX3) (by decide +kernel)) (hts (.methodLink RX3 19 yX3_init) (by decide +kernel)) (hts (.instanceMethod yX3_init) (by decide +kernel)) rfl (by decide +kernel) ⟨Nat.le_of_ble_eq_true rfl, Nat.le_of_ble_eq_true rfl⟩) (pre_S hK hP1 hD1) rfl rfl hl.1 rfl (lv_room (Nat.le_of_ble_eq_true rfl)) dX3_copy_4 ⟨Nat.le_of_ble_eq_true rfl, Nat.le_of_ble_eq_true rfl⟩) hPo hDo hS hA (fun u_2 H locs hw hP hD hS => ?_)
  have hP : va_P D vwCl ([(o_1, .inr (3, [.ref (u_2 0), .int 0])), ((u_2 0), .inl (cI, 7, .inl (fun _ => 0)))] ++ va_pl L f) H := hP
  have hD : va_D A ([(o_1, .inr (3, [.ref (u_2 0), .int 0])), ((u_2 0), .inl (cI, 7, .inl (fun _ => 0)))] ++ va_pl L f) := hD
  obtain ⟨f_2, fo_2, fq_2, hfL_2, ho_2, hq_2, hoq_2, hP, hD⟩ := absorb hP hD
  have fb_3 : f_2 k = .inr (3, [.ref k_p, .int k_l]) := (hfL_2 _ m_k).trans f_k
  have fb_4 : f_2 k_p = .inl (cI, 7, .inl k_c) := (hfL_2 _ m_k_p).trans f_k_p
  have hF := FRX_trX (T1 := []) hF hX (fun b hb _ => hfL_2 b hb) (fun t ht => absurd ht (List.not_mem_nil))
  obtain ⟨L, S, hX_2, mo_2, so_2, mq_2, sq_2, hI_2, hP, hD⟩ : ∃ (L1 : List Nat) (S1 : Sg), EXT L S L1 S1 ∧ o_1 ∈ L1 ∧ S1 o_1 = (2, (u_2 0), 0) ∧ (u_2 0) ∈ L1 ∧ S1 (u_2 0) = (3, 0, o_1) ∧ IN jn cI cR cM g L1 S1 f_2 ∧ va_P D vwCl (va_pl L1 f_2) H ∧ va_D A (va_pl L1 f_2) := by
    obtain ⟨S1, h1, h2, h3, h4⟩ := newMk hI ho_2 hq_2 hoq_2 hfL_2 fo_2 fq_2
    exact ⟨_, S1, h1, by simp, h2, by simp, h3, h4, hP, hD⟩
  have su_5 := (hX_2 _ m_k).2.trans s_k
  have mu_5 := (hX_2 _ m_k).1
  have su_6 := (hX_2 _ m_k_p).2.trans s_k_p
  have mu_6 := (hX_2 _ m_k_p).1
  have hX := EXT_tr hX hX_2
  have hG := SG_ext hX_2 hG
  have hI := hI_2
  refine W.widen (k := 2) (n := 9) (Nat.le_of_ble_eq_true rfl) (Nat.le_of_ble_eq_true rfl) ?_
  refine lv_astore_n (lv' := [(1, .ref o_1), (0, .ref k)]) hx hb dX3_copy_7 rfl hl (by decide) rfl (fun ls hl => ?_)
  refine lv_iconst (v := 0) hx hb dX3_copy_8 (by decide) ?_
  refine lv_istore_n (lv' := [(2, .int 0), (1, .ref o_1), (0, .ref k)]) hx hb dX3_copy_9 rfl hl (by decide) rfl (fun ls hl => ?_)
  have loop10 : ∀ (ddloop10 : Nat) (ii : Int32) (f_7 : Nat → va_E) (H : Heap) (locs : List Loc) (ls : Array Slot), (20 - ii.toInt).toNat < ddloop10 → IN jn cI cR cM g L S f_7 → FRX L0 S0 [2, 3] f f_7 → (0 ≤ ii.toInt ∧ ii.toInt ≤ 7) → va_P D vwCl (va_pl L f_7) H → va_D A (va_pl L f_7) → va_S A s.heap H locs → lv_has ls 3 [(0, .ref k), (1, .ref o_1), (2, .int ii)] → W p l e ({ frames := 2, cells := 2, slots := 9, locals := 33 }) s m args below meth c H locs (2) (9) Q (F0 m 10 ls []) := by
    intro ddloop10
    induction ddloop10 with
    | zero =>
      intro ii f_7 H locs ls hdd
      exact absurd hdd (Nat.not_lt_zero _)
    | succ ddloop10 ih10 =>
      intro ii f_7 H locs ls hdd hI hF hi hP hD hS hl
      refine lv_iload_n hx hb dX3_copy_10 rfl (lv_at hl 2 rfl) ?_
      refine lv_aload_n hx hb dX3_copy_11 rfl (lv_at hl 0 rfl) ?_
      obtain ⟨cnt_8, fg_8, v1_8, v2_8, mp_8, sp_8⟩ := op_2 hI mu_5 su_5
      refine t_get (D := D) (L := L) (f := f_7) (ci := 3) (v := .int cnt_8) (C := RX3) (T := TX3) (N := 2) hx hb hts (by decide +kernel) hown hK.1 hP mu_5 fg_8 rfl 1 (by decide) (hts (.fieldLink RX3 15 "JugglingHall$Marks" "count" "I") (by decide +kernel)) (fun _ h9 => h9) rfl dX3_copy_12 ?_
      refine a_icmp_ge (u := ii.toInt) (v := cnt_8.toInt) (tgt := 35) hx hb dX3_copy_15 (by decide) (rfl) (rfl) (fun c_9 => ?_) (fun c_9 => ?_)
      · refine lv_aload_n hx hb dX3_copy_35 rfl (lv_at hl 1 rfl) ?_
        exact g_aret (o_1, L, S, f_7) hx hb hr hlocks hS rfl (⟨EXT_c eL0 eS0 hX, hI, FRX_c eL0 eS0 hF, (⟨_, mo_2, so_2⟩)⟩) hP hD hQ (Nat.le_of_ble_eq_true rfl) (Nat.le_of_ble_eq_true rfl) dX3_copy_36
      · refine lv_aload_n hx hb dX3_copy_18 rfl (lv_at hl 1 rfl) ?_
        refine lv_aload_n hx hb dX3_copy_19 rfl (lv_at hl 0 rfl) ?_
        refine t_get (D := D) (L := L) (f := f_7) (ci := 3) (v := .ref k_p) (C := RX3) (T := TX3) (N := 2) hx hb hts (by decide +kernel) hown hK.1 hP mu_5 fg_8 rfl 0 (by decide) (hts (.fieldLink RX3 9 "JugglingHall$Marks" "heights" "[I") (by decide +kernel)) (fun _ h9 => h9) rfl dX3_copy_20 ?_
        refine lv_iload_n hx hb dX3_copy_23 rfl (lv_at hl 2 rfl) ?_
        obtain ⟨c_10, fg_10⟩ := op_3 hI mu_6 su_6
        refine t_iald (L := L) (f := f_7) (y := c_10) (u := ii.toInt) hx hb hK.1 hP mu_6 0 fg_10 rfl dX3_copy_24 (rfl) (by omega) (fun z_11 q_11 e_11 => ?_)
        obtain ⟨cnt_12, fg_12, v1_12, v2_12, mp_12, sp_12⟩ := op_2 hI mo_2 so_2
        obtain ⟨c_13, fg_13⟩ := op_3 hI mq_2 sq_2
        refine call_p (va_runV (As := [.int z_11]) (rest := []) ⟨hx, hb, hml, hown, hts⟩ (t_X3_write l D cI cR cM _  hj hG hI mo_2 so_2 fg_12 fg_13 ) (cwV 1 hts gX3_copy_X3_write rfl rfl rfl (by decide +kernel) ⟨Nat.le_of_ble_eq_true rfl, Nat.le_of_ble_eq_true rfl⟩) (pre_T hK hP hD mo_2 fg_12 rfl) rfl rfl hl.1 rfl (lv_room (Nat.le_of_ble_eq_true rfl)) dX3_copy_25 ⟨Nat.le_of_ble_eq_true rfl, Nat.le_of_ble_eq_true rfl⟩) hD hS hA (fun u_14 H locs hw hP hD hS => ?_)
        obtain ⟨r_14, f_14⟩ := u_14
        obtain ⟨hI, hF_14, h01_14⟩ : IN jn cI cR cM g L S f_14 ∧ FR S [2, 3] f_7 f_14 ∧ (r_14.toInt = 0 ∨ r_14.toInt = 1) := hw
        have hP : va_P D vwCl (va_pl L f_14) H := hP
        have hD : va_D A (va_pl L f_14) := hD
        have hF := FRX_tr hF hX hF_14 (by decide)
        refine lv_pop hx hb dX3_copy_28 rfl ?_
        obtain ⟨z_15, q_15, e_15⟩ := i_inc (a := ii.toInt) (1) (rfl) (by decide) (by omega) (by omega)
        refine lv_iinc (v := z_15) (lv' := [(2, .int z_15), (0, .ref k), (1, .ref o_1)]) hx hb dX3_copy_29 hl (k := 2) rfl q_15 (by decide) rfl (fun ls hl => ?_)
        refine lv_goto (tgt := 10) hx hb dX3_copy_32 (by decide) ?_
        refine W.widen (k := 2) (n := 9) (by omega) (by omega) ?_
        exact ih10 z_15 f_14 _ _ _ (by omega) hI hF (by first | assumption | omega) hP hD hS (lv_sub hl [1, 2, 0] rfl)
  have hz_16 : (0 : Int32).toInt = 0 := by decide
  refine W.widen (k := 2) (n := 9) (by omega) (by omega) ?_
  exact loop10 ((20 - (0 : Int32).toInt).toNat + 1) (0 : Int32) f_2 _ _ _ (by omega) hI hF (by first | assumption | omega) hP hD hS (lv_sub hl [2, 1, 0] rfl)
set_option maxRecDepth 100000 in
set_option maxHeartbeats 4000000 in
theorem t_X5_height2 (l : Launch) (D : va_G) (cI cR cM : ClassId) (sz : Nat) {jn : Nat} {g : Nat → Nat} {L : List Nat} {S : Sg} {f : Nat → va_E} {b b_p b_n : Nat} {b_l : Int32} {b_c : Nat → Int32} {x : Int32}  (hj : 1 ≤ jn ∧ jn ≤ 3) (hG : SG g L S) (hI : IN jn cI cR cM g L S f) (m_b : b ∈ L) (s_b : S b = (0, b_p, b_n)) (f_b : f b = .inr (5, [.int (nI jn), .int (nI (2 * jn)), .ref b_p, .int b_l])) (f_b_p : f b_p = .inl (cI, b_n, .inl b_c))  : Met l yX5_height wsX5_height ({ frames := 0, cells := 0, slots := 0, locals := 0 }) (P0 D cI cR cM [.ref b, .int x] sz (va_pl L f)) (QP (fun r => (0 ≤ r.toInt ∧ r.toInt ≤ 9) ∧ (r.toInt ≠ 0 → 0 ≤ x.toInt ∧ x.toInt < (b_n : Int) ∧ (b_c x.toInt.toNat).toInt ≠ 0)) sz) 0 0 (va_A [] sz) := by
  refine go (cc := cX5_height) (maxL := 2) (ret := (some .int)) (by decide +kernel) rfl (Nat.le_of_ble_eq_true rfl) ?_
  intro p e s m below meth c ls args Q hQ hsz hx hb hr hml hts hown hlocks hnm hP hK hD hl
  subst hsz
  have hS : va_S (va_A [] s.heap.size) s.heap s.heap [] := va_S.rf
  have hA : ∀ q, s.heap.size ≤ q → va_A [] s.heap.size q := fun q h => Or.inr h
  have hl : lv_has ls 2 [(0, .ref b), (1, .int x)] := hl
  obtain ⟨v1_b, v2_b, v3_b, m_b_p, s_b_p⟩ := iv_0 hI m_b s_b f_b
  obtain ⟨w1_b, w2_b, w3_b, w4_b, w5_b⟩ := lenw hj v1_b v2_b v3_b
  have k_b := iv_1 hI m_b_p s_b_p f_b_p
  refine lv_iload_n hx hb dX5_height_0 rfl (lv_at hl 1 rfl) ?_
  refine a_if_lt (u := x.toInt) (tgt := 13) hx hb dX5_height_1 (by decide) (rfl) (fun c_1 => ?_) (fun c_1 => ?_)
  · refine lv_iconst (v := 0) hx hb dX5_height_13 (by decide) ?_
    refine lv_goto (tgt := 25) hx hb dX5_height_14 (by decide) ?_
    have hz_2 : (0 : Int32).toInt = 0 := by decide
    exact rp_iret hx hb hr hlocks hS (⟨show 0 ≤ (0 : Int32).toInt ∧ (0 : Int32).toInt ≤ 9 from (by first | assumption | omega), show (0 : Int32).toInt ≠ 0 → 0 ≤ x.toInt ∧ x.toInt < (b_n : Int) ∧ (b_c x.toInt.toNat).toInt ≠ 0 from (by first | assumption | omega)⟩) hQ dX5_height_25
  · refine lv_iload_n hx hb dX5_height_4 rfl (lv_at hl 1 rfl) ?_
    refine lv_aload_n hx hb dX5_height_5 rfl (lv_at hl 0 rfl) ?_
    refine t_get (D := D) (L := L) (f := f) (ci := 5) (v := .ref b_p) (C := RX5) (T := TX5) (N := 4) hx hb hts (by decide +kernel) hown hK.1 hP m_b f_b rfl 2 (by decide) (hts (.fieldLink RX5 24 "JugglingHall$Row" "cells" "[I") (by decide +kernel)) (fun _ h9 => h9) rfl dX5_height_6 ?_
    refine t_alen (L := L) (f := f) (v := nI b_n) hx hb hK.1 hP m_b_p 0 f_b_p rfl rfl dX5_height_9 ?_
    refine a_icmp_lt (u := x.toInt) (v := (b_n : Int)) (tgt := 17) hx hb dX5_height_10 (by decide) (rfl) (nI_toInt (by omega)) (fun c_3 => ?_) (fun c_3 => ?_)
    · refine lv_aload_n hx hb dX5_height_17 rfl (lv_at hl 0 rfl) ?_
      refine t_get (D := D) (L := L) (f := f) (ci := 5) (v := .ref b_p) (C := RX5) (T := TX5) (N := 4) hx hb hts (by decide +kernel) hown hK.1 hP m_b f_b rfl 2 (by decide) (hts (.fieldLink RX5 24 "JugglingHall$Row" "cells" "[I") (by decide +kernel)) (fun _ h9 => h9) rfl dX5_height_18 ?_
      refine lv_iload_n hx hb dX5_height_21 rfl (lv_at hl 1 rfl) ?_
      refine t_iald (L := L) (f := f) (y := b_c) (u := x.toInt) hx hb hK.1 hP m_b_p 0 f_b_p rfl dX5_height_22 (rfl) (by omega) (fun z_4 q_4 e_4 => ?_)
      obtain ⟨a1_4, a2_4, a3_4⟩ := at_c k_b (i := x.toInt) (by omega) q_4
      refine lv_iconst (v := 2) hx hb dX5_height_23 (by decide) ?_
      refine lv_ishr hx hb dX5_height_24 ?_
      refine lv_topi (fun z_5 q_5 => ?_)
      have e_5 : z_5.toInt = z_4.toInt / 4 := by rw [q_5]; exact shr2 (by omega)
      exact rp_iret hx hb hr hlocks hS (⟨show 0 ≤ z_5.toInt ∧ z_5.toInt ≤ 9 from (by first | assumption | omega), show z_5.toInt ≠ 0 → 0 ≤ x.toInt ∧ x.toInt < (b_n : Int) ∧ (b_c x.toInt.toNat).toInt ≠ 0 from (by first | assumption | omega)⟩) hQ dX5_height_25
    · refine lv_iconst (v := 0) hx hb dX5_height_13 (by decide) ?_
      refine lv_goto (tgt := 25) hx hb dX5_height_14 (by decide) ?_
      have hz_6 : (0 : Int32).toInt = 0 := by decide
      exact rp_iret hx hb hr hlocks hS (⟨show 0 ≤ (0 : Int32).toInt ∧ (0 : Int32).toInt ≤ 9 from (by first | assumption | omega), show (0 : Int32).toInt ≠ 0 → 0 ≤ x.toInt ∧ x.toInt < (b_n : Int) ∧ (b_c x.toInt.toNat).toInt ≠ 0 from (by first | assumption | omega)⟩) hQ dX5_height_25
set_option maxRecDepth 100000 in
set_option maxHeartbeats 4000000 in
theorem t_X1_without (l : Launch) (D : va_G) (cI cR cM : ClassId) (sz : Nat) {jn : Nat} {g : Nat → Nat} {L : List Nat} {S : Sg} {f : Nat → va_E} {kc : Int32} {b b_p b_n : Nat} {b_l : Int32} {b_c : Nat → Int32} {x : Int32}  (hj : 1 ≤ jn ∧ jn ≤ 3) (hG : SG g L S) (hI : IN jn cI cR cM g L S f) (f_cat : f (g 15) = .inr (1, [.ref (g 35), .ref (g 27), .ref (g 36), .ref (g 37), .ref (g 38), .ref (g 39), .int kc, va_rf (some b)])) (m_b : b ∈ L) (s_b : S b = (0, b_p, b_n)) (f_b : f b = .inr (5, [.int (nI jn), .int (nI (2 * jn)), .ref b_p, .int b_l])) (f_b_p : f b_p = .inl (cI, b_n, .inl b_c))  : Met l yX1_without wsX1_without ({ frames := 2, cells := 2, slots := 148, locals := 44 }) (P0 D cI cR cM [.ref (g 15), .int x] sz (va_pl L f)) (QG (S := Nat × List Nat × Sg × (Nat → va_E)) (fun u => some (.ref u.1)) (fun u => va_pl (u.2.1) (u.2.2.2)) (fun u => EXT L S u.2.1 u.2.2.1 ∧ IN jn cI cR cM g u.2.1 u.2.2.1 u.2.2.2 ∧ FRX L S [0, 1] f (u.2.2.2) ∧ (∃ p9 n9, isRow (u.2.1) (u.2.2.1) (u.1) p9 n9)) D (va_A (va_pl L f) sz)) 2 148 (va_A (va_pl L f) sz) := by
  refine go (cc := cX1_without) (maxL := 6) (ret := (some (.object "JugglingHall$Row"))) (by decide +kernel) rfl (Nat.le_of_ble_eq_true rfl) ?_
  intro p e s m below meth c ls args Q hQ hsz hx hb hr hml hts hown hlocks hnm hP hK hD hl
  subst hsz
  have hD := hD.self (sz := s.heap.size)
  generalize hAe : va_A (va_pl L f) s.heap.size = A at hD hQ
  have hA : ∀ q, s.heap.size ≤ q → A q := fun q h => by rw [← hAe]; exact Or.inr h
  have hS : va_S A s.heap s.heap [] := va_S.rf
  obtain ⟨L0, eL0⟩ : ∃ x, x = L := ⟨_, rfl⟩
  obtain ⟨S0, eS0⟩ : ∃ x, x = S := ⟨_, rfl⟩
  have hX : EXT L0 S0 L S := by rw [eL0, eS0]; exact EXT_rf
  have hF : FRX L0 S0 [0, 1] f f := FRX_rf
  have hl : lv_has ls 6 [(0, .ref (g 15)), (1, .int x)] := hl
  obtain ⟨v1_cat, v2_cat, v3_cat⟩ := iv_15 hI (gm_15 hG) (gs_15 hG) f_cat
  obtain ⟨v1_b, v2_b, v3_b, m_b_p, s_b_p⟩ := iv_0 hI m_b s_b f_b
  obtain ⟨w1_b, w2_b, w3_b, w4_b, w5_b⟩ := lenw hj v1_b v2_b v3_b
  have k_b := iv_1 hI m_b_p s_b_p f_b_p
  refine va_new (D := D) (ci := 5) (fs := [.int 0, .int 0, .null, .int 0]) (C := RX5) (T := TX5) (N := 4) hx hb hts (by decide +kernel) tyX5 tyX5_ok hown (hts (.classLink RX1 37 RX5) (by decide +kernel)) (hts (.instantiable RX5 4) (by decide +kernel)) (hts (.initialized RX5) (by decide +kernel)) hK.1 hP hD hS hA rfl (fun j hj => by rcases (show j = 0 ∨ j = 1 ∨ j = 2 ∨ j = 3 by omega) with rfl | rfl | rfl | rfl <;> rfl) (Nat.le_of_ble_eq_true rfl) (Nat.le_of_ble_eq_true rfl) dX1_without_0 (fun o_1 H hP hD hS => ?_)
  have hPo : va_P D vwCl ([(o_1, .inr (5, [.int 0, .int 0, .null, .int 0]))] ++ va_pl L f) H := swP hP
  have hDo : va_D A ([(o_1, .inr (5, [.int 0, .int 0, .null, .int 0]))] ++ va_pl L f) := swD hD
  have hP := tail_P hPo
  have hD := tail_D hDo
  refine W.widen (k := 1) (n := 4) (Nat.le_of_ble_eq_true rfl) (Nat.le_of_ble_eq_true rfl) ?_
  refine lv_dup hx hb dX1_without_3 rfl ?_
  refine lv_aload_n hx hb dX1_without_4 rfl (lv_at hl 0 rfl) ?_
  refine t_get (D := D) (L := L) (f := f) (ci := 1) (v := .ref b) (C := RX1) (T := TX1) (N := 8) hx hb hts (by decide +kernel) hown hK.1 hP (gm_15 hG) f_cat rfl 7 (by decide) (hts (.fieldLink RX1 60 "JugglingHall$Catches" "row" "LJugglingHall$Row;") (by decide +kernel)) (fun _ h9 => h9) rfl dX1_without_5 ?_
  refine t_getN (D := D) (L := L) (f := f) (ci := 5) (v := .int (nI jn)) (C := RX5) (T := TX5) (N := 4) (host := "JugglingHall") hx hb hts (by decide +kernel) hown hK.1 hP m_b f_b rfl 0 (by decide) (hK.nw (.fieldLinkNest RX1 92 "JugglingHall$Row" "jugglers" "I" "JugglingHall") (by decide +kernel) rfl) (fun _ h9 => h9) rfl dX1_without_8 ?_
  refine lv_aload_n hx hb dX1_without_11 rfl (lv_at hl 0 rfl) ?_
  refine t_get (D := D) (L := L) (f := f) (ci := 1) (v := .ref b) (C := RX1) (T := TX1) (N := 8) hx hb hts (by decide +kernel) hown hK.1 hP (gm_15 hG) f_cat rfl 7 (by decide) (hts (.fieldLink RX1 60 "JugglingHall$Catches" "row" "LJugglingHall$Row;") (by decide +kernel)) (fun _ h9 => h9) rfl dX1_without_12 ?_
  refine t_getN (D := D) (L := L) (f := f) (ci := 5) (v := .int b_l) (C := RX5) (T := TX5) (N := 4) (host := "JugglingHall") hx hb hts (by decide +kernel) hown hK.1 hP m_b f_b rfl 3 (by decide) (hK.nw (.fieldLinkNest RX1 95 "JugglingHall$Row" "length" "I" "JugglingHall") (by decide +kernel) rfl) (fun _ h9 => h9) rfl dX1_without_15 ?_
  obtain ⟨k_2, hk_2, ek_2⟩ := nI_ex (x := b_l) (N := 73) (by omega) (by decide)
  have ei_2 : b_l.toInt = (k_2 : Int) := by rw [ek_2, nI_toInt (by omega)]
  have hm_2 : k_2 * (jn * 2) ≤ 144 := by rcases j3 hj with h9 | h9 | h9 <;> subst h9 <;> omega
  refine lv_eqi (y := nI k_2) ek_2 ?_
  have hP1 := head_P hPo
  have hD1 := d_one o_1 (.inr (5, [.int 0, .int 0, .null, .int 0]))
  refine call_new (a := o_1) (eo := .inr (5, [.int 0, .int 0, .null, .int 0])) (L := L) (f := f) (va_runI (As := [.int (nI jn), .int (nI k_2)]) (rest := [.ref o_1]) ⟨hx, hb, hml, hown, hts⟩ (c_Row_init l D cI cR cM _ hj.1 hj.2 (cap := k_2) (by omega) hm_2 o_1) (cwI 2 hts ggX1_without_X5_init rfl rfl rfl (hts (.initialized RX5) (by decide +kernel)) (hts (.methodLink RX1 98 yX5_init) (by decide +kernel)) (hts (.instanceMethod yX5_init) (by decide +kernel)) rfl (by decide +kernel) ⟨Nat.le_of_ble_eq_true rfl, Nat.le_of_ble_eq_true rfl⟩) (pre_S hK hP1 hD1) rfl rfl hl.1 rfl (lv_room (Nat.le_of_ble_eq_true rfl)) dX1_without_18 ⟨Nat.le_of_ble_eq_true rfl, Nat.le_of_ble_eq_true rfl⟩) hPo hDo hS hA (fun u_2 H locs hw hP hD hS => ?_)
  have hP : va_P D vwCl ([(o_1, .inr (5, [.int (nI jn), .int (nI (2 * jn)), .ref (u_2 0), .int 0])), ((u_2 0), .inl (cI, k_2 * (jn * 2), .inl (fun _ => 0)))] ++ va_pl L f) H := by rw [Nat.mul_comm 2 jn]; exact hP
  have hD : va_D A ([(o_1, .inr (5, [.int (nI jn), .int (nI (2 * jn)), .ref (u_2 0), .int 0])), ((u_2 0), .inl (cI, k_2 * (jn * 2), .inl (fun _ => 0)))] ++ va_pl L f) := by rw [Nat.mul_comm 2 jn]; exact hD
  obtain ⟨f_2, fo_2, fq_2, hfL_2, ho_2, hq_2, hoq_2, hP, hD⟩ := absorb hP hD
  have fb_3 : f_2 (g 15) = .inr (1, [.ref (g 35), .ref (g 27), .ref (g 36), .ref (g 37), .ref (g 38), .ref (g 39), .int kc, va_rf (some b)]) := (hfL_2 _ (gm_15 hG)).trans f_cat
  have fb_4 : f_2 b = .inr (5, [.int (nI jn), .int (nI (2 * jn)), .ref b_p, .int b_l]) := (hfL_2 _ m_b).trans f_b
  have fb_5 : f_2 b_p = .inl (cI, b_n, .inl b_c) := (hfL_2 _ m_b_p).trans f_b_p
  have hF := FRX_trX (T1 := []) hF hX (fun b hb _ => hfL_2 b hb) (fun t ht => absurd ht (List.not_mem_nil))
  obtain ⟨L, S, n_2, hX_2, mo_2, so_2, mq_2, sq_2, hI_2, fq_2, hn_2, hP, hD⟩ : ∃ (L1 : List Nat) (S1 : Sg) (n1 : Nat), EXT L S L1 S1 ∧ o_1 ∈ L1 ∧ S1 o_1 = (0, (u_2 0), n1) ∧ (u_2 0) ∈ L1 ∧ S1 (u_2 0) = (1, n1, o_1) ∧ IN jn cI cR cM g L1 S1 f_2 ∧ f_2 (u_2 0) = .inl (cI, n1, .inl (fun _ => 0)) ∧ n1 ≤ 144 ∧ va_P D vwCl (va_pl L1 f_2) H ∧ va_D A (va_pl L1 f_2) := by
    obtain ⟨S1, h1, h2, h3, h4⟩ := newRow hI ho_2 hq_2 hoq_2 hfL_2 fo_2 fq_2 hm_2 (cOK_0 (fun _ _ => rfl))
    exact ⟨_, S1, _, h1, by simp, h2, by simp, h3, h4, fq_2, hm_2, hP, hD⟩
  have su_6 := (hX_2 _ m_b).2.trans s_b
  have mu_6 := (hX_2 _ m_b).1
  have su_7 := (hX_2 _ m_b_p).2.trans s_b_p
  have mu_7 := (hX_2 _ m_b_p).1
  have hX := EXT_tr hX hX_2
  have hG := SG_ext hX_2 hG
  have hI := hI_2
  have ok_2 : cOK jn n_2 (fun _ => 0) := cOK_0 (fun _ _ => rfl)
  refine W.widen (k := 2) (n := 148) (Nat.le_of_ble_eq_true rfl) (Nat.le_of_ble_eq_true rfl) ?_
  refine lv_astore_n (lv' := [(2, .ref o_1), (0, .ref (g 15)), (1, .int x)]) hx hb dX1_without_21 rfl hl (by decide) rfl (fun ls hl => ?_)
  refine lv_aload_n hx hb dX1_without_22 rfl (lv_at hl 0 rfl) ?_
  refine lv_aload_n hx hb dX1_without_23 rfl (lv_at hl 1 rfl) ?_
  refine t_get (D := D) (L := L) (f := f_2) (ci := 1) (v := .ref b) (C := RX1) (T := TX1) (N := 8) hx hb hts (by decide +kernel) hown hK.1 hP (gm_15 hG) fb_3 rfl 7 (by decide) (hts (.fieldLink RX1 60 "JugglingHall$Catches" "row" "LJugglingHall$Row;") (by decide +kernel)) (fun _ h9 => h9) rfl dX1_without_24 ?_
  refine t_getN (D := D) (L := L) (f := f_2) (ci := 5) (v := .int b_l) (C := RX5) (T := TX5) (N := 4) (host := "JugglingHall") hx hb hts (by decide +kernel) hown hK.1 hP mu_6 fb_4 rfl 3 (by decide) (hK.nw (.fieldLinkNest RX1 95 "JugglingHall$Row" "length" "I" "JugglingHall") (by decide +kernel) rfl) (fun _ h9 => h9) rfl dX1_without_27 ?_
  have hz_8 : (0 : Int32).toInt = 0 := by decide
  refine call_p (va_runV (As := [.int b_l]) (rest := []) ⟨hx, hb, hml, hown, hts⟩ (t_X5_reset l D cI cR cM _  hj hG hI mo_2 so_2 fo_2 fq_2 ) (cwV 1 hts gX1_without_X5_reset rfl rfl rfl (by decide +kernel) ⟨Nat.le_of_ble_eq_true rfl, Nat.le_of_ble_eq_true rfl⟩) (pre_T hK hP hD mo_2 fo_2 rfl) rfl rfl hl.1 rfl (lv_room (Nat.le_of_ble_eq_true rfl)) dX1_without_30 ⟨Nat.le_of_ble_eq_true rfl, Nat.le_of_ble_eq_true rfl⟩) hD hS hA (fun u_9 H locs hw hP hD hS => ?_)
  obtain ⟨f_9, e0_9⟩ : ∃ x, x = u_9 := ⟨_, rfl⟩
  subst e0_9
  obtain ⟨hI, hF_9⟩ : IN jn cI cR cM g L S f_9 ∧ FR S [0, 1] f_2 f_9 := hw
  have hP : va_P D vwCl (va_pl L f_9) H := hP
  have hD : va_D A (va_pl L f_9) := hD
  have hF := FRX_tr hF hX hF_9 (by decide)
  have fb_10 : f_9 (g 15) = .inr (1, [.ref (g 35), .ref (g 27), .ref (g 36), .ref (g 37), .ref (g 38), .ref (g 39), .int kc, va_rf (some b)]) := FR_at hF_9 (gs_15 hG) (show (15 : Nat) ∉ ([0, 1] : List Nat) by decide) fb_3
  refine lv_iconst (v := 0) hx hb dX1_without_33 (by decide) ?_
  refine lv_istore_n (lv' := [(3, .int 0), (2, .ref o_1), (0, .ref (g 15)), (1, .int x)]) hx hb dX1_without_34 rfl hl (by decide) rfl (fun ls hl => ?_)
  have loop35 : ∀ (ddloop35 : Nat) (ce : Int32) (k2 : Int32) (f_11 : Nat → va_E) (H : Heap) (locs : List Loc) (ls : Array Slot), (200 - ce.toInt).toNat < ddloop35 → IN jn cI cR cM g L S f_11 → FRX L0 S0 [0, 1] f f_11 → (f_11 (g 15) = .inr (1, [.ref (g 35), .ref (g 27), .ref (g 36), .ref (g 37), .ref (g 38), .ref (g 39), .int k2, va_rf (some b)])) → (0 ≤ ce.toInt ∧ ce.toInt ≤ 144) → va_P D vwCl (va_pl L f_11) H → va_D A (va_pl L f_11) → va_S A s.heap H locs → lv_has ls 6 [(0, .ref (g 15)), (1, .int x), (2, .ref o_1), (3, .int ce)] → W p l e ({ frames := 2, cells := 2, slots := 148, locals := 44 }) s m args below meth c H locs (2) (148) Q (F0 m 35 ls []) := by
    intro ddloop35
    induction ddloop35 with
    | zero =>
      intro ce k2 f_11 H locs ls hdd
      exact absurd hdd (Nat.not_lt_zero _)
    | succ ddloop35 ih35 =>
      intro ce k2 f_11 H locs ls hdd hI hF fc_11_g15 hi hP hD hS hl
      obtain ⟨iv0_12, iv1_12, iv2_12⟩ := iv_15 hI (gm_15 hG) (gs_15 hG) fc_11_g15
      refine lv_iload_n hx hb dX1_without_35 rfl (lv_at hl 3 rfl) ?_
      refine lv_aload_n hx hb dX1_without_36 rfl (lv_at hl 0 rfl) ?_
      refine t_get (D := D) (L := L) (f := f_11) (ci := 1) (v := .ref b) (C := RX1) (T := TX1) (N := 8) hx hb hts (by decide +kernel) hown hK.1 hP (gm_15 hG) fc_11_g15 rfl 7 (by decide) (hts (.fieldLink RX1 60 "JugglingHall$Catches" "row" "LJugglingHall$Row;") (by decide +kernel)) (fun _ h9 => h9) rfl dX1_without_37 ?_
      obtain ⟨len_13, fg_13, v1_13, v2_13, v3_13, mp_13, sp_13⟩ := op_0 hI mu_6 su_6
      obtain ⟨w1_13, w2_13, w3_13, w4_13, w5_13⟩ := lenw hj v1_13 v2_13 v3_13
      obtain ⟨c_14, fg_14, iv0_14⟩ := op_1 hI mu_7 su_7
      refine roP (va_runV (As := []) (rest := [.int ce]) ⟨hx, hb, hml, hown, hts⟩ (t_X5_cellCount l D cI cR cM _  hj hG hI mu_6 su_6 fg_13 fg_14 ) (cwV 0 hts gX1_without_X5_cellCount rfl rfl rfl (by decide +kernel) ⟨Nat.le_of_ble_eq_true rfl, Nat.le_of_ble_eq_true rfl⟩) (pre_T hK hP hD mu_6 fg_13 rfl) rfl rfl hl.1 rfl (lv_room (Nat.le_of_ble_eq_true rfl)) dX1_without_40 ⟨Nat.le_of_ble_eq_true rfl, Nat.le_of_ble_eq_true rfl⟩) hS hA hP (fun r_15 H locs hw hP hS => ?_)
      have h_15 : (r_15.toInt = len_13.toInt * (2 * (jn : Int))) := hw
      refine a_icmp_ge (u := ce.toInt) (v := r_15.toInt) (tgt := 131) hx hb dX1_without_43 (by decide) (rfl) (rfl) (fun c_16 => ?_) (fun c_16 => ?_)
      · refine lv_aload_n hx hb dX1_without_131 rfl (lv_at hl 2 rfl) ?_
        exact g_aret (o_1, L, S, f_11) hx hb hr hlocks hS rfl (⟨EXT_c eL0 eS0 hX, hI, FRX_c eL0 eS0 hF, (⟨_, _, mo_2, so_2⟩)⟩) hP hD hQ (Nat.le_of_ble_eq_true rfl) (Nat.le_of_ble_eq_true rfl) dX1_without_132
      · refine lv_aload_n hx hb dX1_without_46 rfl (lv_at hl 0 rfl) ?_
        refine t_get (D := D) (L := L) (f := f_11) (ci := 1) (v := .ref (g 36)) (C := RX1) (T := TX1) (N := 8) hx hb hts (by decide +kernel) hown hK.1 hP (gm_15 hG) fc_11_g15 rfl 2 (by decide) (hts (.fieldLink RX1 18 "JugglingHall$Catches" "cycleAt" "[I") (by decide +kernel)) (fun _ h9 => h9) rfl dX1_without_47 ?_
        refine lv_iload_n hx hb dX1_without_50 rfl (lv_at hl 3 rfl) ?_
        obtain ⟨c_17, fg_17⟩ := op_36 hI (gm_36 hG) (gs_36 hG)
        refine t_iald (L := L) (f := f_11) (y := c_17) (u := ce.toInt) hx hb hK.1 hP (gm_36 hG) 0 fg_17 rfl dX1_without_51 (rfl) (by omega) (fun z_18 q_18 e_18 => ?_)
        refine lv_istore (lv' := [(4, .int z_18), (0, .ref (g 15)), (1, .int x), (2, .ref o_1), (3, .int ce)]) hx hb dX1_without_52 hl (by decide) rfl (fun ls hl => ?_)
        refine lv_iload hx hb dX1_without_54 (lv_at hl 0 rfl) ?_
        refine a_if_lt (u := z_18.toInt) (tgt := 80) hx hb dX1_without_56 (by decide) (rfl) (fun c_19 => ?_) (fun c_19 => ?_)
        · refine lv_iconst (v := 0) hx hb dX1_without_80 (by decide) ?_
          refine lv_istore (lv' := [(5, .int 0), (4, .int z_18), (0, .ref (g 15)), (1, .int x), (2, .ref o_1), (3, .int ce)]) hx hb dX1_without_81 hl (by decide) rfl (fun ls hl => ?_)
          refine lv_iload hx hb dX1_without_83 (lv_at hl 0 rfl) ?_
          refine a_if_ne (u := 0) (tgt := 125) hx hb dX1_without_85 (by decide) (by decide) (fun c_20 => absurd c_20 (by omega)) (fun c_20 => ?_)
          refine lv_aload_n hx hb dX1_without_88 rfl (lv_at hl 4 rfl) ?_
          refine lv_aload_n hx hb dX1_without_89 rfl (lv_at hl 2 rfl) ?_
          refine t_get (D := D) (L := L) (f := f_11) (ci := 1) (v := .ref b) (C := RX1) (T := TX1) (N := 8) hx hb hts (by decide +kernel) hown hK.1 hP (gm_15 hG) fc_11_g15 rfl 7 (by decide) (hts (.fieldLink RX1 60 "JugglingHall$Catches" "row" "LJugglingHall$Row;") (by decide +kernel)) (fun _ h9 => h9) rfl dX1_without_90 ?_
          refine lv_iload_n hx hb dX1_without_93 rfl (lv_at hl 5 rfl) ?_
          refine roP (va_runV (As := [.int ce]) (rest := [.ref o_1]) ⟨hx, hb, hml, hown, hts⟩ (t_X5_beatOf l D cI cR cM _  hj hG hI mu_6 su_6 fg_13 fg_14 ) (cwV 1 hts gX1_without_X5_beatOf rfl rfl rfl (by decide +kernel) ⟨Nat.le_of_ble_eq_true rfl, Nat.le_of_ble_eq_true rfl⟩) (pre_T hK hP hD mu_6 fg_13 rfl) rfl rfl hl.1 rfl (lv_room (Nat.le_of_ble_eq_true rfl)) dX1_without_94 ⟨Nat.le_of_ble_eq_true rfl, Nat.le_of_ble_eq_true rfl⟩) hS hA hP (fun r_21 H locs hw hP hS => ?_)
          have h_21 : (0 ≤ ce.toInt → 0 ≤ r_21.toInt ∧ r_21.toInt ≤ ce.toInt) := hw
          refine lv_aload_n hx hb dX1_without_97 rfl (lv_at hl 2 rfl) ?_
          refine t_get (D := D) (L := L) (f := f_11) (ci := 1) (v := .ref b) (C := RX1) (T := TX1) (N := 8) hx hb hts (by decide +kernel) hown hK.1 hP (gm_15 hG) fc_11_g15 rfl 7 (by decide) (hts (.fieldLink RX1 60 "JugglingHall$Catches" "row" "LJugglingHall$Row;") (by decide +kernel)) (fun _ h9 => h9) rfl dX1_without_98 ?_
          refine lv_iload_n hx hb dX1_without_101 rfl (lv_at hl 5 rfl) ?_
          refine roP (va_runV (As := [.int ce]) (rest := [.int r_21, .ref o_1]) ⟨hx, hb, hml, hown, hts⟩ (t_X5_jugglerOf l D cI cR cM _  hj hG hI mu_6 su_6 fg_13 fg_14 ) (cwV 1 hts gX1_without_X5_jugglerOf rfl rfl rfl (by decide +kernel) ⟨Nat.le_of_ble_eq_true rfl, Nat.le_of_ble_eq_true rfl⟩) (pre_T hK hP hD mu_6 fg_13 rfl) rfl rfl hl.1 rfl (lv_room (Nat.le_of_ble_eq_true rfl)) dX1_without_102 ⟨Nat.le_of_ble_eq_true rfl, Nat.le_of_ble_eq_true rfl⟩) hS hA hP (fun r_22 H locs hw hP hS => ?_)
          have h_22 : (0 ≤ ce.toInt → 0 ≤ r_22.toInt ∧ r_22.toInt < (jn : Int)) := hw
          refine lv_aload_n hx hb dX1_without_105 rfl (lv_at hl 2 rfl) ?_
          refine t_get (D := D) (L := L) (f := f_11) (ci := 1) (v := .ref b) (C := RX1) (T := TX1) (N := 8) hx hb hts (by decide +kernel) hown hK.1 hP (gm_15 hG) fc_11_g15 rfl 7 (by decide) (hts (.fieldLink RX1 60 "JugglingHall$Catches" "row" "LJugglingHall$Row;") (by decide +kernel)) (fun _ h9 => h9) rfl dX1_without_106 ?_
          refine lv_iload_n hx hb dX1_without_109 rfl (lv_at hl 5 rfl) ?_
          refine roP (va_runV (As := [.int ce]) (rest := [.int r_22, .int r_21, .ref o_1]) ⟨hx, hb, hml, hown, hts⟩ (t_X5_height2 l D cI cR cM _  hj hG hI mu_6 su_6 fg_13 fg_14 ) (cwV 1 hts gX1_without_X5_height rfl rfl rfl (by decide +kernel) ⟨Nat.le_of_ble_eq_true rfl, Nat.le_of_ble_eq_true rfl⟩) (pre_T hK hP hD mu_6 fg_13 rfl) rfl rfl hl.1 rfl (lv_room (Nat.le_of_ble_eq_true rfl)) dX1_without_110 ⟨Nat.le_of_ble_eq_true rfl, Nat.le_of_ble_eq_true rfl⟩) hS hA hP (fun r_23 H locs hw hP hS => ?_)
          obtain ⟨h_23, hz_23⟩ : (0 ≤ r_23.toInt ∧ r_23.toInt ≤ 9) ∧ (r_23.toInt ≠ 0 → 0 ≤ ce.toInt ∧ ce.toInt < (b_n : Int) ∧ (c_14 ce.toInt.toNat).toInt ≠ 0) := hw
          refine lv_aload_n hx hb dX1_without_113 rfl (lv_at hl 2 rfl) ?_
          refine t_get (D := D) (L := L) (f := f_11) (ci := 1) (v := .ref b) (C := RX1) (T := TX1) (N := 8) hx hb hts (by decide +kernel) hown hK.1 hP (gm_15 hG) fc_11_g15 rfl 7 (by decide) (hts (.fieldLink RX1 60 "JugglingHall$Catches" "row" "LJugglingHall$Row;") (by decide +kernel)) (fun _ h9 => h9) rfl dX1_without_114 ?_
          refine lv_iload_n hx hb dX1_without_117 rfl (lv_at hl 5 rfl) ?_
          refine roP (va_runV (As := [.int ce]) (rest := [.int r_23, .int r_22, .int r_21, .ref o_1]) ⟨hx, hb, hml, hown, hts⟩ (t_X5_target l D cI cR cM _  hj hG hI mu_6 su_6 fg_13 fg_14 ) (cwV 1 hts gX1_without_X5_target rfl rfl rfl (by decide +kernel) ⟨Nat.le_of_ble_eq_true rfl, Nat.le_of_ble_eq_true rfl⟩) (pre_T hK hP hD mu_6 fg_13 rfl) rfl rfl hl.1 rfl (lv_room (Nat.le_of_ble_eq_true rfl)) dX1_without_118 ⟨Nat.le_of_ble_eq_true rfl, Nat.le_of_ble_eq_true rfl⟩) hS hA hP (fun r_24 H locs hw hP hS => ?_)
          obtain ⟨h_24, ht_24⟩ : (0 ≤ r_24.toInt ∧ r_24.toInt ≤ 3) ∧ (0 ≤ ce.toInt ∧ ce.toInt < (b_n : Int) ∧ (c_14 ce.toInt.toNat).toInt ≠ 0 → r_24.toInt < (jn : Int)) := hw
          obtain ⟨len_25, fg_25, v1_25, v2_25, v3_25, mp_25, sp_25⟩ := op_0 hI mo_2 so_2
          obtain ⟨w1_25, w2_25, w3_25, w4_25, w5_25⟩ := lenw hj v1_25 v2_25 v3_25
          obtain ⟨c_26, fg_26, iv0_26⟩ := op_1 hI mq_2 sq_2
          refine call_p (va_runV (As := [.int r_21, .int r_22, .int r_23, .int r_24]) (rest := []) ⟨hx, hb, hml, hown, hts⟩ (t_X5_put l D cI cR cM _  hj hG hI mo_2 so_2 fg_25 fg_26 (by first | assumption | omega) (by first | assumption | omega) (by first | assumption | omega) (by first | assumption | omega)) (cwV 4 hts gX1_without_X5_put rfl rfl rfl (by decide +kernel) ⟨Nat.le_of_ble_eq_true rfl, Nat.le_of_ble_eq_true rfl⟩) (pre_T hK hP hD mo_2 fg_25 rfl) rfl rfl hl.1 rfl (lv_room (Nat.le_of_ble_eq_true rfl)) dX1_without_121 ⟨Nat.le_of_ble_eq_true rfl, Nat.le_of_ble_eq_true rfl⟩) hD hS hA (fun u_27 H locs hw hP hD hS => ?_)
          obtain ⟨r_27, f_27⟩ := u_27
          obtain ⟨hI, hF_27, h01_27⟩ : IN jn cI cR cM g L S f_27 ∧ FR S [1] f_11 f_27 ∧ (r_27.toInt = 0 ∨ r_27.toInt = 1) := hw
          have hP : va_P D vwCl (va_pl L f_27) H := hP
          have hD : va_D A (va_pl L f_27) := hD
          have hF := FRX_tr hF hX hF_27 (by decide)
          have fb_28 : f_27 (g 15) = .inr (1, [.ref (g 35), .ref (g 27), .ref (g 36), .ref (g 37), .ref (g 38), .ref (g 39), .int k2, va_rf (some b)]) := FR_at hF_27 (gs_15 hG) (show (15 : Nat) ∉ ([1] : List Nat) by decide) fc_11_g15
          have fb_29 : f_27 b = .inr (5, [.int (nI jn), .int (nI (2 * jn)), .ref b_p, .int len_13]) := FR_at hF_27 su_6 (show (0 : Nat) ∉ ([1] : List Nat) by decide) fg_13
          have fb_30 : f_27 (g 36) = .inl (cI, 144, .inl c_17) := FR_at hF_27 (gs_36 hG) (show (36 : Nat) ∉ ([1] : List Nat) by decide) fg_17
          have fb_31 : f_27 o_1 = .inr (5, [.int (nI jn), .int (nI (2 * jn)), .ref (u_2 0), .int len_25]) := FR_at hF_27 so_2 (show (0 : Nat) ∉ ([1] : List Nat) by decide) fg_25
          refine lv_pop hx hb dX1_without_124 rfl ?_
          obtain ⟨z_32, q_32, e_32⟩ := i_inc (a := ce.toInt) (1) (rfl) (by decide) (by omega) (by omega)
          refine lv_iinc (v := z_32) (lv' := [(3, .int z_32), (5, .int 0), (4, .int z_18), (0, .ref (g 15)), (1, .int x), (2, .ref o_1)]) hx hb dX1_without_125 hl (k := 5) rfl q_32 (by decide) rfl (fun ls hl => ?_)
          refine lv_goto (tgt := 35) hx hb dX1_without_128 (by decide) ?_
          refine W.widen (k := 2) (n := 148) (by omega) (by omega) ?_
          exact ih35 z_32 k2 f_27 _ _ _ (by omega) hI hF fb_28 (by first | assumption | omega) hP hD hS (lv_sub hl [3, 4, 5, 0] rfl)
        · refine lv_iload hx hb dX1_without_59 (lv_at hl 0 rfl) ?_
          refine lv_bipush (v := 32) hx hb dX1_without_61 (by decide) ?_
          refine a_icmp_ge (u := z_18.toInt) (v := 32) (tgt := 80) hx hb dX1_without_63 (by decide) (rfl) (by decide) (fun c_33 => ?_) (fun c_33 => ?_)
          · refine lv_iconst (v := 0) hx hb dX1_without_80 (by decide) ?_
            refine lv_istore (lv' := [(5, .int 0), (4, .int z_18), (0, .ref (g 15)), (1, .int x), (2, .ref o_1), (3, .int ce)]) hx hb dX1_without_81 hl (by decide) rfl (fun ls hl => ?_)
            refine lv_iload hx hb dX1_without_83 (lv_at hl 0 rfl) ?_
            refine a_if_ne (u := 0) (tgt := 125) hx hb dX1_without_85 (by decide) (by decide) (fun c_34 => absurd c_34 (by omega)) (fun c_34 => ?_)
            refine lv_aload_n hx hb dX1_without_88 rfl (lv_at hl 4 rfl) ?_
            refine lv_aload_n hx hb dX1_without_89 rfl (lv_at hl 2 rfl) ?_
            refine t_get (D := D) (L := L) (f := f_11) (ci := 1) (v := .ref b) (C := RX1) (T := TX1) (N := 8) hx hb hts (by decide +kernel) hown hK.1 hP (gm_15 hG) fc_11_g15 rfl 7 (by decide) (hts (.fieldLink RX1 60 "JugglingHall$Catches" "row" "LJugglingHall$Row;") (by decide +kernel)) (fun _ h9 => h9) rfl dX1_without_90 ?_
            refine lv_iload_n hx hb dX1_without_93 rfl (lv_at hl 5 rfl) ?_
            refine roP (va_runV (As := [.int ce]) (rest := [.ref o_1]) ⟨hx, hb, hml, hown, hts⟩ (t_X5_beatOf l D cI cR cM _  hj hG hI mu_6 su_6 fg_13 fg_14 ) (cwV 1 hts gX1_without_X5_beatOf rfl rfl rfl (by decide +kernel) ⟨Nat.le_of_ble_eq_true rfl, Nat.le_of_ble_eq_true rfl⟩) (pre_T hK hP hD mu_6 fg_13 rfl) rfl rfl hl.1 rfl (lv_room (Nat.le_of_ble_eq_true rfl)) dX1_without_94 ⟨Nat.le_of_ble_eq_true rfl, Nat.le_of_ble_eq_true rfl⟩) hS hA hP (fun r_35 H locs hw hP hS => ?_)
            have h_35 : (0 ≤ ce.toInt → 0 ≤ r_35.toInt ∧ r_35.toInt ≤ ce.toInt) := hw
            refine lv_aload_n hx hb dX1_without_97 rfl (lv_at hl 2 rfl) ?_
            refine t_get (D := D) (L := L) (f := f_11) (ci := 1) (v := .ref b) (C := RX1) (T := TX1) (N := 8) hx hb hts (by decide +kernel) hown hK.1 hP (gm_15 hG) fc_11_g15 rfl 7 (by decide) (hts (.fieldLink RX1 60 "JugglingHall$Catches" "row" "LJugglingHall$Row;") (by decide +kernel)) (fun _ h9 => h9) rfl dX1_without_98 ?_
            refine lv_iload_n hx hb dX1_without_101 rfl (lv_at hl 5 rfl) ?_
            refine roP (va_runV (As := [.int ce]) (rest := [.int r_35, .ref o_1]) ⟨hx, hb, hml, hown, hts⟩ (t_X5_jugglerOf l D cI cR cM _  hj hG hI mu_6 su_6 fg_13 fg_14 ) (cwV 1 hts gX1_without_X5_jugglerOf rfl rfl rfl (by decide +kernel) ⟨Nat.le_of_ble_eq_true rfl, Nat.le_of_ble_eq_true rfl⟩) (pre_T hK hP hD mu_6 fg_13 rfl) rfl rfl hl.1 rfl (lv_room (Nat.le_of_ble_eq_true rfl)) dX1_without_102 ⟨Nat.le_of_ble_eq_true rfl, Nat.le_of_ble_eq_true rfl⟩) hS hA hP (fun r_36 H locs hw hP hS => ?_)
            have h_36 : (0 ≤ ce.toInt → 0 ≤ r_36.toInt ∧ r_36.toInt < (jn : Int)) := hw
            refine lv_aload_n hx hb dX1_without_105 rfl (lv_at hl 2 rfl) ?_
            refine t_get (D := D) (L := L) (f := f_11) (ci := 1) (v := .ref b) (C := RX1) (T := TX1) (N := 8) hx hb hts (by decide +kernel) hown hK.1 hP (gm_15 hG) fc_11_g15 rfl 7 (by decide) (hts (.fieldLink RX1 60 "JugglingHall$Catches" "row" "LJugglingHall$Row;") (by decide +kernel)) (fun _ h9 => h9) rfl dX1_without_106 ?_
            refine lv_iload_n hx hb dX1_without_109 rfl (lv_at hl 5 rfl) ?_
            refine roP (va_runV (As := [.int ce]) (rest := [.int r_36, .int r_35, .ref o_1]) ⟨hx, hb, hml, hown, hts⟩ (t_X5_height2 l D cI cR cM _  hj hG hI mu_6 su_6 fg_13 fg_14 ) (cwV 1 hts gX1_without_X5_height rfl rfl rfl (by decide +kernel) ⟨Nat.le_of_ble_eq_true rfl, Nat.le_of_ble_eq_true rfl⟩) (pre_T hK hP hD mu_6 fg_13 rfl) rfl rfl hl.1 rfl (lv_room (Nat.le_of_ble_eq_true rfl)) dX1_without_110 ⟨Nat.le_of_ble_eq_true rfl, Nat.le_of_ble_eq_true rfl⟩) hS hA hP (fun r_37 H locs hw hP hS => ?_)
            obtain ⟨h_37, hz_37⟩ : (0 ≤ r_37.toInt ∧ r_37.toInt ≤ 9) ∧ (r_37.toInt ≠ 0 → 0 ≤ ce.toInt ∧ ce.toInt < (b_n : Int) ∧ (c_14 ce.toInt.toNat).toInt ≠ 0) := hw
            refine lv_aload_n hx hb dX1_without_113 rfl (lv_at hl 2 rfl) ?_
            refine t_get (D := D) (L := L) (f := f_11) (ci := 1) (v := .ref b) (C := RX1) (T := TX1) (N := 8) hx hb hts (by decide +kernel) hown hK.1 hP (gm_15 hG) fc_11_g15 rfl 7 (by decide) (hts (.fieldLink RX1 60 "JugglingHall$Catches" "row" "LJugglingHall$Row;") (by decide +kernel)) (fun _ h9 => h9) rfl dX1_without_114 ?_
            refine lv_iload_n hx hb dX1_without_117 rfl (lv_at hl 5 rfl) ?_
            refine roP (va_runV (As := [.int ce]) (rest := [.int r_37, .int r_36, .int r_35, .ref o_1]) ⟨hx, hb, hml, hown, hts⟩ (t_X5_target l D cI cR cM _  hj hG hI mu_6 su_6 fg_13 fg_14 ) (cwV 1 hts gX1_without_X5_target rfl rfl rfl (by decide +kernel) ⟨Nat.le_of_ble_eq_true rfl, Nat.le_of_ble_eq_true rfl⟩) (pre_T hK hP hD mu_6 fg_13 rfl) rfl rfl hl.1 rfl (lv_room (Nat.le_of_ble_eq_true rfl)) dX1_without_118 ⟨Nat.le_of_ble_eq_true rfl, Nat.le_of_ble_eq_true rfl⟩) hS hA hP (fun r_38 H locs hw hP hS => ?_)
            obtain ⟨h_38, ht_38⟩ : (0 ≤ r_38.toInt ∧ r_38.toInt ≤ 3) ∧ (0 ≤ ce.toInt ∧ ce.toInt < (b_n : Int) ∧ (c_14 ce.toInt.toNat).toInt ≠ 0 → r_38.toInt < (jn : Int)) := hw
            obtain ⟨len_39, fg_39, v1_39, v2_39, v3_39, mp_39, sp_39⟩ := op_0 hI mo_2 so_2
            obtain ⟨w1_39, w2_39, w3_39, w4_39, w5_39⟩ := lenw hj v1_39 v2_39 v3_39
            obtain ⟨c_40, fg_40, iv0_40⟩ := op_1 hI mq_2 sq_2
            refine call_p (va_runV (As := [.int r_35, .int r_36, .int r_37, .int r_38]) (rest := []) ⟨hx, hb, hml, hown, hts⟩ (t_X5_put l D cI cR cM _  hj hG hI mo_2 so_2 fg_39 fg_40 (by first | assumption | omega) (by first | assumption | omega) (by first | assumption | omega) (by first | assumption | omega)) (cwV 4 hts gX1_without_X5_put rfl rfl rfl (by decide +kernel) ⟨Nat.le_of_ble_eq_true rfl, Nat.le_of_ble_eq_true rfl⟩) (pre_T hK hP hD mo_2 fg_39 rfl) rfl rfl hl.1 rfl (lv_room (Nat.le_of_ble_eq_true rfl)) dX1_without_121 ⟨Nat.le_of_ble_eq_true rfl, Nat.le_of_ble_eq_true rfl⟩) hD hS hA (fun u_41 H locs hw hP hD hS => ?_)
            obtain ⟨r_41, f_41⟩ := u_41
            obtain ⟨hI, hF_41, h01_41⟩ : IN jn cI cR cM g L S f_41 ∧ FR S [1] f_11 f_41 ∧ (r_41.toInt = 0 ∨ r_41.toInt = 1) := hw
            have hP : va_P D vwCl (va_pl L f_41) H := hP
            have hD : va_D A (va_pl L f_41) := hD
            have hF := FRX_tr hF hX hF_41 (by decide)
            have fb_42 : f_41 (g 15) = .inr (1, [.ref (g 35), .ref (g 27), .ref (g 36), .ref (g 37), .ref (g 38), .ref (g 39), .int k2, va_rf (some b)]) := FR_at hF_41 (gs_15 hG) (show (15 : Nat) ∉ ([1] : List Nat) by decide) fc_11_g15
            have fb_43 : f_41 b = .inr (5, [.int (nI jn), .int (nI (2 * jn)), .ref b_p, .int len_13]) := FR_at hF_41 su_6 (show (0 : Nat) ∉ ([1] : List Nat) by decide) fg_13
            have fb_44 : f_41 (g 36) = .inl (cI, 144, .inl c_17) := FR_at hF_41 (gs_36 hG) (show (36 : Nat) ∉ ([1] : List Nat) by decide) fg_17
            have fb_45 : f_41 o_1 = .inr (5, [.int (nI jn), .int (nI (2 * jn)), .ref (u_2 0), .int len_39]) := FR_at hF_41 so_2 (show (0 : Nat) ∉ ([1] : List Nat) by decide) fg_39
            refine lv_pop hx hb dX1_without_124 rfl ?_
            obtain ⟨z_46, q_46, e_46⟩ := i_inc (a := ce.toInt) (1) (rfl) (by decide) (by omega) (by omega)
            refine lv_iinc (v := z_46) (lv' := [(3, .int z_46), (5, .int 0), (4, .int z_18), (0, .ref (g 15)), (1, .int x), (2, .ref o_1)]) hx hb dX1_without_125 hl (k := 5) rfl q_46 (by decide) rfl (fun ls hl => ?_)
            refine lv_goto (tgt := 35) hx hb dX1_without_128 (by decide) ?_
            refine W.widen (k := 2) (n := 148) (by omega) (by omega) ?_
            exact ih35 z_46 k2 f_41 _ _ _ (by omega) hI hF fb_42 (by first | assumption | omega) hP hD hS (lv_sub hl [3, 4, 5, 0] rfl)
          · refine lv_iload_n hx hb dX1_without_66 rfl (lv_at hl 2 rfl) ?_
            refine lv_iload hx hb dX1_without_67 (lv_at hl 0 rfl) ?_
            refine lv_iushr hx hb dX1_without_69 rfl ?_
            refine lv_topi (fun z_47 q_47 => ?_)
            refine lv_iconst (v := 1) hx hb dX1_without_70 (by decide) ?_
            refine lv_iand hx hb dX1_without_71 ?_
            refine lv_topi (fun z_48 q_48 => ?_)
            refine lv_iconst (v := 1) hx hb dX1_without_72 (by decide) ?_
            refine a_icmp_ne (u := z_48.toInt) (v := 1) (tgt := 80) hx hb dX1_without_73 (by decide) (rfl) (by decide) (fun c_49 => ?_) (fun c_49 => ?_)
            · refine lv_iconst (v := 0) hx hb dX1_without_80 (by decide) ?_
              refine lv_istore (lv' := [(5, .int 0), (4, .int z_18), (0, .ref (g 15)), (1, .int x), (2, .ref o_1), (3, .int ce)]) hx hb dX1_without_81 hl (by decide) rfl (fun ls hl => ?_)
              refine lv_iload hx hb dX1_without_83 (lv_at hl 0 rfl) ?_
              refine a_if_ne (u := 0) (tgt := 125) hx hb dX1_without_85 (by decide) (by decide) (fun c_50 => absurd c_50 (by omega)) (fun c_50 => ?_)
              refine lv_aload_n hx hb dX1_without_88 rfl (lv_at hl 4 rfl) ?_
              refine lv_aload_n hx hb dX1_without_89 rfl (lv_at hl 2 rfl) ?_
              refine t_get (D := D) (L := L) (f := f_11) (ci := 1) (v := .ref b) (C := RX1) (T := TX1) (N := 8) hx hb hts (by decide +kernel) hown hK.1 hP (gm_15 hG) fc_11_g15 rfl 7 (by decide) (hts (.fieldLink RX1 60 "JugglingHall$Catches" "row" "LJugglingHall$Row;") (by decide +kernel)) (fun _ h9 => h9) rfl dX1_without_90 ?_
              refine lv_iload_n hx hb dX1_without_93 rfl (lv_at hl 5 rfl) ?_
              refine roP (va_runV (As := [.int ce]) (rest := [.ref o_1]) ⟨hx, hb, hml, hown, hts⟩ (t_X5_beatOf l D cI cR cM _  hj hG hI mu_6 su_6 fg_13 fg_14 ) (cwV 1 hts gX1_without_X5_beatOf rfl rfl rfl (by decide +kernel) ⟨Nat.le_of_ble_eq_true rfl, Nat.le_of_ble_eq_true rfl⟩) (pre_T hK hP hD mu_6 fg_13 rfl) rfl rfl hl.1 rfl (lv_room (Nat.le_of_ble_eq_true rfl)) dX1_without_94 ⟨Nat.le_of_ble_eq_true rfl, Nat.le_of_ble_eq_true rfl⟩) hS hA hP (fun r_51 H locs hw hP hS => ?_)
              have h_51 : (0 ≤ ce.toInt → 0 ≤ r_51.toInt ∧ r_51.toInt ≤ ce.toInt) := hw
              refine lv_aload_n hx hb dX1_without_97 rfl (lv_at hl 2 rfl) ?_
              refine t_get (D := D) (L := L) (f := f_11) (ci := 1) (v := .ref b) (C := RX1) (T := TX1) (N := 8) hx hb hts (by decide +kernel) hown hK.1 hP (gm_15 hG) fc_11_g15 rfl 7 (by decide) (hts (.fieldLink RX1 60 "JugglingHall$Catches" "row" "LJugglingHall$Row;") (by decide +kernel)) (fun _ h9 => h9) rfl dX1_without_98 ?_
              refine lv_iload_n hx hb dX1_without_101 rfl (lv_at hl 5 rfl) ?_
              refine roP (va_runV (As := [.int ce]) (rest := [.int r_51, .ref o_1]) ⟨hx, hb, hml, hown, hts⟩ (t_X5_jugglerOf l D cI cR cM _  hj hG hI mu_6 su_6 fg_13 fg_14 ) (cwV 1 hts gX1_without_X5_jugglerOf rfl rfl rfl (by decide +kernel) ⟨Nat.le_of_ble_eq_true rfl, Nat.le_of_ble_eq_true rfl⟩) (pre_T hK hP hD mu_6 fg_13 rfl) rfl rfl hl.1 rfl (lv_room (Nat.le_of_ble_eq_true rfl)) dX1_without_102 ⟨Nat.le_of_ble_eq_true rfl, Nat.le_of_ble_eq_true rfl⟩) hS hA hP (fun r_52 H locs hw hP hS => ?_)
              have h_52 : (0 ≤ ce.toInt → 0 ≤ r_52.toInt ∧ r_52.toInt < (jn : Int)) := hw
              refine lv_aload_n hx hb dX1_without_105 rfl (lv_at hl 2 rfl) ?_
              refine t_get (D := D) (L := L) (f := f_11) (ci := 1) (v := .ref b) (C := RX1) (T := TX1) (N := 8) hx hb hts (by decide +kernel) hown hK.1 hP (gm_15 hG) fc_11_g15 rfl 7 (by decide) (hts (.fieldLink RX1 60 "JugglingHall$Catches" "row" "LJugglingHall$Row;") (by decide +kernel)) (fun _ h9 => h9) rfl dX1_without_106 ?_
              refine lv_iload_n hx hb dX1_without_109 rfl (lv_at hl 5 rfl) ?_
              refine roP (va_runV (As := [.int ce]) (rest := [.int r_52, .int r_51, .ref o_1]) ⟨hx, hb, hml, hown, hts⟩ (t_X5_height2 l D cI cR cM _  hj hG hI mu_6 su_6 fg_13 fg_14 ) (cwV 1 hts gX1_without_X5_height rfl rfl rfl (by decide +kernel) ⟨Nat.le_of_ble_eq_true rfl, Nat.le_of_ble_eq_true rfl⟩) (pre_T hK hP hD mu_6 fg_13 rfl) rfl rfl hl.1 rfl (lv_room (Nat.le_of_ble_eq_true rfl)) dX1_without_110 ⟨Nat.le_of_ble_eq_true rfl, Nat.le_of_ble_eq_true rfl⟩) hS hA hP (fun r_53 H locs hw hP hS => ?_)
              obtain ⟨h_53, hz_53⟩ : (0 ≤ r_53.toInt ∧ r_53.toInt ≤ 9) ∧ (r_53.toInt ≠ 0 → 0 ≤ ce.toInt ∧ ce.toInt < (b_n : Int) ∧ (c_14 ce.toInt.toNat).toInt ≠ 0) := hw
              refine lv_aload_n hx hb dX1_without_113 rfl (lv_at hl 2 rfl) ?_
              refine t_get (D := D) (L := L) (f := f_11) (ci := 1) (v := .ref b) (C := RX1) (T := TX1) (N := 8) hx hb hts (by decide +kernel) hown hK.1 hP (gm_15 hG) fc_11_g15 rfl 7 (by decide) (hts (.fieldLink RX1 60 "JugglingHall$Catches" "row" "LJugglingHall$Row;") (by decide +kernel)) (fun _ h9 => h9) rfl dX1_without_114 ?_
              refine lv_iload_n hx hb dX1_without_117 rfl (lv_at hl 5 rfl) ?_
              refine roP (va_runV (As := [.int ce]) (rest := [.int r_53, .int r_52, .int r_51, .ref o_1]) ⟨hx, hb, hml, hown, hts⟩ (t_X5_target l D cI cR cM _  hj hG hI mu_6 su_6 fg_13 fg_14 ) (cwV 1 hts gX1_without_X5_target rfl rfl rfl (by decide +kernel) ⟨Nat.le_of_ble_eq_true rfl, Nat.le_of_ble_eq_true rfl⟩) (pre_T hK hP hD mu_6 fg_13 rfl) rfl rfl hl.1 rfl (lv_room (Nat.le_of_ble_eq_true rfl)) dX1_without_118 ⟨Nat.le_of_ble_eq_true rfl, Nat.le_of_ble_eq_true rfl⟩) hS hA hP (fun r_54 H locs hw hP hS => ?_)
              obtain ⟨h_54, ht_54⟩ : (0 ≤ r_54.toInt ∧ r_54.toInt ≤ 3) ∧ (0 ≤ ce.toInt ∧ ce.toInt < (b_n : Int) ∧ (c_14 ce.toInt.toNat).toInt ≠ 0 → r_54.toInt < (jn : Int)) := hw
              obtain ⟨len_55, fg_55, v1_55, v2_55, v3_55, mp_55, sp_55⟩ := op_0 hI mo_2 so_2
              obtain ⟨w1_55, w2_55, w3_55, w4_55, w5_55⟩ := lenw hj v1_55 v2_55 v3_55
              obtain ⟨c_56, fg_56, iv0_56⟩ := op_1 hI mq_2 sq_2
              refine call_p (va_runV (As := [.int r_51, .int r_52, .int r_53, .int r_54]) (rest := []) ⟨hx, hb, hml, hown, hts⟩ (t_X5_put l D cI cR cM _  hj hG hI mo_2 so_2 fg_55 fg_56 (by first | assumption | omega) (by first | assumption | omega) (by first | assumption | omega) (by first | assumption | omega)) (cwV 4 hts gX1_without_X5_put rfl rfl rfl (by decide +kernel) ⟨Nat.le_of_ble_eq_true rfl, Nat.le_of_ble_eq_true rfl⟩) (pre_T hK hP hD mo_2 fg_55 rfl) rfl rfl hl.1 rfl (lv_room (Nat.le_of_ble_eq_true rfl)) dX1_without_121 ⟨Nat.le_of_ble_eq_true rfl, Nat.le_of_ble_eq_true rfl⟩) hD hS hA (fun u_57 H locs hw hP hD hS => ?_)
              obtain ⟨r_57, f_57⟩ := u_57
              obtain ⟨hI, hF_57, h01_57⟩ : IN jn cI cR cM g L S f_57 ∧ FR S [1] f_11 f_57 ∧ (r_57.toInt = 0 ∨ r_57.toInt = 1) := hw
              have hP : va_P D vwCl (va_pl L f_57) H := hP
              have hD : va_D A (va_pl L f_57) := hD
              have hF := FRX_tr hF hX hF_57 (by decide)
              have fb_58 : f_57 (g 15) = .inr (1, [.ref (g 35), .ref (g 27), .ref (g 36), .ref (g 37), .ref (g 38), .ref (g 39), .int k2, va_rf (some b)]) := FR_at hF_57 (gs_15 hG) (show (15 : Nat) ∉ ([1] : List Nat) by decide) fc_11_g15
              have fb_59 : f_57 b = .inr (5, [.int (nI jn), .int (nI (2 * jn)), .ref b_p, .int len_13]) := FR_at hF_57 su_6 (show (0 : Nat) ∉ ([1] : List Nat) by decide) fg_13
              have fb_60 : f_57 (g 36) = .inl (cI, 144, .inl c_17) := FR_at hF_57 (gs_36 hG) (show (36 : Nat) ∉ ([1] : List Nat) by decide) fg_17
              have fb_61 : f_57 o_1 = .inr (5, [.int (nI jn), .int (nI (2 * jn)), .ref (u_2 0), .int len_55]) := FR_at hF_57 so_2 (show (0 : Nat) ∉ ([1] : List Nat) by decide) fg_55
              refine lv_pop hx hb dX1_without_124 rfl ?_
              obtain ⟨z_62, q_62, e_62⟩ := i_inc (a := ce.toInt) (1) (rfl) (by decide) (by omega) (by omega)
              refine lv_iinc (v := z_62) (lv' := [(3, .int z_62), (5, .int 0), (4, .int z_18), (0, .ref (g 15)), (1, .int x), (2, .ref o_1)]) hx hb dX1_without_125 hl (k := 5) rfl q_62 (by decide) rfl (fun ls hl => ?_)
              refine lv_goto (tgt := 35) hx hb dX1_without_128 (by decide) ?_
              refine W.widen (k := 2) (n := 148) (by omega) (by omega) ?_
              exact ih35 z_62 k2 f_57 _ _ _ (by omega) hI hF fb_58 (by first | assumption | omega) hP hD hS (lv_sub hl [3, 4, 5, 0] rfl)
            · refine lv_iconst (v := 1) hx hb dX1_without_76 (by decide) ?_
              refine lv_goto (tgt := 81) hx hb dX1_without_77 (by decide) ?_
              refine lv_istore (lv' := [(5, .int 1), (4, .int z_18), (0, .ref (g 15)), (1, .int x), (2, .ref o_1), (3, .int ce)]) hx hb dX1_without_81 hl (by decide) rfl (fun ls hl => ?_)
              refine lv_iload hx hb dX1_without_83 (lv_at hl 0 rfl) ?_
              refine a_if_ne (u := 1) (tgt := 125) hx hb dX1_without_85 (by decide) (by decide) (fun c_63 => ?_) (fun c_63 => absurd c_63 (by omega))
              obtain ⟨z_64, q_64, e_64⟩ := i_inc (a := ce.toInt) (1) (rfl) (by decide) (by omega) (by omega)
              refine lv_iinc (v := z_64) (lv' := [(3, .int z_64), (5, .int 1), (4, .int z_18), (0, .ref (g 15)), (1, .int x), (2, .ref o_1)]) hx hb dX1_without_125 hl (k := 5) rfl q_64 (by decide) rfl (fun ls hl => ?_)
              refine lv_goto (tgt := 35) hx hb dX1_without_128 (by decide) ?_
              refine W.widen (k := 2) (n := 148) (by omega) (by omega) ?_
              exact ih35 z_64 k2 f_11 _ _ _ (by omega) hI hF fc_11_g15 (by first | assumption | omega) hP hD hS (lv_sub hl [3, 4, 5, 0] rfl)
  have hz_65 : (0 : Int32).toInt = 0 := by decide
  refine W.widen (k := 2) (n := 148) (by omega) (by omega) ?_
  exact loop35 ((200 - (0 : Int32).toInt).toNat + 1) (0 : Int32) kc f_9 _ _ _ (by omega) hI hF fb_10 (by first | assumption | omega) hP hD hS (lv_sub hl [2, 3, 1, 0] rfl)
set_option maxRecDepth 100000 in
set_option maxHeartbeats 4000000 in
theorem t_X4_tellAll (l : Launch) (D : va_G) (cI cR cM : ClassId) (sz : Nat) {jn : Nat} {g : Nat → Nat} {L : List Nat} {S : Sg} {f : Nat → va_E}  (hj : 1 ≤ jn ∧ jn ≤ 3) (hG : SG g L S) (hI : IN jn cI cR cM g L S f) (hTK : TK g cI f) : Met l yX4_tellAll wsX4_tellAll ({ frames := 4, cells := 18, slots := 1193, locals := 130 }) (P0 D cI cR cM [.ref (g 13)] sz (va_pl L f)) (QG (S := List Nat × Sg × (Nat → va_E)) (fun u => none) (fun u => va_pl (u.1) (u.2.2)) (fun u => EXT L S u.1 u.2.1 ∧ IN jn cI cR cM g u.1 u.2.1 u.2.2 ∧ FRX L S [0, 1, 2, 3, 12, 20, 21] f (u.2.2) ∧ (TK g cI (u.2.2))) D (va_A (va_pl L f) sz)) 18 1193 (va_A (va_pl L f) sz) := by
  refine go (cc := cX4_tellAll) (maxL := 2) (ret := none) (by decide +kernel) rfl (Nat.le_of_ble_eq_true rfl) ?_
  intro p e s m below meth c ls args Q hQ hsz hx hb hr hml hts hown hlocks hnm hP hK hD hl
  subst hsz
  have hD := hD.self (sz := s.heap.size)
  generalize hAe : va_A (va_pl L f) s.heap.size = A at hD hQ
  have hA : ∀ q, s.heap.size ≤ q → A q := fun q h => by rw [← hAe]; exact Or.inr h
  have hS : va_S A s.heap s.heap [] := va_S.rf
  obtain ⟨L0, eL0⟩ : ∃ x, x = L := ⟨_, rfl⟩
  obtain ⟨S0, eS0⟩ : ∃ x, x = S := ⟨_, rfl⟩
  have hX : EXT L0 S0 L S := by rw [eL0, eS0]; exact EXT_rf
  have hF : FRX L0 S0 [0, 1, 2, 3, 12, 20, 21] f f := FRX_rf
  have hl : lv_has ls 2 [(0, .ref (g 13))] := hl
  refine lv_aload_n hx hb dX4_tellAll_0 rfl (lv_at hl 0 rfl) ?_
  obtain ⟨fa_1, pl_1, fg_1⟩ := op_13 hI (gm_13 hG) (gs_13 hG)
  refine t_get (D := D) (L := L) (f := f) (ci := 4) (v := .ref (g 12)) (C := RX4) (T := TX4) (N := 11) hx hb hts (by decide +kernel) hown hK.1 hP (gm_13 hG) fg_1 rfl 2 (by decide) (hts (.fieldLink RX4 45 "JugglingHall$Reader" "book" "LJugglingHall$Book;") (by decide +kernel)) (fun _ h9 => h9) rfl dX4_tellAll_1 ?_
  obtain ⟨tm_2, lk_2, fg_2, iv0_2, iv1_2, iv2_2⟩ := op_12 hI (gm_12 hG) (gs_12 hG)
  refine call_p (va_runV (As := []) (rest := []) ⟨hx, hb, hml, hown, hts⟩ (t_X0_turnPage l D cI cR cM _  hj hG hI  ) (cwV 0 hts gX4_tellAll_X0_turnPage rfl rfl rfl (by decide +kernel) ⟨Nat.le_of_ble_eq_true rfl, Nat.le_of_ble_eq_true rfl⟩) (pre_T hK hP hD (gm_12 hG) fg_2 rfl) rfl rfl hl.1 rfl (lv_room (Nat.le_of_ble_eq_true rfl)) dX4_tellAll_4 ⟨Nat.le_of_ble_eq_true rfl, Nat.le_of_ble_eq_true rfl⟩) hD hS hA (fun u_3 H locs hw hP hD hS => ?_)
  obtain ⟨f_3, e0_3⟩ : ∃ x, x = u_3 := ⟨_, rfl⟩
  subst e0_3
  obtain ⟨hI, hF_3⟩ : IN jn cI cR cM g L S f_3 ∧ FR S [12, 20, 21] f f_3 := hw
  have hP : va_P D vwCl (va_pl L f_3) H := hP
  have hD : va_D A (va_pl L f_3) := hD
  have hF := FRX_tr hF hX hF_3 (by decide)
  have hTK_3 : TK g cI f_3 := TK_fr (f := f) (by assumption) hG hF_3 (by decide)
  have fb_4 : f_3 (g 13) = .inr (4, [.int (nI jn), .ref (g 14), .ref (g 12), .ref (g 22), .ref (g 34), .ref (g 23), .ref (g 24), .ref (g 25), .ref (g 26), .int fa_1, .int pl_1]) := FR_at hF_3 (gs_13 hG) (show (13 : Nat) ∉ ([12, 20, 21] : List Nat) by decide) fg_1
  refine lv_iconst (v := 0) hx hb dX4_tellAll_7 (by decide) ?_
  refine lv_istore_n (lv' := [(1, .int 0), (0, .ref (g 13))]) hx hb dX4_tellAll_8 rfl hl (by decide) rfl (fun ls hl => ?_)
  have loop9 : ∀ (ddloop9 : Nat) (le : Int32) (f_5 : Nat → va_E) (L9 : List Nat) (S9 : Sg) (H : Heap) (locs : List Loc) (ls : Array Slot), (20 - le.toInt).toNat < ddloop9 → EXT L0 S0 L9 S9 → SG g L9 S9 → IN jn cI cR cM g L9 S9 f_5 → FRX L0 S0 [0, 1, 2, 3, 12, 20, 21] f f_5 → (0 ≤ le.toInt ∧ le.toInt ≤ 8) → (TK g cI f_5) → va_P D vwCl (va_pl L9 f_5) H → va_D A (va_pl L9 f_5) → va_S A s.heap H locs → lv_has ls 2 [(0, .ref (g 13)), (1, .int le)] → W p l e ({ frames := 4, cells := 18, slots := 1193, locals := 130 }) s m args below meth c H locs (2 * le.toInt.toNat) (148 * le.toInt.toNat) Q (F0 m 9 ls []) := by
    intro ddloop9
    induction ddloop9 with
    | zero =>
      intro le f_5 L S H locs ls hdd
      exact absurd hdd (Nat.not_lt_zero _)
    | succ ddloop9 ih9 =>
      intro le f_5 L S H locs ls hdd hX hG hI hF hi hTK hP hD hS hl
      refine lv_iload_n hx hb dX4_tellAll_9 rfl (lv_at hl 1 rfl) ?_
      refine lv_aload_n hx hb dX4_tellAll_10 rfl (lv_at hl 0 rfl) ?_
      obtain ⟨fa_6, pl_6, fg_6⟩ := op_13 hI (gm_13 hG) (gs_13 hG)
      refine t_get (D := D) (L := L) (f := f_5) (ci := 4) (v := .ref (g 23)) (C := RX4) (T := TX4) (N := 11) hx hb hts (by decide +kernel) hown hK.1 hP (gm_13 hG) fg_6 rfl 5 (by decide) (hts (.fieldLink RX4 21 "JugglingHall$Reader" "here" "[LJugglingHall$Row;") (by decide +kernel)) (fun _ h9 => h9) rfl dX4_tellAll_11 ?_
      obtain ⟨c_7, fg_7, iv0_7⟩ := op_23 hI (gm_23 hG) (gs_23 hG)
      refine t_alen (L := L) (f := f_5) (v := 8) hx hb hK.1 hP (gm_23 hG) 1 fg_7 rfl rfl dX4_tellAll_14 ?_
      refine a_icmp_ge (u := le.toInt) (v := 8) (tgt := 53) hx hb dX4_tellAll_15 (by decide) (rfl) (by decide) (fun c_8 => ?_) (fun c_8 => ?_)
      · refine lv_aload_n hx hb dX4_tellAll_53 rfl (lv_at hl 0 rfl) ?_
        refine t_get (D := D) (L := L) (f := f_5) (ci := 4) (v := .ref (g 26)) (C := RX4) (T := TX4) (N := 11) hx hb hts (by decide +kernel) hown hK.1 hP (gm_13 hG) fg_6 rfl 8 (by decide) (hts (.fieldLink RX4 27 "JugglingHall$Reader" "marks" "LJugglingHall$Marks;") (by decide +kernel)) (fun _ h9 => h9) rfl dX4_tellAll_54 ?_
        obtain ⟨p_9, m_9, s_9⟩ := hG.2.2.2
        obtain ⟨cnt_10, fg_10, v1_10, v2_10, mp_10, sp_10⟩ := op_2 hI m_9 s_9
        refine t_getN (D := D) (L := L) (f := f_5) (ci := 3) (v := .int cnt_10) (C := RX3) (T := TX3) (N := 2) (host := "JugglingHall") hx hb hts (by decide +kernel) hown hK.1 hP m_9 fg_10 rfl 1 (by decide) (hK.nw (.fieldLinkNest RX4 59 "JugglingHall$Marks" "count" "I" "JugglingHall") (by decide +kernel) rfl) (fun _ h9 => h9) rfl dX4_tellAll_57 ?_
        refine a_if_le (u := cnt_10.toInt) (tgt := 77) hx hb dX4_tellAll_60 (by decide) (rfl) (fun c_11 => ?_) (fun c_11 => ?_)
        · exact g_vret (L, S, f_5) hx hb hr hlocks hS rfl (⟨EXT_c eL0 eS0 hX, hI, FRX_c eL0 eS0 hF, (by first | assumption | omega)⟩) hP hD hQ (by show 2 * le.toInt.toNat ≤ 18; omega) (by show 148 * le.toInt.toNat ≤ 1193; omega) dX4_tellAll_77
        · refine lv_aload_n hx hb dX4_tellAll_63 rfl (lv_at hl 0 rfl) ?_
          refine t_get (D := D) (L := L) (f := f_5) (ci := 4) (v := .ref (g 12)) (C := RX4) (T := TX4) (N := 11) hx hb hts (by decide +kernel) hown hK.1 hP (gm_13 hG) fg_6 rfl 2 (by decide) (hts (.fieldLink RX4 45 "JugglingHall$Reader" "book" "LJugglingHall$Book;") (by decide +kernel)) (fun _ h9 => h9) rfl dX4_tellAll_64 ?_
          refine lv_aload_n hx hb dX4_tellAll_67 rfl (lv_at hl 0 rfl) ?_
          refine t_get (D := D) (L := L) (f := f_5) (ci := 4) (v := .ref (g 26)) (C := RX4) (T := TX4) (N := 11) hx hb hts (by decide +kernel) hown hK.1 hP (gm_13 hG) fg_6 rfl 8 (by decide) (hts (.fieldLink RX4 27 "JugglingHall$Reader" "marks" "LJugglingHall$Marks;") (by decide +kernel)) (fun _ h9 => h9) rfl dX4_tellAll_68 ?_
          obtain ⟨c_12, fg_12⟩ := op_3 hI mp_10 sp_10
          refine call_p (va_runV (As := []) (rest := [.ref (g 12)]) ⟨hx, hb, hml, hown, hts⟩ (t_X3_copy l D cI cR cM _  hj hG hI m_9 s_9 fg_10 fg_12 ) (cwV 0 hts gX4_tellAll_X3_copy rfl rfl rfl (by decide +kernel) ⟨Nat.le_of_ble_eq_true rfl, Nat.le_of_ble_eq_true rfl⟩) (pre_T hK hP hD m_9 fg_10 rfl) rfl rfl hl.1 rfl (lv_room (Nat.le_of_ble_eq_true rfl)) dX4_tellAll_71 ⟨(by show 2 * le.toInt.toNat + 2 ≤ 18; omega), (by show 148 * le.toInt.toNat + 9 ≤ 1193; omega)⟩) hD hS hA (fun u_13 H locs hw hP hD hS => ?_)
          obtain ⟨r_13, L, S, f_13⟩ := u_13
          dsimp only at hw hP hD
          obtain ⟨hX_13, hI_13, hF_13, ho_13⟩ := hw
          have hTK_13 : TK g cI f_13 := TK_frX (f := f_5) (by assumption) hG hF_13 (by decide)
          have fb_14 : f_13 (g 13) = .inr (4, [.int (nI jn), .ref (g 14), .ref (g 12), .ref (g 22), .ref (g 34), .ref (g 23), .ref (g 24), .ref (g 25), .ref (g 26), .int fa_6, .int pl_6]) := FRX_at hF_13 (gm_13 hG) (gs_13 hG) (show (13 : Nat) ∉ ([2, 3] : List Nat) by decide) fg_6
          have fb_15 : f_13 (g 23) = .inl (cR, 8, .inr (.inr (.inr (.inr c_7)))) := FRX_at hF_13 (gm_23 hG) (gs_23 hG) (show (23 : Nat) ∉ ([2, 3] : List Nat) by decide) fg_7
          have su_16 := (hX_13 _ m_9).2.trans s_9
          have mu_16 := (hX_13 _ m_9).1
          have su_17 := (hX_13 _ mp_10).2.trans sp_10
          have mu_17 := (hX_13 _ mp_10).1
          have hF := FRX_trX hF hX hF_13 (by decide)
          have hX := EXT_tr hX hX_13
          have hG := SG_ext hX_13 hG
          have hI := hI_13
          obtain ⟨p_18, m_18, s_18⟩ := ho_13
          obtain ⟨tm_19, lk_19, fg_19, iv0_19, iv1_19, iv2_19⟩ := op_12 hI (gm_12 hG) (gs_12 hG)
          obtain ⟨cnt_20, fg_20, v1_20, v2_20, mp_20, sp_20⟩ := op_2 hI m_18 s_18
          obtain ⟨c_21, fg_21⟩ := op_3 hI mp_20 sp_20
          refine call_p (va_runV (As := [.ref r_13]) (rest := []) ⟨hx, hb, hml, hown, hts⟩ (t_X0_writeMarks l D cI cR cM _  hj hG hI m_18 s_18 fg_20 fg_21 ) (cwV 1 hts gX4_tellAll_X0_writeMarks rfl rfl rfl (by decide +kernel) ⟨Nat.le_of_ble_eq_true rfl, Nat.le_of_ble_eq_true rfl⟩) (pre_T hK hP hD (gm_12 hG) fg_19 rfl) rfl rfl hl.1 rfl (lv_room (Nat.le_of_ble_eq_true rfl)) dX4_tellAll_74 ⟨(by show 2 * le.toInt.toNat + 2 + 0 ≤ 18; omega), (by show 148 * le.toInt.toNat + 9 + 0 ≤ 1193; omega)⟩) hD hS hA (fun u_22 H locs hw hP hD hS => ?_)
          obtain ⟨f_22, e0_22⟩ : ∃ x, x = u_22 := ⟨_, rfl⟩
          subst e0_22
          obtain ⟨hI, hF_22⟩ : IN jn cI cR cM g L S f_22 ∧ FR S [21] f_13 f_22 := hw
          have hP : va_P D vwCl (va_pl L f_22) H := hP
          have hD : va_D A (va_pl L f_22) := hD
          have hF := FRX_tr hF hX hF_22 (by decide)
          have hTK_22 : TK g cI f_22 := TK_fr (f := f_13) (by assumption) hG hF_22 (by decide)
          have fb_23 : f_22 (g 13) = .inr (4, [.int (nI jn), .ref (g 14), .ref (g 12), .ref (g 22), .ref (g 34), .ref (g 23), .ref (g 24), .ref (g 25), .ref (g 26), .int fa_6, .int pl_6]) := FR_at hF_22 (gs_13 hG) (show (13 : Nat) ∉ ([21] : List Nat) by decide) fb_14
          have fb_24 : f_22 (g 23) = .inl (cR, 8, .inr (.inr (.inr (.inr c_7)))) := FR_at hF_22 (gs_23 hG) (show (23 : Nat) ∉ ([21] : List Nat) by decide) fb_15
          have fb_25 : f_22 (g 12) = .inr (0, [.ref (g 20), .ref (g 21), .int tm_19, .int lk_19]) := FR_at hF_22 (gs_12 hG) (show (12 : Nat) ∉ ([21] : List Nat) by decide) fg_19
          have fb_26 : f_22 r_13 = .inr (3, [.ref p_18, .int cnt_20]) := FR_at hF_22 s_18 (show (2 : Nat) ∉ ([21] : List Nat) by decide) fg_20
          have fb_27 : f_22 p_18 = .inl (cI, 7, .inl c_21) := FR_at hF_22 sp_20 (show (3 : Nat) ∉ ([21] : List Nat) by decide) fg_21
          exact g_vret (L, S, f_22) hx hb hr hlocks hS rfl (⟨EXT_c eL0 eS0 hX, hI, FRX_c eL0 eS0 hF, (by first | assumption | omega)⟩) hP hD hQ (by show 2 * le.toInt.toNat + 2 ≤ 18; omega) (by show 148 * le.toInt.toNat + 9 ≤ 1193; omega) dX4_tellAll_77
      · refine lv_aload_n hx hb dX4_tellAll_18 rfl (lv_at hl 0 rfl) ?_
        refine t_get (D := D) (L := L) (f := f_5) (ci := 4) (v := .ref (g 23)) (C := RX4) (T := TX4) (N := 11) hx hb hts (by decide +kernel) hown hK.1 hP (gm_13 hG) fg_6 rfl 5 (by decide) (hts (.fieldLink RX4 21 "JugglingHall$Reader" "here" "[LJugglingHall$Row;") (by decide +kernel)) (fun _ h9 => h9) rfl dX4_tellAll_19 ?_
        refine lv_iload_n hx hb dX4_tellAll_22 rfl (lv_at hl 1 rfl) ?_
        refine t_aald (L := L) (f := f_5) (y := c_7) (u := le.toInt) hx hb hK.1 hP (gm_23 hG) 1 fg_7 rfl dX4_tellAll_23 (rfl) (by omega) (fun w_28 q_28 => ?_)
        obtain ⟨r_28, p_28, n_28, er_28, m_28, s_28⟩ := iv0_7 le.toInt (by omega) (by omega)
        have q_28 := q_28.trans er_28
        subst q_28
        refine W.eq (g2 := F0 m 24 ls [.ref r_28]) rfl ?_
        obtain ⟨len_29, fg_29, v1_29, v2_29, v3_29, mp_29, sp_29⟩ := op_0 hI m_28 s_28
        obtain ⟨w1_29, w2_29, w3_29, w4_29, w5_29⟩ := lenw hj v1_29 v2_29 v3_29
        refine t_getN (D := D) (L := L) (f := f_5) (ci := 5) (v := .int len_29) (C := RX5) (T := TX5) (N := 4) (host := "JugglingHall") hx hb hts (by decide +kernel) hown hK.1 hP m_28 fg_29 rfl 3 (by decide) (hK.nw (.fieldLinkNest RX4 62 "JugglingHall$Row" "length" "I" "JugglingHall") (by decide +kernel) rfl) (fun _ h9 => h9) rfl dX4_tellAll_24 ?_
        refine a_if_le (u := len_29.toInt) (tgt := 47) hx hb dX4_tellAll_27 (by decide) (rfl) (fun c_30 => ?_) (fun c_30 => ?_)
        · obtain ⟨z_31, q_31, e_31⟩ := i_inc (a := le.toInt) (1) (rfl) (by decide) (by omega) (by omega)
          refine lv_iinc (v := z_31) (lv' := [(1, .int z_31), (0, .ref (g 13))]) hx hb dX4_tellAll_47 hl (k := 1) rfl q_31 (by decide) rfl (fun ls hl => ?_)
          refine lv_goto (tgt := 9) hx hb dX4_tellAll_50 (by decide) ?_
          refine W.widen (k := 2 * z_31.toInt.toNat) (n := 148 * z_31.toInt.toNat) (by omega) (by omega) ?_
          exact ih9 z_31 f_5 L S _ _ _ (by omega) hX hG hI hF (by first | assumption | omega) (by first | assumption | omega) hP hD hS (lv_sub hl [1, 0] rfl)
        · refine lv_aload_n hx hb dX4_tellAll_30 rfl (lv_at hl 0 rfl) ?_
          refine t_get (D := D) (L := L) (f := f_5) (ci := 4) (v := .ref (g 12)) (C := RX4) (T := TX4) (N := 11) hx hb hts (by decide +kernel) hown hK.1 hP (gm_13 hG) fg_6 rfl 2 (by decide) (hts (.fieldLink RX4 45 "JugglingHall$Reader" "book" "LJugglingHall$Book;") (by decide +kernel)) (fun _ h9 => h9) rfl dX4_tellAll_31 ?_
          refine lv_iload_n hx hb dX4_tellAll_34 rfl (lv_at hl 1 rfl) ?_
          refine lv_aload_n hx hb dX4_tellAll_35 rfl (lv_at hl 0 rfl) ?_
          refine t_get (D := D) (L := L) (f := f_5) (ci := 4) (v := .ref (g 23)) (C := RX4) (T := TX4) (N := 11) hx hb hts (by decide +kernel) hown hK.1 hP (gm_13 hG) fg_6 rfl 5 (by decide) (hts (.fieldLink RX4 21 "JugglingHall$Reader" "here" "[LJugglingHall$Row;") (by decide +kernel)) (fun _ h9 => h9) rfl dX4_tellAll_36 ?_
          refine lv_iload_n hx hb dX4_tellAll_39 rfl (lv_at hl 1 rfl) ?_
          refine t_aald (L := L) (f := f_5) (y := c_7) (u := le.toInt) hx hb hK.1 hP (gm_23 hG) 1 fg_7 rfl dX4_tellAll_40 (rfl) (by omega) (fun w_32 q_32 => ?_)
          obtain ⟨r_32, p_32, n_32, er_32, m_32, s_32⟩ := iv0_7 le.toInt (by omega) (by omega)
          have q_32 := q_32.trans er_32
          subst q_32
          refine W.eq (g2 := F0 m 41 ls [.ref r_32, .int le, .ref (g 12)]) rfl ?_
          obtain ⟨len_33, fg_33, v1_33, v2_33, v3_33, mp_33, sp_33⟩ := op_0 hI m_32 s_32
          obtain ⟨w1_33, w2_33, w3_33, w4_33, w5_33⟩ := lenw hj v1_33 v2_33 v3_33
          obtain ⟨c_34, fg_34, iv0_34⟩ := op_1 hI mp_33 sp_33
          refine call_p (va_runV (As := []) (rest := [.int le, .ref (g 12)]) ⟨hx, hb, hml, hown, hts⟩ (t_X5_copy l D cI cR cM _  hj hG hI m_32 s_32 fg_33 fg_34 ) (cwV 0 hts gX4_tellAll_X5_copy rfl rfl rfl (by decide +kernel) ⟨Nat.le_of_ble_eq_true rfl, Nat.le_of_ble_eq_true rfl⟩) (pre_T hK hP hD m_32 fg_33 rfl) rfl rfl hl.1 rfl (lv_room (Nat.le_of_ble_eq_true rfl)) dX4_tellAll_41 ⟨(by show 2 * le.toInt.toNat + 2 ≤ 18; omega), (by show 148 * le.toInt.toNat + 148 ≤ 1193; omega)⟩) hD hS hA (fun u_35 H locs hw hP hD hS => ?_)
          obtain ⟨r_35, L, S, f_35⟩ := u_35
          dsimp only at hw hP hD
          obtain ⟨hX_35, hI_35, hF_35, ho_35⟩ := hw
          have hTK_35 : TK g cI f_35 := TK_frX (f := f_5) (by assumption) hG hF_35 (by decide)
          have fb_36 : f_35 (g 13) = .inr (4, [.int (nI jn), .ref (g 14), .ref (g 12), .ref (g 22), .ref (g 34), .ref (g 23), .ref (g 24), .ref (g 25), .ref (g 26), .int fa_6, .int pl_6]) := FRX_at hF_35 (gm_13 hG) (gs_13 hG) (show (13 : Nat) ∉ ([0, 1] : List Nat) by decide) fg_6
          have fb_37 : f_35 (g 23) = .inl (cR, 8, .inr (.inr (.inr (.inr c_7)))) := FRX_at hF_35 (gm_23 hG) (gs_23 hG) (show (23 : Nat) ∉ ([0, 1] : List Nat) by decide) fg_7
          have su_38 := (hX_35 _ m_28).2.trans s_28
          have mu_38 := (hX_35 _ m_28).1
          have su_39 := (hX_35 _ mp_29).2.trans sp_29
          have mu_39 := (hX_35 _ mp_29).1
          have su_40 := (hX_35 _ m_32).2.trans s_32
          have mu_40 := (hX_35 _ m_32).1
          have su_41 := (hX_35 _ mp_33).2.trans sp_33
          have mu_41 := (hX_35 _ mp_33).1
          have hF := FRX_trX hF hX hF_35 (by decide)
          have hX := EXT_tr hX hX_35
          have hG := SG_ext hX_35 hG
          have hI := hI_35
          obtain ⟨p_42, n_42, m_42, s_42⟩ := ho_35
          obtain ⟨tm_43, lk_43, fg_43, iv0_43, iv1_43, iv2_43⟩ := op_12 hI (gm_12 hG) (gs_12 hG)
          obtain ⟨len_44, fg_44, v1_44, v2_44, v3_44, mp_44, sp_44⟩ := op_0 hI m_42 s_42
          obtain ⟨w1_44, w2_44, w3_44, w4_44, w5_44⟩ := lenw hj v1_44 v2_44 v3_44
          obtain ⟨c_45, fg_45, iv0_45⟩ := op_1 hI mp_44 sp_44
          refine call_p (va_runV (As := [.int le, .ref r_35]) (rest := []) ⟨hx, hb, hml, hown, hts⟩ (t_X0_writeRow l D cI cR cM _  hj hG hI m_42 s_42 fg_44 fg_45 ) (cwV 2 hts gX4_tellAll_X0_writeRow rfl rfl rfl (by decide +kernel) ⟨Nat.le_of_ble_eq_true rfl, Nat.le_of_ble_eq_true rfl⟩) (pre_T hK hP hD (gm_12 hG) fg_43 rfl) rfl rfl hl.1 rfl (lv_room (Nat.le_of_ble_eq_true rfl)) dX4_tellAll_44 ⟨(by show 2 * le.toInt.toNat + 2 + 0 ≤ 18; omega), (by show 148 * le.toInt.toNat + 148 + 0 ≤ 1193; omega)⟩) hD hS hA (fun u_46 H locs hw hP hD hS => ?_)
          obtain ⟨f_46, e0_46⟩ : ∃ x, x = u_46 := ⟨_, rfl⟩
          subst e0_46
          obtain ⟨hI, hF_46⟩ : IN jn cI cR cM g L S f_46 ∧ FR S [20] f_35 f_46 := hw
          have hP : va_P D vwCl (va_pl L f_46) H := hP
          have hD : va_D A (va_pl L f_46) := hD
          have hF := FRX_tr hF hX hF_46 (by decide)
          have hTK_46 : TK g cI f_46 := TK_fr (f := f_35) (by assumption) hG hF_46 (by decide)
          have fb_47 : f_46 (g 13) = .inr (4, [.int (nI jn), .ref (g 14), .ref (g 12), .ref (g 22), .ref (g 34), .ref (g 23), .ref (g 24), .ref (g 25), .ref (g 26), .int fa_6, .int pl_6]) := FR_at hF_46 (gs_13 hG) (show (13 : Nat) ∉ ([20] : List Nat) by decide) fb_36
          have fb_48 : f_46 (g 23) = .inl (cR, 8, .inr (.inr (.inr (.inr c_7)))) := FR_at hF_46 (gs_23 hG) (show (23 : Nat) ∉ ([20] : List Nat) by decide) fb_37
          have fb_49 : f_46 (g 12) = .inr (0, [.ref (g 20), .ref (g 21), .int tm_43, .int lk_43]) := FR_at hF_46 (gs_12 hG) (show (12 : Nat) ∉ ([20] : List Nat) by decide) fg_43
          have fb_50 : f_46 r_35 = .inr (5, [.int (nI jn), .int (nI (2 * jn)), .ref p_42, .int len_44]) := FR_at hF_46 s_42 (show (0 : Nat) ∉ ([20] : List Nat) by decide) fg_44
          have fb_51 : f_46 p_42 = .inl (cI, n_42, .inl c_45) := FR_at hF_46 sp_44 (show (1 : Nat) ∉ ([20] : List Nat) by decide) fg_45
          obtain ⟨z_52, q_52, e_52⟩ := i_inc (a := le.toInt) (1) (rfl) (by decide) (by omega) (by omega)
          refine lv_iinc (v := z_52) (lv' := [(1, .int z_52), (0, .ref (g 13))]) hx hb dX4_tellAll_47 hl (k := 1) rfl q_52 (by decide) rfl (fun ls hl => ?_)
          refine lv_goto (tgt := 9) hx hb dX4_tellAll_50 (by decide) ?_
          refine W.widen (k := 2 * z_52.toInt.toNat) (n := 148 * z_52.toInt.toNat) (by omega) (by omega) ?_
          exact ih9 z_52 f_46 L S _ _ _ (by omega) hX hG hI hF (by first | assumption | omega) (by first | assumption | omega) hP hD hS (lv_sub hl [1, 0] rfl)
  have hz_53 : (0 : Int32).toInt = 0 := by decide
  refine W.widen (k := 2 * (0 : Int32).toInt.toNat) (n := 148 * (0 : Int32).toInt.toNat) (by omega) (by omega) ?_
  exact loop9 ((20 - (0 : Int32).toInt).toNat + 1) (0 : Int32) f_3 L S _ _ _ (by omega) hX hG hI hF (by first | assumption | omega) (by first | assumption | omega) hP hD hS (lv_sub hl [1, 0] rfl)
