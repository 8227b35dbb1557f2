theorem dX9_find_0 : decode cX9_find 0 = .ok (.iload_n 1, 1) := by decide +kernel
theorem dX9_find_1 : decode cX9_find 1 = .ok (.ifCond .lt 21, 3) := by decide +kernel
theorem dX9_find_4 : decode cX9_find 4 = .ok (.iload_n 1, 1) := by decide +kernel
theorem dX9_find_5 : decode cX9_find 5 = .ok (.sipush 512, 3) := by decide +kernel
theorem dX9_find_8 : decode cX9_find 8 = .ok (.if_icmp .ge 14, 3) := by decide +kernel
theorem dX9_find_11 : decode cX9_find 11 = .ok (.iload_n 2, 1) := by decide +kernel
theorem dX9_find_12 : decode cX9_find 12 = .ok (.ifCond .lt 10, 3) := by decide +kernel
theorem dX9_find_15 : decode cX9_find 15 = .ok (.iload_n 2, 1) := by decide +kernel
theorem dX9_find_16 : decode cX9_find 16 = .ok (.sipush 512, 3) := by decide +kernel
theorem dX9_find_19 : decode cX9_find 19 = .ok (.if_icmp .lt 5, 3) := by decide +kernel
theorem dX9_find_22 : decode cX9_find 22 = .ok (.iconst (-1), 1) := by decide +kernel
theorem dX9_find_23 : decode cX9_find 23 = .ok (.ireturn, 1) := by decide +kernel
theorem dX9_find_24 : decode cX9_find 24 = .ok (.iload_n 1, 1) := by decide +kernel
theorem dX9_find_25 : decode cX9_find 25 = .ok (.invokestatic 37, 3) := by decide +kernel
theorem dX9_find_28 : decode cX9_find 28 = .ok (.iload_n 2, 1) := by decide +kernel
theorem dX9_find_29 : decode cX9_find 29 = .ok (.invokestatic 37, 3) := by decide +kernel
theorem dX9_find_32 : decode cX9_find 32 = .ok (.if_icmp .eq 5, 3) := by decide +kernel
theorem dX9_find_35 : decode cX9_find 35 = .ok (.iconst (-1), 1) := by decide +kernel
theorem dX9_find_36 : decode cX9_find 36 = .ok (.ireturn, 1) := by decide +kernel
theorem dX9_find_37 : decode cX9_find 37 = .ok (.aload_n 0, 1) := by decide +kernel
theorem dX9_find_38 : decode cX9_find 38 = .ok (.iload_n 1, 1) := by decide +kernel
theorem dX9_find_39 : decode cX9_find 39 = .ok (.invokevirtual 42, 3) := by decide +kernel
theorem dX9_find_42 : decode cX9_find 42 = .ok (.aload_n 0, 1) := by decide +kernel
theorem dX9_find_43 : decode cX9_find 43 = .ok (.getfield 11, 3) := by decide +kernel
theorem dX9_find_46 : decode cX9_find 46 = .ok (.iload_n 2, 1) := by decide +kernel
theorem dX9_find_47 : decode cX9_find 47 = .ok (.iaload, 1) := by decide +kernel
theorem dX9_find_48 : decode cX9_find 48 = .ok (.iconst (-1), 1) := by decide +kernel
theorem dX9_find_49 : decode cX9_find 49 = .ok (.if_icmp .ne 7, 3) := by decide +kernel
theorem dX9_find_52 : decode cX9_find 52 = .ok (.iconst (-1), 1) := by decide +kernel
theorem dX9_find_53 : decode cX9_find 53 = .ok (.goto 9, 3) := by decide +kernel
theorem dX9_find_56 : decode cX9_find 56 = .ok (.aload_n 0, 1) := by decide +kernel
theorem dX9_find_57 : decode cX9_find 57 = .ok (.iload_n 1, 1) := by decide +kernel
theorem dX9_find_58 : decode cX9_find 58 = .ok (.iload_n 2, 1) := by decide +kernel
theorem dX9_find_59 : decode cX9_find 59 = .ok (.invokevirtual 46, 3) := by decide +kernel
theorem dX9_find_62 : decode cX9_find 62 = .ok (.ireturn, 1) := by decide +kernel
theorem dX9_spread_0 : decode cX9_spread 0 = .ok (.aload_n 0, 1) := by decide +kernel
theorem dX9_spread_1 : decode cX9_spread 1 = .ok (.getfield 11, 3) := by decide +kernel
theorem dX9_spread_4 : decode cX9_spread 4 = .ok (.iconst (-1), 1) := by decide +kernel
theorem dX9_spread_5 : decode cX9_spread 5 = .ok (.invokestatic 50, 3) := by decide +kernel
theorem dX9_spread_8 : decode cX9_spread 8 = .ok (.aload_n 0, 1) := by decide +kernel
theorem dX9_spread_9 : decode cX9_spread 9 = .ok (.getfield 11, 3) := by decide +kernel
theorem dX9_spread_12 : decode cX9_spread 12 = .ok (.iload_n 1, 1) := by decide +kernel
theorem dX9_spread_13 : decode cX9_spread 13 = .ok (.iload_n 1, 1) := by decide +kernel
theorem dX9_spread_14 : decode cX9_spread 14 = .ok (.iastore, 1) := by decide +kernel
theorem dX9_spread_15 : decode cX9_spread 15 = .ok (.aload_n 0, 1) := by decide +kernel
theorem dX9_spread_16 : decode cX9_spread 16 = .ok (.getfield 18, 3) := by decide +kernel
theorem dX9_spread_19 : decode cX9_spread 19 = .ok (.iconst 0, 1) := by decide +kernel
theorem dX9_spread_20 : decode cX9_spread 20 = .ok (.iload_n 1, 1) := by decide +kernel
theorem dX9_spread_21 : decode cX9_spread 21 = .ok (.iastore, 1) := by decide +kernel
theorem dX9_spread_22 : decode cX9_spread 22 = .ok (.iconst 1, 1) := by decide +kernel
theorem dX9_spread_23 : decode cX9_spread 23 = .ok (.istore_n 2, 1) := by decide +kernel
theorem dX9_spread_24 : decode cX9_spread 24 = .ok (.iconst 0, 1) := by decide +kernel
theorem dX9_spread_25 : decode cX9_spread 25 = .ok (.istore_n 3, 1) := by decide +kernel
theorem dX9_spread_26 : decode cX9_spread 26 = .ok (.iload_n 3, 1) := by decide +kernel
theorem dX9_spread_27 : decode cX9_spread 27 = .ok (.iload_n 2, 1) := by decide +kernel
theorem dX9_spread_28 : decode cX9_spread 28 = .ok (.if_icmp .ge 102, 3) := by decide +kernel
theorem dX9_spread_31 : decode cX9_spread 31 = .ok (.iload_n 3, 1) := by decide +kernel
theorem dX9_spread_32 : decode cX9_spread 32 = .ok (.sipush 512, 3) := by decide +kernel
theorem dX9_spread_35 : decode cX9_spread 35 = .ok (.if_icmp .ge 95, 3) := by decide +kernel
theorem dX9_spread_38 : decode cX9_spread 38 = .ok (.iconst 0, 1) := by decide +kernel
theorem dX9_spread_39 : decode cX9_spread 39 = .ok (.istore 4, 2) := by decide +kernel
theorem dX9_spread_41 : decode cX9_spread 41 = .ok (.iload 4, 2) := by decide +kernel
theorem dX9_spread_43 : decode cX9_spread 43 = .ok (.bipush 9, 2) := by decide +kernel
theorem dX9_spread_45 : decode cX9_spread 45 = .ok (.if_icmp .gt 79, 3) := by decide +kernel
theorem dX9_spread_48 : decode cX9_spread 48 = .ok (.aload_n 0, 1) := by decide +kernel
theorem dX9_spread_49 : decode cX9_spread 49 = .ok (.getfield 18, 3) := by decide +kernel
theorem dX9_spread_52 : decode cX9_spread 52 = .ok (.iload_n 3, 1) := by decide +kernel
theorem dX9_spread_53 : decode cX9_spread 53 = .ok (.iaload, 1) := by decide +kernel
theorem dX9_spread_54 : decode cX9_spread 54 = .ok (.iload 4, 2) := by decide +kernel
theorem dX9_spread_56 : decode cX9_spread 56 = .ok (.invokestatic 56, 3) := by decide +kernel
theorem dX9_spread_59 : decode cX9_spread 59 = .ok (.istore 5, 2) := by decide +kernel
theorem dX9_spread_61 : decode cX9_spread 61 = .ok (.iload 5, 2) := by decide +kernel
theorem dX9_spread_63 : decode cX9_spread 63 = .ok (.iconst (-1), 1) := by decide +kernel
theorem dX9_spread_64 : decode cX9_spread 64 = .ok (.if_icmp .eq 54, 3) := by decide +kernel
theorem dX9_spread_67 : decode cX9_spread 67 = .ok (.aload_n 0, 1) := by decide +kernel
theorem dX9_spread_68 : decode cX9_spread 68 = .ok (.getfield 11, 3) := by decide +kernel
theorem dX9_spread_71 : decode cX9_spread 71 = .ok (.iload 5, 2) := by decide +kernel
theorem dX9_spread_73 : decode cX9_spread 73 = .ok (.iaload, 1) := by decide +kernel
theorem dX9_spread_74 : decode cX9_spread 74 = .ok (.iconst (-1), 1) := by decide +kernel
theorem dX9_spread_75 : decode cX9_spread 75 = .ok (.if_icmp .ne 43, 3) := by decide +kernel
theorem dX9_spread_78 : decode cX9_spread 78 = .ok (.iload_n 2, 1) := by decide +kernel
theorem dX9_spread_79 : decode cX9_spread 79 = .ok (.sipush 512, 3) := by decide +kernel
theorem dX9_spread_82 : decode cX9_spread 82 = .ok (.if_icmp .ge 36, 3) := by decide +kernel
theorem dX9_spread_85 : decode cX9_spread 85 = .ok (.aload_n 0, 1) := by decide +kernel
theorem dX9_spread_86 : decode cX9_spread 86 = .ok (.getfield 11, 3) := by decide +kernel
theorem dX9_spread_89 : decode cX9_spread 89 = .ok (.iload 5, 2) := by decide +kernel
theorem dX9_spread_91 : decode cX9_spread 91 = .ok (.aload_n 0, 1) := by decide +kernel
theorem dX9_spread_92 : decode cX9_spread 92 = .ok (.getfield 18, 3) := by decide +kernel
theorem dX9_spread_95 : decode cX9_spread 95 = .ok (.iload_n 3, 1) := by decide +kernel
theorem dX9_spread_96 : decode cX9_spread 96 = .ok (.iaload, 1) := by decide +kernel
theorem dX9_spread_97 : decode cX9_spread 97 = .ok (.iastore, 1) := by decide +kernel
theorem dX9_spread_98 : decode cX9_spread 98 = .ok (.aload_n 0, 1) := by decide +kernel
theorem dX9_spread_99 : decode cX9_spread 99 = .ok (.getfield 15, 3) := by decide +kernel
theorem dX9_spread_102 : decode cX9_spread 102 = .ok (.iload 5, 2) := by decide +kernel
theorem dX9_spread_104 : decode cX9_spread 104 = .ok (.iload 4, 2) := by decide +kernel
theorem dX9_spread_106 : decode cX9_spread 106 = .ok (.iastore, 1) := by decide +kernel
theorem dX9_spread_107 : decode cX9_spread 107 = .ok (.aload_n 0, 1) := by decide +kernel
theorem dX9_spread_108 : decode cX9_spread 108 = .ok (.getfield 18, 3) := by decide +kernel
theorem dX9_spread_111 : decode cX9_spread 111 = .ok (.iload_n 2, 1) := by decide +kernel
theorem dX9_spread_112 : decode cX9_spread 112 = .ok (.iload 5, 2) := by decide +kernel
theorem dX9_spread_114 : decode cX9_spread 114 = .ok (.iastore, 1) := by decide +kernel
theorem dX9_spread_115 : decode cX9_spread 115 = .ok (.iinc 2 1, 3) := by decide +kernel
theorem dX9_spread_118 : decode cX9_spread 118 = .ok (.iinc 4 1, 3) := by decide +kernel
theorem dX9_spread_121 : decode cX9_spread 121 = .ok (.goto (-80), 3) := by decide +kernel
theorem dX9_spread_124 : decode cX9_spread 124 = .ok (.iinc 3 1, 3) := by decide +kernel
theorem dX9_spread_127 : decode cX9_spread 127 = .ok (.goto (-101), 3) := by decide +kernel
theorem dX9_spread_130 : decode cX9_spread 130 = .ok (.return_, 1) := by decide +kernel
theorem dX9_trace_0 : decode cX9_trace 0 = .ok (.iconst 0, 1) := by decide +kernel
theorem dX9_trace_1 : decode cX9_trace 1 = .ok (.istore_n 3, 1) := by decide +kernel
theorem dX9_trace_2 : decode cX9_trace 2 = .ok (.iload_n 2, 1) := by decide +kernel
theorem dX9_trace_3 : decode cX9_trace 3 = .ok (.istore 4, 2) := by decide +kernel
theorem dX9_trace_5 : decode cX9_trace 5 = .ok (.iload 4, 2) := by decide +kernel
theorem dX9_trace_7 : decode cX9_trace 7 = .ok (.iload_n 1, 1) := by decide +kernel
theorem dX9_trace_8 : decode cX9_trace 8 = .ok (.if_icmp .eq 25, 3) := by decide +kernel
theorem dX9_trace_11 : decode cX9_trace 11 = .ok (.iload_n 3, 1) := by decide +kernel
theorem dX9_trace_12 : decode cX9_trace 12 = .ok (.sipush 512, 3) := by decide +kernel
theorem dX9_trace_15 : decode cX9_trace 15 = .ok (.if_icmp .ge 18, 3) := by decide +kernel
theorem dX9_trace_18 : decode cX9_trace 18 = .ok (.iinc 3 1, 3) := by decide +kernel
theorem dX9_trace_21 : decode cX9_trace 21 = .ok (.aload_n 0, 1) := by decide +kernel
theorem dX9_trace_22 : decode cX9_trace 22 = .ok (.getfield 11, 3) := by decide +kernel
theorem dX9_trace_25 : decode cX9_trace 25 = .ok (.iload 4, 2) := by decide +kernel
theorem dX9_trace_27 : decode cX9_trace 27 = .ok (.iaload, 1) := by decide +kernel
theorem dX9_trace_28 : decode cX9_trace 28 = .ok (.istore 4, 2) := by decide +kernel
theorem dX9_trace_30 : decode cX9_trace 30 = .ok (.goto (-25), 3) := by decide +kernel
theorem dX9_trace_33 : decode cX9_trace 33 = .ok (.iload_n 2, 1) := by decide +kernel
theorem dX9_trace_34 : decode cX9_trace 34 = .ok (.istore 4, 2) := by decide +kernel
theorem dX9_trace_36 : decode cX9_trace 36 = .ok (.iload_n 3, 1) := by decide +kernel
theorem dX9_trace_37 : decode cX9_trace 37 = .ok (.iconst 1, 1) := by decide +kernel
theorem dX9_trace_38 : decode cX9_trace 38 = .ok (.isub, 1) := by decide +kernel
theorem dX9_trace_39 : decode cX9_trace 39 = .ok (.istore 5, 2) := by decide +kernel
theorem dX9_trace_41 : decode cX9_trace 41 = .ok (.iload 5, 2) := by decide +kernel
theorem dX9_trace_43 : decode cX9_trace 43 = .ok (.ifCond .lt 32, 3) := by decide +kernel
theorem dX9_trace_46 : decode cX9_trace 46 = .ok (.aload_n 0, 1) := by decide +kernel
theorem dX9_trace_47 : decode cX9_trace 47 = .ok (.getfield 21, 3) := by decide +kernel
theorem dX9_trace_50 : decode cX9_trace 50 = .ok (.iload 5, 2) := by decide +kernel
theorem dX9_trace_52 : decode cX9_trace 52 = .ok (.aload_n 0, 1) := by decide +kernel
theorem dX9_trace_53 : decode cX9_trace 53 = .ok (.getfield 15, 3) := by decide +kernel
theorem dX9_trace_56 : decode cX9_trace 56 = .ok (.iload 4, 2) := by decide +kernel
theorem dX9_trace_58 : decode cX9_trace 58 = .ok (.iaload, 1) := by decide +kernel
theorem dX9_trace_59 : decode cX9_trace 59 = .ok (.iastore, 1) := by decide +kernel
theorem dX9_trace_60 : decode cX9_trace 60 = .ok (.aload_n 0, 1) := by decide +kernel
theorem dX9_trace_61 : decode cX9_trace 61 = .ok (.getfield 11, 3) := by decide +kernel
theorem dX9_trace_64 : decode cX9_trace 64 = .ok (.iload 4, 2) := by decide +kernel
theorem dX9_trace_66 : decode cX9_trace 66 = .ok (.iaload, 1) := by decide +kernel
theorem dX9_trace_67 : decode cX9_trace 67 = .ok (.istore 4, 2) := by decide +kernel
theorem dX9_trace_69 : decode cX9_trace 69 = .ok (.iinc 5 (-1), 3) := by decide +kernel
theorem dX9_trace_72 : decode cX9_trace 72 = .ok (.goto (-31), 3) := by decide +kernel
theorem dX9_trace_75 : decode cX9_trace 75 = .ok (.iload_n 3, 1) := by decide +kernel
theorem dX9_trace_76 : decode cX9_trace 76 = .ok (.ireturn, 1) := by decide +kernel
theorem dX10_way_0 : decode cX10_way 0 = .ok (.aload_n 0, 1) := by decide +kernel
theorem dX10_way_1 : decode cX10_way 1 = .ok (.getfield 60, 3) := by decide +kernel
theorem dX10_way_4 : decode cX10_way 4 = .ok (.iload_n 1, 1) := by decide +kernel
theorem dX10_way_5 : decode cX10_way 5 = .ok (.iload_n 2, 1) := by decide +kernel
theorem dX10_way_6 : decode cX10_way 6 = .ok (.invokevirtual 191, 3) := by decide +kernel
theorem dX10_way_9 : decode cX10_way 9 = .ok (.istore 4, 2) := by decide +kernel
theorem dX10_way_11 : decode cX10_way 11 = .ok (.iload_n 3, 1) := by decide +kernel
theorem dX10_way_12 : decode cX10_way 12 = .ok (.iconst (-1), 1) := by decide +kernel
theorem dX10_way_13 : decode cX10_way 13 = .ok (.if_icmp .ne 6, 3) := by decide +kernel
theorem dX10_way_16 : decode cX10_way 16 = .ok (.iload 4, 2) := by decide +kernel
theorem dX10_way_18 : decode cX10_way 18 = .ok (.ireturn, 1) := by decide +kernel
theorem dX10_way_19 : decode cX10_way 19 = .ok (.iload_n 3, 1) := by decide +kernel
theorem dX10_way_20 : decode cX10_way 20 = .ok (.ifCond .lt 9, 3) := by decide +kernel
theorem dX10_way_23 : decode cX10_way 23 = .ok (.iload_n 3, 1) := by decide +kernel
theorem dX10_way_24 : decode cX10_way 24 = .ok (.iload 4, 2) := by decide +kernel
theorem dX10_way_26 : decode cX10_way 26 = .ok (.if_icmp .lt 7, 3) := by decide +kernel
theorem dX10_way_29 : decode cX10_way 29 = .ok (.iconst (-1), 1) := by decide +kernel
theorem dX10_way_30 : decode cX10_way 30 = .ok (.goto 12, 3) := by decide +kernel
theorem dX10_way_33 : decode cX10_way 33 = .ok (.aload_n 0, 1) := by decide +kernel
theorem dX10_way_34 : decode cX10_way 34 = .ok (.getfield 60, 3) := by decide +kernel
theorem dX10_way_37 : decode cX10_way 37 = .ok (.getfield 194, 3) := by decide +kernel
theorem dX10_way_40 : decode cX10_way 40 = .ok (.iload_n 3, 1) := by decide +kernel
theorem dX10_way_41 : decode cX10_way 41 = .ok (.iaload, 1) := by decide +kernel
theorem dX10_way_42 : decode cX10_way 42 = .ok (.ireturn, 1) := by decide +kernel
theorem dJ7_fill_53178_0 : decode cJ7_fill_53178 0 = .ok (.iconst 0, 1) := by decide +kernel
theorem dJ7_fill_53178_1 : decode cJ7_fill_53178 1 = .ok (.istore_n 2, 1) := by decide +kernel
theorem dJ7_fill_53178_2 : decode cJ7_fill_53178 2 = .ok (.aload_n 0, 1) := by decide +kernel
theorem dJ7_fill_53178_3 : decode cJ7_fill_53178 3 = .ok (.arraylength, 1) := by decide +kernel
theorem dJ7_fill_53178_4 : decode cJ7_fill_53178 4 = .ok (.istore_n 3, 1) := by decide +kernel
theorem dJ7_fill_53178_5 : decode cJ7_fill_53178 5 = .ok (.iload_n 2, 1) := by decide +kernel
theorem dJ7_fill_53178_6 : decode cJ7_fill_53178 6 = .ok (.iload_n 3, 1) := by decide +kernel
theorem dJ7_fill_53178_7 : decode cJ7_fill_53178 7 = .ok (.if_icmp .ge 13, 3) := by decide +kernel
theorem dJ7_fill_53178_10 : decode cJ7_fill_53178 10 = .ok (.aload_n 0, 1) := by decide +kernel
theorem dJ7_fill_53178_11 : decode cJ7_fill_53178 11 = .ok (.iload_n 2, 1) := by decide +kernel
theorem dJ7_fill_53178_12 : decode cJ7_fill_53178 12 = .ok (.iload_n 1, 1) := by decide +kernel
theorem dJ7_fill_53178_13 : decode cJ7_fill_53178 13 = .ok (.iastore, 1) := by decide +kernel
theorem dJ7_fill_53178_14 : decode cJ7_fill_53178 14 = .ok (.iinc 2 1, 3) := by decide +kernel
theorem dJ7_fill_53178_17 : decode cJ7_fill_53178 17 = .ok (.goto (-12), 3) := by decide +kernel
theorem dJ7_fill_53178_20 : decode cJ7_fill_53178 20 = .ok (.return_, 1) := by decide +kernel
set_option maxRecDepth 20000 in
theorem ggX9_find_J6_bitCount_0f7a4 : GoodIn wsX9_find wsJ6_bitCount_0f7a4 := goodIn_r _ [5, 6, 7, 8] (by decide +kernel) (by decide +kernel)
set_option maxRecDepth 20000 in
theorem gX9_find_J6_bitCount_0f7a4 : GoodIn wsX9_find (va_wsS RX9 37 yJ6_bitCount_0f7a4 wsJ6_bitCount_0f7a4) := goodIn_app (goodIn_of _ (by decide +kernel)) ggX9_find_J6_bitCount_0f7a4
set_option maxRecDepth 20000 in
theorem ggX9_find_X9_spread : GoodIn wsX9_find wsX9_spread := goodIn_r _ [13, 1, 14, 15, 16, 17, 18, 19, 20, 21, 12, 22, 28, 29, 30, 31] (by decide +kernel) (by decide +kernel)
set_option maxRecDepth 20000 in
theorem gX9_find_X9_spread : GoodIn wsX9_find (wsV RX9 42 RX9 yX9_spread wsX9_spread) := goodIn_app (goodIn_of _ (by decide +kernel)) ggX9_find_X9_spread
set_option maxRecDepth 20000 in
theorem ggX9_find_X9_trace : GoodIn wsX9_find wsX9_trace := goodIn_r _ [26, 1, 27, 15, 28, 29, 30, 31] (by decide +kernel) (by decide +kernel)
set_option maxRecDepth 20000 in
theorem gX9_find_X9_trace : GoodIn wsX9_find (wsV RX9 46 RX9 yX9_trace wsX9_trace) := goodIn_app (goodIn_of _ (by decide +kernel)) ggX9_find_X9_trace
set_option maxRecDepth 20000 in
theorem ggX9_spread_J7_fill_53178 : GoodIn wsX9_spread wsJ7_fill_53178 := goodIn_r _ [7] (by decide +kernel) (by decide +kernel)
set_option maxRecDepth 20000 in
theorem gX9_spread_J7_fill_53178 : GoodIn wsX9_spread (va_wsS RX9 50 yJ7_fill_53178 wsJ7_fill_53178) := goodIn_app (goodIn_of _ (by decide +kernel)) ggX9_spread_J7_fill_53178
set_option maxRecDepth 20000 in
theorem ggX9_spread_X9_after : GoodIn wsX9_spread wsX9_after := goodIn_r _ [11] (by decide +kernel) (by decide +kernel)
set_option maxRecDepth 20000 in
theorem gX9_spread_X9_after : GoodIn wsX9_spread (va_wsS RX9 56 yX9_after wsX9_after) := goodIn_app (goodIn_of _ (by decide +kernel)) ggX9_spread_X9_after
set_option maxRecDepth 20000 in
theorem ggX10_way_X9_find : GoodIn wsX10_way wsX9_find := goodIn_r _ [6, 7, 8, 9, 10, 11, 12, 13, 14, 15, 16, 17, 5, 18, 19, 20, 21, 22, 23, 24, 25, 26, 27, 28, 29, 30, 31, 32, 41, 42, 43, 44] (by decide +kernel) (by decide +kernel)
set_option maxRecDepth 20000 in
theorem gX10_way_X9_find : GoodIn wsX10_way (wsV RX10 191 RX9 yX9_find wsX9_find) := goodIn_app (goodIn_of _ (by decide +kernel)) ggX10_way_X9_find
theorem jx_m1 (x : Int32) : x + Int32.ofInt (-1) = x - 1 := by rw [Int32.sub_eq_add_neg]; rfl
theorem jx_c0 : (0 : Int32) = nI 0 := rfl
theorem jx_c1 : (1 : Int32) = nI 1 := rfl
theorem jx_c9 : (9 : Int32) = nI 9 := rfl
theorem jx_c512 : (512 : Int32) = nI 512 := rfl
theorem jx_inc {k : Nat} : nI k + Int32.ofInt 1 = nI (k + 1) := (nI_succ k).symm
theorem jx_mid (h : Nat) (a b : List Nat) : ((h :: a).reverse ++ b).getD a.length 0 = h := by simp [List.getD]
set_option maxRecDepth 100000 in
set_option maxHeartbeats 4000000 in
/-- Arrays.fill: each place holds v -/
theorem c_fill (l : Launch) (D : va_G) (cI cR cM : ClassId) (sz : Nat) {n : Nat} (hn : n < 2 ^ 31) (f : Nat → Int32) (a : Nat) (v : Int32) : Met l yJ7_fill_53178 wsJ7_fill_53178 ({ frames := 0, cells := 0, slots := 0, locals := 0 }) (P0 D cI cR cM [.ref a, .int v] sz [(a, .inl (cI, n, .inl f))]) (QG (S := Nat → Int32) (fun _ => none) (fun g => [(a, .inl (cI, n, .inl g))]) (fun g => ∀ j, j < n → g j = v) D (va_A [(a, .inl (cI, n, .inl f))] sz)) 0 0 (va_A [(a, .inl (cI, n, .inl f))] sz) := by
  refine go (cc := cJ7_fill_53178) (maxL := 4) (ret := none) (by decide) rfl (Nat.le_of_ble_eq_true rfl) ?_
  intro p e s m below meth c ls args Q hQ hsz hx hb hr hml hts hown hlocks hnm hP hK hD hl
  subst hsz
  have hD := hD.self (sz := s.heap.size)
  generalize hAe : va_A [(a, .inl (cI, n, .inl f))] s.heap.size = A at hD hQ
  have hA : ∀ q, s.heap.size ≤ q → A q := fun q h => by rw [← hAe]; exact Or.inr h
  have hS : va_S A s.heap s.heap [] := va_S.rf
  have hl : lv_has ls 4 [(0, .ref a), (1, .int v)] := hl
  refine lv_iconst (v := 0) hx hb dJ7_fill_53178_0 (by decide) ?_
  refine lv_eqi (y := nI 0) (jx_c0) ?_
  refine lv_istore_n (lv' := [(2, .int (nI 0)), (0, .ref a), (1, .int v)]) hx hb dJ7_fill_53178_1 rfl hl (by decide) rfl (fun ls hl => ?_)
  refine lv_aload_n hx hb dJ7_fill_53178_2 rfl (lv_at hl 1 rfl) ?_
  refine va_alen (v := nI n) hx hb hK.1 hP 0 0 rfl rfl rfl dJ7_fill_53178_3 ?_
  refine lv_istore_n (lv' := [(3, .int (nI n)), (2, .int (nI 0)), (0, .ref a), (1, .int v)]) hx hb dJ7_fill_53178_4 rfl hl (by decide) rfl (fun ls hl => ?_)
  have loop : ∀ (dd : Nat) (k : Nat) (g : Nat → Int32) (H : Heap) (locs : List Loc) (ls : Array Slot), n - k < dd → (k ≤ n) → (∀ j, j < k → g j = v) → va_P D vwCl [(a, .inl (cI, n, .inl g))] H → va_D A [(a, .inl (cI, n, .inl g))] → va_S A s.heap H locs → lv_has ls 4 [(0, .ref a), (1, .int v), (2, .int (nI k)), (3, .int (nI n))] → W p l e ({ frames := 0, cells := 0, slots := 0, locals := 0 }) s m args below meth c H locs 0 0 Q (F0 m 5 ls []) := by
    intro dd
    induction dd with
    | zero =>
      intro k g H locs ls hdd
      exact absurd hdd (Nat.not_lt_zero _)
    | succ dd ih =>
      intro k g H locs ls hdd hk hg hP hD hS hl
      refine lv_iload_n hx hb dJ7_fill_53178_5 rfl (lv_at hl 2 rfl) ?_
      refine lv_iload_n hx hb dJ7_fill_53178_6 rfl (lv_at hl 3 rfl) ?_
      refine lv_icmp_ge (tgt := 20) hx hb dJ7_fill_53178_7 (by decide) (fun c7 => ?_) (fun c7 => ?_)
      · have hkn : k = n := by have := (nI_leI hn (by omega)).mp c7; omega
        exact g_vret (g) hx hb hr hlocks hS rfl (fun j hj => hg j (by omega)) (hP.sub [0] rfl) (hD.sub [0] (by decide) rfl) hQ (Nat.le_of_ble_eq_true rfl) (Nat.le_of_ble_eq_true rfl) dJ7_fill_53178_20
      · have hkn : k < n := Nat.lt_of_not_le fun q => c7 (nI_le q (by omega))
        refine lv_aload_n hx hb dJ7_fill_53178_10 rfl (lv_at hl 0 rfl) ?_
        refine lv_iload_n hx hb dJ7_fill_53178_11 rfl (lv_at hl 2 rfl) ?_
        refine lv_iload_n hx hb dJ7_fill_53178_12 rfl (lv_at hl 1 rfl) ?_
        refine ast_n (k := k) hx hb hK.1 hP hD hS 0 0 rfl rfl (hkn) (by omega) dJ7_fill_53178_13 (fun H locs hP hD hS => ?_)
        have hP : va_P D vwCl [(a, .inl (cI, n, .inl (upd g k v)))] H := hP
        have hD : va_D A [(a, .inl (cI, n, .inl (upd g k v)))] := hD
        refine lv_iinc (v := nI (k + 1)) (lv' := [(2, .int (nI (k + 1))), (0, .ref a), (1, .int v), (3, .int (nI n))]) hx hb dJ7_fill_53178_14 hl (k := 2) rfl (jx_inc) (by decide) rfl (fun ls hl => ?_)
        refine lv_goto (tgt := 5) hx hb dJ7_fill_53178_17 (by decide) ?_
        exact ih (k + 1) (upd g k v) _ _ _ (by omega) (hkn) (fun j hj => by
              by_cases q : j = k
              · rw [q, pk_us]
              · rw [pk_un q]; exact hg j (by omega)) hP hD hS (lv_sub hl [1, 2, 0, 3] rfl)
  exact loop (n + 1) 0 f _ _ _ (by omega) (Nat.zero_le n) (fun j hj => by omega) hP hD hS (lv_sub hl [2, 3, 1, 0] rfl)
set_option maxRecDepth 100000 in
set_option maxHeartbeats 4000000 in
/-- Ways.spread: the broad search from f -/
theorem c_spread (l : Launch) (D : va_G) (cI cR cM : ClassId) (sz : Nat) {f : Nat} (hf : f < 512) (o a1 a2 a3 a4 : Nat) (b0 ht0 q0 : Nat → Int32) : Met l yX9_spread wsX9_spread ({ frames := 1, cells := 0, slots := 0, locals := 23 }) (P0 D cI cR cM [.ref o, .int (nI f)] sz [(o, .inr (9, [.ref a1, .ref a2, .ref a3, .ref a4])), (a1, .inl (cI, 512, .inl b0)), (a2, .inl (cI, 512, .inl ht0)), (a3, .inl (cI, 512, .inl q0))]) (QG (S := (Nat → Int32) × (Nat → Int32) × (Nat → Int32)) (fun _ => none) (fun u => [(o, .inr (9, [.ref a1, .ref a2, .ref a3, .ref a4])), (a1, .inl (cI, 512, .inl u.1)), (a2, .inl (cI, 512, .inl u.2.1)), (a3, .inl (cI, 512, .inl u.2.2))]) (fun u => ∃ k, BI f u.1 u.2.1 u.2.2 k k 0) D (va_A [(o, .inr (9, [.ref a1, .ref a2, .ref a3, .ref a4])), (a1, .inl (cI, 512, .inl b0)), (a2, .inl (cI, 512, .inl ht0)), (a3, .inl (cI, 512, .inl q0))] sz)) 0 0 (va_A [(o, .inr (9, [.ref a1, .ref a2, .ref a3, .ref a4])), (a1, .inl (cI, 512, .inl b0)), (a2, .inl (cI, 512, .inl ht0)), (a3, .inl (cI, 512, .inl q0))] sz) := by
  refine go (cc := cX9_spread) (maxL := 6) (ret := none) (by decide) rfl (Nat.le_of_ble_eq_true rfl) ?_
  intro p e s m below meth c ls args Q hQ hsz hx hb hr hml hts hown hlocks hnm hP hK hD hl
  subst hsz
  have hD := hD.self (sz := s.heap.size)
  generalize hAe : va_A [(o, .inr (9, [.ref a1, .ref a2, .ref a3, .ref a4])), (a1, .inl (cI, 512, .inl b0)), (a2, .inl (cI, 512, .inl ht0)), (a3, .inl (cI, 512, .inl q0))] s.heap.size = A at hD hQ
  have hA : ∀ q, s.heap.size ≤ q → A q := fun q h => by rw [← hAe]; exact Or.inr h
  have hS : va_S A s.heap s.heap [] := va_S.rf
  have hl : lv_has ls 6 [(0, .ref o), (1, .int (nI f))] := hl
  refine lv_aload_n hx hb dX9_spread_0 rfl (lv_at hl 0 rfl) ?_
  refine va_get (D := D) (ci := 9) (v := .ref a1) (C := RX9) (T := TX9) (N := 4) hx hb hts (by decide +kernel) hown hK.1 hP 0 rfl rfl 0 (by decide) (hts (.fieldLink RX9 11 "JugglingHall$Ways" "before" "[I") (by decide +kernel)) (fun _ h9 => h9) rfl dX9_spread_1 ?_
  refine lv_iconst (v := (-1)) hx hb dX9_spread_4 (by decide) ?_
  have hPc := hP.sub (ws' := [(a1, .inl (cI, 512, .inl b0))]) [1] rfl
  have hDc := hD.sub (ws' := [(a1, .inl (cI, 512, .inl b0))]) [1] (by decide) rfl
  refine call_g (wr := [(o, .inr (9, [.ref a1, .ref a2, .ref a3, .ref a4])), (a2, .inl (cI, 512, .inl ht0)), (a3, .inl (cI, 512, .inl q0))]) (va_runS (As := [.ref a1, .int (-1)]) (rest := []) ⟨hx, hb, hml, hown, hts⟩ (c_fill l D cI cR cM _ (n := 512) (by decide) b0 a1 (-1)) (va_cwS 2 hts gX9_spread_J7_fill_53178 rfl rfl rfl (by decide +kernel) ⟨Nat.le_of_ble_eq_true rfl, Nat.le_of_ble_eq_true rfl⟩) (pre_S hK hPc hDc) rfl rfl hl.1 rfl (lv_room (Nat.le_of_ble_eq_true rfl)) dX9_spread_5 ⟨Nat.le_of_ble_eq_true rfl, Nat.le_of_ble_eq_true rfl⟩) hP hD hS hA [1] [0, 2, 3] rfl rfl (by decide) (by decide) (fun b H locs hw hP hD hS => ?_)
  have hP : va_P D vwCl [(o, .inr (9, [.ref a1, .ref a2, .ref a3, .ref a4])), (a2, .inl (cI, 512, .inl ht0)), (a3, .inl (cI, 512, .inl q0)), (a1, .inl (cI, 512, .inl b))] H := hP
  have hD : va_D A [(o, .inr (9, [.ref a1, .ref a2, .ref a3, .ref a4])), (a2, .inl (cI, 512, .inl ht0)), (a3, .inl (cI, 512, .inl q0)), (a1, .inl (cI, 512, .inl b))] := hD
  refine lv_aload_n hx hb dX9_spread_8 rfl (lv_at hl 0 rfl) ?_
  refine va_get (D := D) (ci := 9) (v := .ref a1) (C := RX9) (T := TX9) (N := 4) hx hb hts (by decide +kernel) hown hK.1 hP 0 rfl rfl 0 (by decide) (hts (.fieldLink RX9 11 "JugglingHall$Ways" "before" "[I") (by decide +kernel)) (fun _ h9 => h9) rfl dX9_spread_9 ?_
  refine lv_iload_n hx hb dX9_spread_12 rfl (lv_at hl 1 rfl) ?_
  refine lv_iload_n hx hb dX9_spread_13 rfl (lv_at hl 1 rfl) ?_
  refine ast_n (k := f) hx hb hK.1 hP hD hS 3 0 rfl rfl (hf) (by decide) dX9_spread_14 (fun H locs hP hD hS => ?_)
  have hP : va_P D vwCl [(o, .inr (9, [.ref a1, .ref a2, .ref a3, .ref a4])), (a2, .inl (cI, 512, .inl ht0)), (a3, .inl (cI, 512, .inl q0)), (a1, .inl (cI, 512, .inl (upd b f (nI f))))] H := hP
  have hD : va_D A [(o, .inr (9, [.ref a1, .ref a2, .ref a3, .ref a4])), (a2, .inl (cI, 512, .inl ht0)), (a3, .inl (cI, 512, .inl q0)), (a1, .inl (cI, 512, .inl (upd b f (nI f))))] := hD
  refine lv_aload_n hx hb dX9_spread_15 rfl (lv_at hl 0 rfl) ?_
  refine va_get (D := D) (ci := 9) (v := .ref a3) (C := RX9) (T := TX9) (N := 4) hx hb hts (by decide +kernel) hown hK.1 hP 0 rfl rfl 2 (by decide) (hts (.fieldLink RX9 18 "JugglingHall$Ways" "queue" "[I") (by decide +kernel)) (fun _ h9 => h9) rfl dX9_spread_16 ?_
  refine lv_iconst (v := 0) hx hb dX9_spread_19 (by decide) ?_
  refine lv_eqi (y := nI 0) (jx_c0) ?_
  refine lv_iload_n hx hb dX9_spread_20 rfl (lv_at hl 1 rfl) ?_
  refine ast_n (k := 0) hx hb hK.1 hP hD hS 2 0 rfl rfl (by decide) (by decide) dX9_spread_21 (fun H locs hP hD hS => ?_)
  have hP : va_P D vwCl [(o, .inr (9, [.ref a1, .ref a2, .ref a3, .ref a4])), (a2, .inl (cI, 512, .inl ht0)), (a3, .inl (cI, 512, .inl (upd q0 0 (nI f)))), (a1, .inl (cI, 512, .inl (upd b f (nI f))))] H := hP
  have hD : va_D A [(o, .inr (9, [.ref a1, .ref a2, .ref a3, .ref a4])), (a2, .inl (cI, 512, .inl ht0)), (a3, .inl (cI, 512, .inl (upd q0 0 (nI f)))), (a1, .inl (cI, 512, .inl (upd b f (nI f))))] := hD
  refine lv_iconst (v := 1) hx hb dX9_spread_22 (by decide) ?_
  refine lv_eqi (y := nI 1) (jx_c1) ?_
  refine lv_istore_n (lv' := [(2, .int (nI 1)), (0, .ref o), (1, .int (nI f))]) hx hb dX9_spread_23 rfl hl (by decide) rfl (fun ls hl => ?_)
  refine lv_iconst (v := 0) hx hb dX9_spread_24 (by decide) ?_
  refine lv_eqi (y := nI 0) (jx_c0) ?_
  refine lv_istore_n (lv' := [(3, .int (nI 0)), (2, .int (nI 1)), (0, .ref o), (1, .int (nI f))]) hx hb dX9_spread_25 rfl hl (by decide) rfl (fun ls hl => ?_)
  have loop : ∀ (dd : Nat) (b : Nat → Int32) (ht : Nat → Int32) (q : Nat → Int32) (k : Nat) (i : Nat) (H : Heap) (locs : List Loc) (ls : Array Slot), 512 - i < dd → (BI f b ht q k i 0) → (i ≤ k) → va_P D vwCl [(o, .inr (9, [.ref a1, .ref a2, .ref a3, .ref a4])), (a1, .inl (cI, 512, .inl b)), (a2, .inl (cI, 512, .inl ht)), (a3, .inl (cI, 512, .inl q))] H → va_D A [(o, .inr (9, [.ref a1, .ref a2, .ref a3, .ref a4])), (a1, .inl (cI, 512, .inl b)), (a2, .inl (cI, 512, .inl ht)), (a3, .inl (cI, 512, .inl q))] → va_S A s.heap H locs → lv_has ls 6 [(0, .ref o), (1, .int (nI f)), (2, .int (nI k)), (3, .int (nI i))] → W p l e ({ frames := 1, cells := 0, slots := 0, locals := 23 }) s m args below meth c H locs 0 0 Q (F0 m 26 ls []) := by
    intro dd
    induction dd with
    | zero =>
      intro b ht q k i H locs ls hdd
      exact absurd hdd (Nat.not_lt_zero _)
    | succ dd ih =>
      intro b ht q k i H locs ls hdd hB hik hP hD hS hl
      have hk := hB.k
      refine lv_iload_n hx hb dX9_spread_26 rfl (lv_at hl 3 rfl) ?_
      refine lv_iload_n hx hb dX9_spread_27 rfl (lv_at hl 2 rfl) ?_
      refine lv_icmp_ge (tgt := 130) hx hb dX9_spread_28 (by decide) (fun c28 => ?_) (fun c28 => ?_)
      · have hki : i = k := by have := (nI_leI (by omega) (by omega)).mp c28; omega
        subst hki
        exact g_vret ((b, ht, q)) hx hb hr hlocks hS rfl (⟨i, hB⟩) (hP.sub [0, 1, 2, 3] rfl) (hD.sub [0, 1, 2, 3] (by decide) rfl) hQ (Nat.le_of_ble_eq_true rfl) (Nat.le_of_ble_eq_true rfl) dX9_spread_130
      · have hki : i < k := Nat.lt_of_not_le fun q => c28 (nI_le q (by omega))
        refine lv_iload_n hx hb dX9_spread_31 rfl (lv_at hl 3 rfl) ?_
        refine lv_sipush (v := 512) hx hb dX9_spread_32 (by decide) ?_
        refine lv_icmp_ge (tgt := 130) hx hb dX9_spread_35 (by decide) (fun c35 => absurd c35 (nI_ge (b := 512) (by omega) (by decide))) (fun c35 => ?_)
        refine lv_iconst (v := 0) hx hb dX9_spread_38 (by decide) ?_
        refine lv_eqi (y := nI 0) (jx_c0) ?_
        refine lv_istore (lv' := [(4, .int (nI 0)), (0, .ref o), (1, .int (nI f)), (2, .int (nI k)), (3, .int (nI i))]) hx hb dX9_spread_39 hl (by decide) rfl (fun ls hl => ?_)
        have loop2 : ∀ (dd2 : Nat) (b : Nat → Int32) (ht : Nat → Int32) (q : Nat → Int32) (k : Nat) (h : Nat) (H : Heap) (locs : List Loc) (ls : Array Slot), 10 - h < dd2 → (BI f b ht q k i h) → (i < k) → (h ≤ 10) → va_P D vwCl [(o, .inr (9, [.ref a1, .ref a2, .ref a3, .ref a4])), (a1, .inl (cI, 512, .inl b)), (a2, .inl (cI, 512, .inl ht)), (a3, .inl (cI, 512, .inl q))] H → va_D A [(o, .inr (9, [.ref a1, .ref a2, .ref a3, .ref a4])), (a1, .inl (cI, 512, .inl b)), (a2, .inl (cI, 512, .inl ht)), (a3, .inl (cI, 512, .inl q))] → va_S A s.heap H locs → lv_has ls 6 [(0, .ref o), (1, .int (nI f)), (2, .int (nI k)), (3, .int (nI i)), (4, .int (nI h))] → W p l e ({ frames := 1, cells := 0, slots := 0, locals := 23 }) s m args below meth c H locs 0 0 Q (F0 m 41 ls []) := by
          intro dd2
          induction dd2 with
          | zero =>
            intro b ht q k h H locs ls hdd
            exact absurd hdd (Nat.not_lt_zero _)
          | succ dd2 ih2 =>
            intro b ht q k h H locs ls hdd hB hki hh hP hD hS hl
            have hk := hB.k
            obtain ⟨x, hx5, ex⟩ := hB.at hki
            refine lv_iload hx hb dX9_spread_41 (lv_at hl 4 rfl) ?_
            refine lv_bipush (v := 9) hx hb dX9_spread_43 (by decide) ?_
            refine lv_icmp_gt (tgt := 124) hx hb dX9_spread_45 (by decide) (fun c45 => ?_) (fun c45 => ?_)
            · have h10 : h = 10 := by have := (nI_ltI (a := 9) (by decide) (by omega)).mp c45; omega
              rw [h10] at hB
              refine lv_iinc (v := nI (i + 1)) (lv' := [(3, .int (nI (i + 1))), (0, .ref o), (1, .int (nI f)), (2, .int (nI k)), (4, .int (nI h))]) hx hb dX9_spread_124 hl (k := 3) rfl (jx_inc) (by decide) rfl (fun ls hl => ?_)
              refine lv_goto (tgt := 26) hx hb dX9_spread_127 (by decide) ?_
              exact ih b ht q k (i + 1) _ _ _ (by omega) (hB.next) (by omega) hP hD hS (lv_sub hl [1, 2, 3, 0] rfl)
            · have h10 : h < 10 := by
                have : ¬ 9 < h := fun q => c45 (nI_lt (a := 9) q (by omega))
                omega
              refine lv_aload_n hx hb dX9_spread_48 rfl (lv_at hl 0 rfl) ?_
              refine va_get (D := D) (ci := 9) (v := .ref a3) (C := RX9) (T := TX9) (N := 4) hx hb hts (by decide +kernel) hown hK.1 hP 0 rfl rfl 2 (by decide) (hts (.fieldLink RX9 18 "JugglingHall$Ways" "queue" "[I") (by decide +kernel)) (fun _ h9 => h9) rfl dX9_spread_49 ?_
              refine lv_iload_n hx hb dX9_spread_52 rfl (lv_at hl 3 rfl) ?_
              refine ald_n (k := i) hx hb hK.1 hP 3 0 rfl rfl (by omega) (by decide) dX9_spread_53 ?_
              refine lv_eqi (y := nI x) (ex) ?_
              refine lv_iload hx hb dX9_spread_54 (lv_at hl 4 rfl) ?_
              refine ro (va_runS (As := [.int (nI x), .int (nI h)]) (rest := []) ⟨hx, hb, hml, hown, hts⟩ (c_after l D cI cR cM _ hx5 h10) (va_cwS 2 hts gX9_spread_X9_after rfl rfl rfl (by decide +kernel) ⟨Nat.le_of_ble_eq_true rfl, Nat.le_of_ble_eq_true rfl⟩) (pre_S hK va_P_nil (va_D_nil (A := fun _ => True))) rfl rfl hl.1 rfl (lv_room (Nat.le_of_ble_eq_true rfl)) dX9_spread_56 ⟨Nat.le_of_ble_eq_true rfl, Nat.le_of_ble_eq_true rfl⟩) hS hA hP (fun H locs hP hS => ?_)
              rcases est : stp x h with _ | t
              · refine lv_eqi (y := (-1)) (stI_none est) ?_
                refine lv_istore (lv' := [(5, .int (-1)), (0, .ref o), (1, .int (nI f)), (2, .int (nI k)), (3, .int (nI i)), (4, .int (nI h))]) hx hb dX9_spread_59 hl (by decide) rfl (fun ls hl => ?_)
                refine lv_iload hx hb dX9_spread_61 (lv_at hl 0 rfl) ?_
                refine lv_iconst (v := (-1)) hx hb dX9_spread_63 (by decide) ?_
                refine lv_icmp_eq (tgt := 118) hx hb dX9_spread_64 (by decide) (fun c64 => ?_) (fun c64 => absurd (rfl) c64)
                refine lv_iinc (v := nI (h + 1)) (lv' := [(4, .int (nI (h + 1))), (5, .int (-1)), (0, .ref o), (1, .int (nI f)), (2, .int (nI k)), (3, .int (nI i))]) hx hb dX9_spread_118 hl (k := 5) rfl (jx_inc) (by decide) rfl (fun ls hl => ?_)
                refine lv_goto (tgt := 41) hx hb dX9_spread_121 (by decide) ?_
                exact ih2 b ht q k (h + 1) _ _ _ (by omega) (hB.skip hki h10 hx5 ex (fun t e => by rw [est] at e; cases e)) (hki) (by omega) hP hD hS (lv_sub hl [2, 3, 4, 5, 0] rfl)
              · have htl : t < 512 := stp_lt hx5 est
                refine lv_eqi (y := nI t) (stI_some est) ?_
                refine lv_istore (lv' := [(5, .int (nI t)), (0, .ref o), (1, .int (nI f)), (2, .int (nI k)), (3, .int (nI i)), (4, .int (nI h))]) hx hb dX9_spread_59 hl (by decide) rfl (fun ls hl => ?_)
                refine lv_iload hx hb dX9_spread_61 (lv_at hl 0 rfl) ?_
                refine lv_iconst (v := (-1)) hx hb dX9_spread_63 (by decide) ?_
                refine lv_icmp_eq (tgt := 118) hx hb dX9_spread_64 (by decide) (fun c64 => absurd c64 (nI_m1 (by omega))) (fun c64 => ?_)
                refine lv_aload_n hx hb dX9_spread_67 rfl (lv_at hl 1 rfl) ?_
                refine va_get (D := D) (ci := 9) (v := .ref a1) (C := RX9) (T := TX9) (N := 4) hx hb hts (by decide +kernel) hown hK.1 hP 0 rfl rfl 0 (by decide) (hts (.fieldLink RX9 11 "JugglingHall$Ways" "before" "[I") (by decide +kernel)) (fun _ h9 => h9) rfl dX9_spread_68 ?_
                refine lv_iload hx hb dX9_spread_71 (lv_at hl 0 rfl) ?_
                refine ald_n (k := t) hx hb hK.1 hP 1 0 rfl rfl (htl) (by decide) dX9_spread_73 ?_
                refine lv_iconst (v := (-1)) hx hb dX9_spread_74 (by decide) ?_
                refine lv_icmp_ne (tgt := 118) hx hb dX9_spread_75 (by decide) (fun c75 => ?_) (fun c75 => ?_)
                · have := c75
                  refine lv_iinc (v := nI (h + 1)) (lv' := [(4, .int (nI (h + 1))), (5, .int (nI t)), (0, .ref o), (1, .int (nI f)), (2, .int (nI k)), (3, .int (nI i))]) hx hb dX9_spread_118 hl (k := 5) rfl (jx_inc) (by decide) rfl (fun ls hl => ?_)
                  refine lv_goto (tgt := 41) hx hb dX9_spread_121 (by decide) ?_
                  exact ih2 b ht q k (h + 1) _ _ _ (by omega) (hB.skip hki h10 hx5 ex (fun t9 e => by rw [est] at e; cases e; exact c75)) (hki) (by omega) hP hD hS (lv_sub hl [2, 3, 4, 5, 0] rfl)
                · have hB2 := hB.push hki h10 hx5 ex est c75
                  refine lv_iload_n hx hb dX9_spread_78 rfl (lv_at hl 3 rfl) ?_
                  refine lv_sipush (v := 512) hx hb dX9_spread_79 (by decide) ?_
                  refine lv_icmp_ge (tgt := 118) hx hb dX9_spread_82 (by decide) (fun c82 => absurd c82 (nI_ge (b := 512) hB2.1 (by decide))) (fun c82 => ?_)
                  refine lv_aload_n hx hb dX9_spread_85 rfl (lv_at hl 1 rfl) ?_
                  refine va_get (D := D) (ci := 9) (v := .ref a1) (C := RX9) (T := TX9) (N := 4) hx hb hts (by decide +kernel) hown hK.1 hP 0 rfl rfl 0 (by decide) (hts (.fieldLink RX9 11 "JugglingHall$Ways" "before" "[I") (by decide +kernel)) (fun _ h9 => h9) rfl dX9_spread_86 ?_
                  refine lv_iload hx hb dX9_spread_89 (lv_at hl 0 rfl) ?_
                  refine lv_aload_n hx hb dX9_spread_91 rfl (lv_at hl 1 rfl) ?_
                  refine va_get (D := D) (ci := 9) (v := .ref a3) (C := RX9) (T := TX9) (N := 4) hx hb hts (by decide +kernel) hown hK.1 hP 0 rfl rfl 2 (by decide) (hts (.fieldLink RX9 18 "JugglingHall$Ways" "queue" "[I") (by decide +kernel)) (fun _ h9 => h9) rfl dX9_spread_92 ?_
                  refine lv_iload_n hx hb dX9_spread_95 rfl (lv_at hl 4 rfl) ?_
                  refine ald_n (k := i) hx hb hK.1 hP 3 0 rfl rfl (by omega) (by decide) dX9_spread_96 ?_
                  refine lv_eqi (y := nI x) (ex) ?_
                  refine ast_n (k := t) hx hb hK.1 hP hD hS 1 0 rfl rfl (htl) (by decide) dX9_spread_97 (fun H locs hP hD hS => ?_)
                  have hP : va_P D vwCl [(o, .inr (9, [.ref a1, .ref a2, .ref a3, .ref a4])), (a1, .inl (cI, 512, .inl (upd b t (nI x)))), (a2, .inl (cI, 512, .inl ht)), (a3, .inl (cI, 512, .inl q))] H := hP
                  have hD : va_D A [(o, .inr (9, [.ref a1, .ref a2, .ref a3, .ref a4])), (a1, .inl (cI, 512, .inl (upd b t (nI x)))), (a2, .inl (cI, 512, .inl ht)), (a3, .inl (cI, 512, .inl q))] := hD
                  refine lv_aload_n hx hb dX9_spread_98 rfl (lv_at hl 1 rfl) ?_
                  refine va_get (D := D) (ci := 9) (v := .ref a2) (C := RX9) (T := TX9) (N := 4) hx hb hts (by decide +kernel) hown hK.1 hP 0 rfl rfl 1 (by decide) (hts (.fieldLink RX9 15 "JugglingHall$Ways" "heightTo" "[I") (by decide +kernel)) (fun _ h9 => h9) rfl dX9_spread_99 ?_
                  refine lv_iload hx hb dX9_spread_102 (lv_at hl 0 rfl) ?_
                  refine lv_iload hx hb dX9_spread_104 (lv_at hl 5 rfl) ?_
                  refine ast_n (k := t) hx hb hK.1 hP hD hS 2 0 rfl rfl (htl) (by decide) dX9_spread_106 (fun H locs hP hD hS => ?_)
                  have hP : va_P D vwCl [(o, .inr (9, [.ref a1, .ref a2, .ref a3, .ref a4])), (a1, .inl (cI, 512, .inl (upd b t (nI x)))), (a2, .inl (cI, 512, .inl (upd ht t (nI h)))), (a3, .inl (cI, 512, .inl q))] H := hP
                  have hD : va_D A [(o, .inr (9, [.ref a1, .ref a2, .ref a3, .ref a4])), (a1, .inl (cI, 512, .inl (upd b t (nI x)))), (a2, .inl (cI, 512, .inl (upd ht t (nI h)))), (a3, .inl (cI, 512, .inl q))] := hD
                  refine lv_aload_n hx hb dX9_spread_107 rfl (lv_at hl 1 rfl) ?_
                  refine va_get (D := D) (ci := 9) (v := .ref a3) (C := RX9) (T := TX9) (N := 4) hx hb hts (by decide +kernel) hown hK.1 hP 0 rfl rfl 2 (by decide) (hts (.fieldLink RX9 18 "JugglingHall$Ways" "queue" "[I") (by decide +kernel)) (fun _ h9 => h9) rfl dX9_spread_108 ?_
                  refine lv_iload_n hx hb dX9_spread_111 rfl (lv_at hl 3 rfl) ?_
                  refine lv_iload hx hb dX9_spread_112 (lv_at hl 0 rfl) ?_
                  refine ast_n (k := k) hx hb hK.1 hP hD hS 3 0 rfl rfl (hB2.1) (by decide) dX9_spread_114 (fun H locs hP hD hS => ?_)
                  have hP : va_P D vwCl [(o, .inr (9, [.ref a1, .ref a2, .ref a3, .ref a4])), (a1, .inl (cI, 512, .inl (upd b t (nI x)))), (a2, .inl (cI, 512, .inl (upd ht t (nI h)))), (a3, .inl (cI, 512, .inl (upd q k (nI t))))] H := hP
                  have hD : va_D A [(o, .inr (9, [.ref a1, .ref a2, .ref a3, .ref a4])), (a1, .inl (cI, 512, .inl (upd b t (nI x)))), (a2, .inl (cI, 512, .inl (upd ht t (nI h)))), (a3, .inl (cI, 512, .inl (upd q k (nI t))))] := hD
                  refine lv_iinc (v := nI (k + 1)) (lv' := [(2, .int (nI (k + 1))), (5, .int (nI t)), (0, .ref o), (1, .int (nI f)), (3, .int (nI i)), (4, .int (nI h))]) hx hb dX9_spread_115 hl (k := 3) rfl (jx_inc) (by decide) rfl (fun ls hl => ?_)
                  refine lv_iinc (v := nI (h + 1)) (lv' := [(4, .int (nI (h + 1))), (2, .int (nI (k + 1))), (5, .int (nI t)), (0, .ref o), (1, .int (nI f)), (3, .int (nI i))]) hx hb dX9_spread_118 hl (k := 5) rfl (jx_inc) (by decide) rfl (fun ls hl => ?_)
                  refine lv_goto (tgt := 41) hx hb dX9_spread_121 (by decide) ?_
                  exact ih2 (upd b t (nI x)) (upd ht t (nI h)) (upd q k (nI t)) (k + 1) (h + 1) _ _ _ (by omega) (hB2.2) (by omega) (by omega) hP hD hS (lv_sub hl [3, 4, 1, 5, 0] rfl)
        exact loop2 11 b ht q k 0 _ _ _ (by omega) (hB) (hki) (by omega) hP hD hS (lv_sub hl [1, 2, 3, 4, 0] rfl)
  exact loop 513 (upd b f (nI f)) ht0 (upd q0 0 (nI f)) 1 0 _ _ _ (by omega) (BI.init hf hw) (by omega) (hP.sub [0, 3, 1, 2] rfl) (hD.sub [0, 3, 1, 2] (by decide) rfl) hS (lv_sub hl [2, 3, 1, 0] rfl)
set_option maxRecDepth 100000 in
set_option maxHeartbeats 4000000 in
/-- Ways.trace: the way back -/
theorem c_trace (l : Launch) (D : va_G) (cI cR cM : ClassId) (sz : Nat) {f t0 : Nat} (hf : f < 512) (ht0 : t0 < 512) {rs : List Nat} (o a1 a2 a3 a4 : Nat) (b ht g0 : Nat → Int32) (hrs : rs.length < 512) (htr : jtr b ht f t0 rs) : Met l yX9_trace wsX9_trace ({ frames := 0, cells := 0, slots := 0, locals := 0 }) (P0 D cI cR cM [.ref o, .int (nI f), .int (nI t0)] sz [(o, .inr (9, [.ref a1, .ref a2, .ref a3, .ref a4])), (a1, .inl (cI, 512, .inl b)), (a2, .inl (cI, 512, .inl ht)), (a4, .inl (cI, 512, .inl g0))]) (QG (S := Nat → Int32) (fun _ => some (.int (nI rs.length))) (fun g => [(o, .inr (9, [.ref a1, .ref a2, .ref a3, .ref a4])), (a1, .inl (cI, 512, .inl b)), (a2, .inl (cI, 512, .inl ht)), (a4, .inl (cI, 512, .inl g))]) (fun g => ∀ j, j < rs.length → g j = nI (rs.reverse.getD j 0)) D (va_A [(o, .inr (9, [.ref a1, .ref a2, .ref a3, .ref a4])), (a1, .inl (cI, 512, .inl b)), (a2, .inl (cI, 512, .inl ht)), (a4, .inl (cI, 512, .inl g0))] sz)) 0 0 (va_A [(o, .inr (9, [.ref a1, .ref a2, .ref a3, .ref a4])), (a1, .inl (cI, 512, .inl b)), (a2, .inl (cI, 512, .inl ht)), (a4, .inl (cI, 512, .inl g0))] sz) := by
  refine go (cc := cX9_trace) (maxL := 6) (ret := (some .int)) (by decide) rfl (Nat.le_of_ble_eq_true rfl) ?_
  intro p e s m below meth c ls args Q hQ hsz hx hb hr hml hts hown hlocks hnm hP hK hD hl
  subst hsz
  have hD := hD.self (sz := s.heap.size)
  generalize hAe : va_A [(o, .inr (9, [.ref a1, .ref a2, .ref a3, .ref a4])), (a1, .inl (cI, 512, .inl b)), (a2, .inl (cI, 512, .inl ht)), (a4, .inl (cI, 512, .inl g0))] s.heap.size = A at hD hQ
  have hA : ∀ q, s.heap.size ≤ q → A q := fun q h => by rw [← hAe]; exact Or.inr h
  have hS : va_S A s.heap s.heap [] := va_S.rf
  have hl : lv_has ls 6 [(0, .ref o), (1, .int (nI f)), (2, .int (nI t0))] := hl
  refine lv_iconst (v := 0) hx hb dX9_trace_0 (by decide) ?_
  refine lv_eqi (y := nI 0) (jx_c0) ?_
  refine lv_istore_n (lv' := [(3, .int (nI 0)), (0, .ref o), (1, .int (nI f)), (2, .int (nI t0))]) hx hb dX9_trace_1 rfl hl (by decide) rfl (fun ls hl => ?_)
  refine lv_iload_n hx hb dX9_trace_2 rfl (lv_at hl 3 rfl) ?_
  refine lv_istore (lv' := [(4, .int (nI t0)), (3, .int (nI 0)), (0, .ref o), (1, .int (nI f)), (2, .int (nI t0))]) hx hb dX9_trace_3 hl (by decide) rfl (fun ls hl => ?_)
  have loop : ∀ (dd : Nat) (rs1 : List Nat) (st : Nat) (u : Nat) (H : Heap) (locs : List Loc) (ls : Array Slot), rs1.length < dd → (u < 512) → (jtr b ht f u rs1) → (st + rs1.length = rs.length) → va_P D vwCl [(o, .inr (9, [.ref a1, .ref a2, .ref a3, .ref a4])), (a1, .inl (cI, 512, .inl b)), (a2, .inl (cI, 512, .inl ht)), (a4, .inl (cI, 512, .inl g0))] H → va_D A [(o, .inr (9, [.ref a1, .ref a2, .ref a3, .ref a4])), (a1, .inl (cI, 512, .inl b)), (a2, .inl (cI, 512, .inl ht)), (a4, .inl (cI, 512, .inl g0))] → va_S A s.heap H locs → lv_has ls 6 [(0, .ref o), (1, .int (nI f)), (2, .int (nI t0)), (3, .int (nI st)), (4, .int (nI u))] → W p l e ({ frames := 0, cells := 0, slots := 0, locals := 0 }) s m args below meth c H locs 0 0 Q (F0 m 5 ls []) := by
    intro dd
    induction dd with
    | zero =>
      intro rs1 st u H locs ls hdd
      exact absurd hdd (Nat.not_lt_zero _)
    | succ dd ih =>
      intro rs1 st u H locs ls hdd hu hj hn hP hD hS hl
      rcases rs1 with _ | ⟨h1, rs2⟩
      · have hj : u = f := hj
        subst hj
        have hn : st = rs.length := by simpa using hn
        subst hn
        refine lv_iload hx hb dX9_trace_5 (lv_at hl 4 rfl) ?_
        refine lv_iload_n hx hb dX9_trace_7 rfl (lv_at hl 1 rfl) ?_
        refine lv_icmp_eq (tgt := 33) hx hb dX9_trace_8 (by decide) (fun c8 => ?_) (fun c8 => absurd (rfl) c8)
        refine lv_iload_n hx hb dX9_trace_33 rfl (lv_at hl 2 rfl) ?_
        refine lv_istore (lv' := [(4, .int (nI t0)), (0, .ref o), (1, .int (nI u)), (2, .int (nI t0)), (3, .int (nI rs.length))]) hx hb dX9_trace_34 hl (by decide) rfl (fun ls hl => ?_)
        refine lv_iload_n hx hb dX9_trace_36 rfl (lv_at hl 4 rfl) ?_
        refine lv_iconst (v := 1) hx hb dX9_trace_37 (by decide) ?_
        refine lv_isub hx hb dX9_trace_38 ?_
        refine lv_istore (lv' := [(5, .int ((nI rs.length) - 1)), (4, .int (nI t0)), (0, .ref o), (1, .int (nI u)), (2, .int (nI t0)), (3, .int (nI rs.length))]) hx hb dX9_trace_39 hl (by decide) rfl (fun ls hl => ?_)
        have loop2 : ∀ (dd2 : Nat) (rs3 : List Nat) (pre : List Nat) (g : Nat → Int32) (x : Nat) (H : Heap) (locs : List Loc) (ls : Array Slot), rs3.length < dd2 → (x < 512) → (jtr b ht u x rs3) → (pre ++ rs3 = rs) → (∀ j, rs3.length ≤ j → j < rs.length → g j = nI (rs.reverse.getD j 0)) → va_P D vwCl [(o, .inr (9, [.ref a1, .ref a2, .ref a3, .ref a4])), (a1, .inl (cI, 512, .inl b)), (a2, .inl (cI, 512, .inl ht)), (a4, .inl (cI, 512, .inl g))] H → va_D A [(o, .inr (9, [.ref a1, .ref a2, .ref a3, .ref a4])), (a1, .inl (cI, 512, .inl b)), (a2, .inl (cI, 512, .inl ht)), (a4, .inl (cI, 512, .inl g))] → va_S A s.heap H locs → lv_has ls 6 [(0, .ref o), (1, .int (nI u)), (2, .int (nI t0)), (3, .int (nI rs.length)), (4, .int (nI x)), (5, .int (nI rs3.length - 1))] → W p l e ({ frames := 0, cells := 0, slots := 0, locals := 0 }) s m args below meth c H locs 0 0 Q (F0 m 41 ls []) := by
          intro dd2
          induction dd2 with
          | zero =>
            intro rs3 pre g x H locs ls hdd
            exact absurd hdd (Nat.not_lt_zero _)
          | succ dd2 ih2 =>
            intro rs3 pre g x H locs ls hdd hx5 hj hp hg hP hD hS hl
            rcases rs3 with _ | ⟨h1, rs4⟩
            · refine lv_iload hx hb dX9_trace_41 (lv_at hl 5 rfl) ?_
              refine lv_if_lt (tgt := 75) hx hb dX9_trace_43 (by decide) (fun c43 => ?_) (fun c43 => absurd (by decide) c43)
              refine lv_iload_n hx hb dX9_trace_75 rfl (lv_at hl 3 rfl) ?_
              exact g_iret (g) hx hb hr hlocks hS rfl (fun j hj => hg j (Nat.zero_le j) hj) (hP.sub [0, 1, 2, 3] rfl) (hD.sub [0, 1, 2, 3] (by decide) rfl) hQ (Nat.le_of_ble_eq_true rfl) (Nat.le_of_ble_eq_true rfl) dX9_trace_76
            · obtain ⟨hne, -, hh1, hht, t1, ht1, hb1, hj1⟩ := hj
              have hlen : pre.length + (rs4.length + 1) = rs.length := by rw [← hp]; simp
              refine lv_iload hx hb dX9_trace_41 (lv_at hl 5 rfl) ?_
              refine lv_eqi (y := nI rs4.length) (nI_pred _) ?_
              refine lv_if_lt (tgt := 75) hx hb dX9_trace_43 (by decide) (fun c43 => absurd c43 (nI_pos (by omega))) (fun c43 => ?_)
              refine lv_aload_n hx hb dX9_trace_46 rfl (lv_at hl 0 rfl) ?_
              refine va_get (D := D) (ci := 9) (v := .ref a4) (C := RX9) (T := TX9) (N := 4) hx hb hts (by decide +kernel) hown hK.1 hP 0 rfl rfl 3 (by decide) (hts (.fieldLink RX9 21 "JugglingHall$Ways" "heights" "[I") (by decide +kernel)) (fun _ h9 => h9) rfl dX9_trace_47 ?_
              refine lv_iload hx hb dX9_trace_50 (lv_at hl 5 rfl) ?_
              refine lv_eqi (y := nI rs4.length) (nI_pred _) ?_
              refine lv_aload_n hx hb dX9_trace_52 rfl (lv_at hl 0 rfl) ?_
              refine va_get (D := D) (ci := 9) (v := .ref a2) (C := RX9) (T := TX9) (N := 4) hx hb hts (by decide +kernel) hown hK.1 hP 0 rfl rfl 1 (by decide) (hts (.fieldLink RX9 15 "JugglingHall$Ways" "heightTo" "[I") (by decide +kernel)) (fun _ h9 => h9) rfl dX9_trace_53 ?_
              refine lv_iload hx hb dX9_trace_56 (lv_at hl 4 rfl) ?_
              refine ald_n (k := x) hx hb hK.1 hP 2 0 rfl rfl (hx5) (by decide) dX9_trace_58 ?_
              refine lv_eqi (y := nI h1) (hht) ?_
              refine ast_n (k := rs4.length) hx hb hK.1 hP hD hS 3 0 rfl rfl (by omega) (by decide) dX9_trace_59 (fun H locs hP hD hS => ?_)
              have hP : va_P D vwCl [(o, .inr (9, [.ref a1, .ref a2, .ref a3, .ref a4])), (a1, .inl (cI, 512, .inl b)), (a2, .inl (cI, 512, .inl ht)), (a4, .inl (cI, 512, .inl (upd g rs4.length (nI h1))))] H := hP
              have hD : va_D A [(o, .inr (9, [.ref a1, .ref a2, .ref a3, .ref a4])), (a1, .inl (cI, 512, .inl b)), (a2, .inl (cI, 512, .inl ht)), (a4, .inl (cI, 512, .inl (upd g rs4.length (nI h1))))] := hD
              refine lv_aload_n hx hb dX9_trace_60 rfl (lv_at hl 0 rfl) ?_
              refine va_get (D := D) (ci := 9) (v := .ref a1) (C := RX9) (T := TX9) (N := 4) hx hb hts (by decide +kernel) hown hK.1 hP 0 rfl rfl 0 (by decide) (hts (.fieldLink RX9 11 "JugglingHall$Ways" "before" "[I") (by decide +kernel)) (fun _ h9 => h9) rfl dX9_trace_61 ?_
              refine lv_iload hx hb dX9_trace_64 (lv_at hl 4 rfl) ?_
              refine ald_n (k := x) hx hb hK.1 hP 1 0 rfl rfl (hx5) (by decide) dX9_trace_66 ?_
              refine lv_eqi (y := nI t1) (hb1) ?_
              refine lv_istore (lv' := [(4, .int (nI t1)), (0, .ref o), (1, .int (nI u)), (2, .int (nI t0)), (3, .int (nI rs.length)), (5, .int (nI (h1 :: rs4).length - 1))]) hx hb dX9_trace_67 hl (by decide) rfl (fun ls hl => ?_)
              refine lv_iinc (v := nI rs4.length - 1) (lv' := [(5, .int (nI rs4.length - 1)), (4, .int (nI t1)), (0, .ref o), (1, .int (nI u)), (2, .int (nI t0)), (3, .int (nI rs.length))]) hx hb dX9_trace_69 hl (k := 5) rfl (by rw [show nI (h1 :: rs4).length - 1 = nI rs4.length from nI_pred _]; exact jx_m1 _) (by decide) rfl (fun ls hl => ?_)
              refine lv_goto (tgt := 41) hx hb dX9_trace_72 (by decide) ?_
              exact ih2 rs4 (pre ++ [h1]) (upd g rs4.length (nI h1)) t1 _ _ _ (by simp at hdd; omega) (ht1) (hj1) (by rw [← hp]; simp) (fun j h1j hj => by
                    by_cases q : j = rs4.length
                    · rw [q, pk_us, ← hp, List.reverse_append, jx_mid]
                    · rw [pk_un q]; exact hg j (by simp; omega) hj) hP hD hS (lv_sub hl [2, 3, 4, 5, 1, 0] rfl)
        exact loop2 (rs.length + 1) rs [] g0 t0 _ _ _ (by omega) (ht0) (htr) (rfl) (fun j h1 h2 => by omega) hP hD hS (lv_sub hl [2, 3, 4, 5, 1, 0] rfl)
      · obtain ⟨hne, -, hh1, hht, t1, ht1, hb1, hj1⟩ := hj
        have hn1 : st + (rs2.length + 1) = rs.length := by simpa using hn
        refine lv_iload hx hb dX9_trace_5 (lv_at hl 4 rfl) ?_
        refine lv_iload_n hx hb dX9_trace_7 rfl (lv_at hl 1 rfl) ?_
        refine lv_icmp_eq (tgt := 33) hx hb dX9_trace_8 (by decide) (fun c8 => absurd c8 (fun q => hne ((nI_eq (by omega) (by omega)).mp q))) (fun c8 => ?_)
        refine lv_iload_n hx hb dX9_trace_11 rfl (lv_at hl 3 rfl) ?_
        refine lv_sipush (v := 512) hx hb dX9_trace_12 (by decide) ?_
        refine lv_icmp_ge (tgt := 33) hx hb dX9_trace_15 (by decide) (fun c15 => absurd c15 (nI_ge (b := 512) (by omega) (by decide))) (fun c15 => ?_)
        refine lv_iinc (v := nI (st + 1)) (lv' := [(3, .int (nI (st + 1))), (0, .ref o), (1, .int (nI f)), (2, .int (nI t0)), (4, .int (nI u))]) hx hb dX9_trace_18 hl (k := 3) rfl (jx_inc) (by decide) rfl (fun ls hl => ?_)
        refine lv_aload_n hx hb dX9_trace_21 rfl (lv_at hl 1 rfl) ?_
        refine va_get (D := D) (ci := 9) (v := .ref a1) (C := RX9) (T := TX9) (N := 4) hx hb hts (by decide +kernel) hown hK.1 hP 0 rfl rfl 0 (by decide) (hts (.fieldLink RX9 11 "JugglingHall$Ways" "before" "[I") (by decide +kernel)) (fun _ h9 => h9) rfl dX9_trace_22 ?_
        refine lv_iload hx hb dX9_trace_25 (lv_at hl 4 rfl) ?_
        refine ald_n (k := u) hx hb hK.1 hP 1 0 rfl rfl (hu) (by decide) dX9_trace_27 ?_
        refine lv_eqi (y := nI t1) (hb1) ?_
        refine lv_istore (lv' := [(4, .int (nI t1)), (3, .int (nI (st + 1))), (0, .ref o), (1, .int (nI f)), (2, .int (nI t0))]) hx hb dX9_trace_28 hl (by decide) rfl (fun ls hl => ?_)
        refine lv_goto (tgt := 5) hx hb dX9_trace_30 (by decide) ?_
        exact ih rs2 (st + 1) t1 _ _ _ (by simp at hdd; omega) (ht1) (hj1) (by omega) hP hD hS (lv_sub hl [2, 3, 4, 1, 0] rfl)
  exact loop (rs.length + 1) rs 0 t0 _ _ _ (by omega) (ht0) (htr) (by omega) hP hD hS (lv_sub hl [2, 3, 4, 1, 0] rfl)
set_option maxRecDepth 100000 in
set_option maxHeartbeats 4000000 in
/-- Ways.find between two states -/
theorem c_find_in (l : Launch) (D : va_G) (cI cR cM : ClassId) (sz : Nat) {a b : Nat} (ha : a < 512) (hb5 : b < 512) (o a1 a2 a3 a4 : Nat) (b0 ht0 q0 g0 : Nat → Int32) : Met l yX9_find wsX9_find ({ frames := 2, cells := 0, slots := 0, locals := 56 }) (P0 D cI cR cM [.ref o, .int (nI a), .int (nI b)] sz [(o, .inr (9, [.ref a1, .ref a2, .ref a3, .ref a4])), (a1, .inl (cI, 512, .inl b0)), (a2, .inl (cI, 512, .inl ht0)), (a3, .inl (cI, 512, .inl q0)), (a4, .inl (cI, 512, .inl g0))]) (QG (S := Int32 × (Nat → Int32) × (Nat → Int32) × (Nat → Int32) × (Nat → Int32)) (fun u => some (.int u.1)) (fun u => [(o, .inr (9, [.ref a1, .ref a2, .ref a3, .ref a4])), (a1, .inl (cI, 512, .inl u.2.1)), (a2, .inl (cI, 512, .inl u.2.2.1)), (a3, .inl (cI, 512, .inl u.2.2.2.1)), (a4, .inl (cI, 512, .inl u.2.2.2.2))]) (fun u => ((¬ ∃ hs, jrun a hs = some b) ∧ u.1 = -1) ∨ ∃ hs, IsWay a b hs ∧ hs.length < 512 ∧ u.1 = nI hs.length ∧ ∀ j, j < hs.length → u.2.2.2.2 j = nI (hs.getD j 0)) D (va_A [(o, .inr (9, [.ref a1, .ref a2, .ref a3, .ref a4])), (a1, .inl (cI, 512, .inl b0)), (a2, .inl (cI, 512, .inl ht0)), (a3, .inl (cI, 512, .inl q0)), (a4, .inl (cI, 512, .inl g0))] sz)) 0 0 (va_A [(o, .inr (9, [.ref a1, .ref a2, .ref a3, .ref a4])), (a1, .inl (cI, 512, .inl b0)), (a2, .inl (cI, 512, .inl ht0)), (a3, .inl (cI, 512, .inl q0)), (a4, .inl (cI, 512, .inl g0))] sz) := by
  refine go (cc := cX9_find) (maxL := 3) (ret := (some .int)) (by decide) rfl (Nat.le_of_ble_eq_true rfl) ?_
  intro p e s m below meth c ls args Q hQ hsz hx hb hr hml hts hown hlocks hnm hP hK hD hl
  subst hsz
  have hD := hD.self (sz := s.heap.size)
  generalize hAe : va_A [(o, .inr (9, [.ref a1, .ref a2, .ref a3, .ref a4])), (a1, .inl (cI, 512, .inl b0)), (a2, .inl (cI, 512, .inl ht0)), (a3, .inl (cI, 512, .inl q0)), (a4, .inl (cI, 512, .inl g0))] s.heap.size = A at hD hQ
  have hA : ∀ q, s.heap.size ≤ q → A q := fun q h => by rw [← hAe]; exact Or.inr h
  have hS : va_S A s.heap s.heap [] := va_S.rf
  have hl : lv_has ls 3 [(0, .ref o), (1, .int (nI a)), (2, .int (nI b))] := hl
  refine lv_iload_n hx hb dX9_find_0 rfl (lv_at hl 1 rfl) ?_
  refine lv_if_lt (tgt := 22) hx hb dX9_find_1 (by decide) (fun c1 => absurd c1 (nI_pos (by omega))) (fun c1 => ?_)
  refine lv_iload_n hx hb dX9_find_4 rfl (lv_at hl 1 rfl) ?_
  refine lv_sipush (v := 512) hx hb dX9_find_5 (by decide) ?_
  refine lv_icmp_ge (tgt := 22) hx hb dX9_find_8 (by decide) (fun c8 => absurd c8 (nI_ge (b := 512) (by omega) (by decide))) (fun c8 => ?_)
  refine lv_iload_n hx hb dX9_find_11 rfl (lv_at hl 2 rfl) ?_
  refine lv_if_lt (tgt := 22) hx hb dX9_find_12 (by decide) (fun c12 => absurd c12 (nI_pos (by omega))) (fun c12 => ?_)
  refine lv_iload_n hx hb dX9_find_15 rfl (lv_at hl 2 rfl) ?_
  refine lv_sipush (v := 512) hx hb dX9_find_16 (by decide) ?_
  refine lv_icmp_lt (tgt := 24) hx hb dX9_find_19 (by decide) (fun c19 => ?_) (fun c19 => absurd (nI_lt (b := 512) hb5 (by decide)) c19)
  refine lv_iload_n hx hb dX9_find_24 rfl (lv_at hl 1 rfl) ?_
  refine ro (va_runS (As := [.int (nI a)]) (rest := []) ⟨hx, hb, hml, hown, hts⟩ (c_bitCount l D cI cR cM _ ha) (va_cwS 1 hts gX9_find_J6_bitCount_0f7a4 rfl rfl rfl (by decide +kernel) ⟨Nat.le_of_ble_eq_true rfl, Nat.le_of_ble_eq_true rfl⟩) (pre_S hK va_P_nil (va_D_nil (A := fun _ => True))) rfl rfl hl.1 rfl (lv_room (Nat.le_of_ble_eq_true rfl)) dX9_find_25 ⟨Nat.le_of_ble_eq_true rfl, Nat.le_of_ble_eq_true rfl⟩) hS hA hP (fun H locs hP hS => ?_)
  refine lv_iload_n hx hb dX9_find_28 rfl (lv_at hl 2 rfl) ?_
  refine ro (va_runS (As := [.int (nI b)]) (rest := [.int (nI (bc a))]) ⟨hx, hb, hml, hown, hts⟩ (c_bitCount l D cI cR cM _ hb5) (va_cwS 1 hts gX9_find_J6_bitCount_0f7a4 rfl rfl rfl (by decide +kernel) ⟨Nat.le_of_ble_eq_true rfl, Nat.le_of_ble_eq_true rfl⟩) (pre_S hK va_P_nil (va_D_nil (A := fun _ => True))) rfl rfl hl.1 rfl (lv_room (Nat.le_of_ble_eq_true rfl)) dX9_find_29 ⟨Nat.le_of_ble_eq_true rfl, Nat.le_of_ble_eq_true rfl⟩) hS hA hP (fun H locs hP hS => ?_)
  refine lv_icmp_eq (tgt := 37) hx hb dX9_find_32 (by decide) (fun c32 => ?_) (fun c32 => ?_)
  · refine lv_aload_n hx hb dX9_find_37 rfl (lv_at hl 0 rfl) ?_
    refine lv_iload_n hx hb dX9_find_38 rfl (lv_at hl 1 rfl) ?_
    have hPc := hP.sub (ws' := [(o, .inr (9, [.ref a1, .ref a2, .ref a3, .ref a4])), (a1, .inl (cI, 512, .inl b0)), (a2, .inl (cI, 512, .inl ht0)), (a3, .inl (cI, 512, .inl q0))]) [0, 1, 2, 3] rfl
    have hDc := hD.sub (ws' := [(o, .inr (9, [.ref a1, .ref a2, .ref a3, .ref a4])), (a1, .inl (cI, 512, .inl b0)), (a2, .inl (cI, 512, .inl ht0)), (a3, .inl (cI, 512, .inl q0))]) [0, 1, 2, 3] (by decide) rfl
    refine call_g (wr := [(a4, .inl (cI, 512, .inl g0))]) (va_runV (As := [.int (nI a)]) (rest := []) ⟨hx, hb, hml, hown, hts⟩ (c_spread l D cI cR cM _ ha o a1 a2 a3 a4 b0 ht0 q0) (cwV 1 hts gX9_find_X9_spread rfl rfl rfl (by decide +kernel) ⟨Nat.le_of_ble_eq_true rfl, Nat.le_of_ble_eq_true rfl⟩) (pre_V hK hPc hDc 0 9 rfl rfl) rfl rfl hl.1 rfl (lv_room (Nat.le_of_ble_eq_true rfl)) dX9_find_39 ⟨Nat.le_of_ble_eq_true rfl, Nat.le_of_ble_eq_true rfl⟩) hP hD hS hA [0, 1, 2, 3] [4] rfl rfl (by decide) (by decide) (fun u1 H locs hw hP hD hS => ?_)
    obtain ⟨bb, hh, qq⟩ := u1
    obtain ⟨k9, hB⟩ := hw
    have hP : va_P D vwCl [(a4, .inl (cI, 512, .inl g0)), (o, .inr (9, [.ref a1, .ref a2, .ref a3, .ref a4])), (a1, .inl (cI, 512, .inl bb)), (a2, .inl (cI, 512, .inl hh)), (a3, .inl (cI, 512, .inl qq))] H := hP
    have hD : va_D A [(a4, .inl (cI, 512, .inl g0)), (o, .inr (9, [.ref a1, .ref a2, .ref a3, .ref a4])), (a1, .inl (cI, 512, .inl bb)), (a2, .inl (cI, 512, .inl hh)), (a3, .inl (cI, 512, .inl qq))] := hD
    refine lv_aload_n hx hb dX9_find_42 rfl (lv_at hl 0 rfl) ?_
    refine va_get (D := D) (ci := 9) (v := .ref a1) (C := RX9) (T := TX9) (N := 4) hx hb hts (by decide +kernel) hown hK.1 hP 1 rfl rfl 0 (by decide) (hts (.fieldLink RX9 11 "JugglingHall$Ways" "before" "[I") (by decide +kernel)) (fun _ h9 => h9) rfl dX9_find_43 ?_
    refine lv_iload_n hx hb dX9_find_46 rfl (lv_at hl 2 rfl) ?_
    refine ald_n (k := b) hx hb hK.1 hP 2 0 rfl rfl (hb5) (by decide) dX9_find_47 ?_
    refine lv_iconst (v := (-1)) hx hb dX9_find_48 (by decide) ?_
    refine lv_icmp_ne (tgt := 56) hx hb dX9_find_49 (by decide) (fun c49 => ?_) (fun c49 => ?_)
    · obtain ⟨rs, hr1, hr2, hr3⟩ := (hB.done hb5).2 c49
      refine lv_aload_n hx hb dX9_find_56 rfl (lv_at hl 0 rfl) ?_
      refine lv_iload_n hx hb dX9_find_57 rfl (lv_at hl 1 rfl) ?_
      refine lv_iload_n hx hb dX9_find_58 rfl (lv_at hl 2 rfl) ?_
      have hPc := hP.sub (ws' := [(o, .inr (9, [.ref a1, .ref a2, .ref a3, .ref a4])), (a1, .inl (cI, 512, .inl bb)), (a2, .inl (cI, 512, .inl hh)), (a4, .inl (cI, 512, .inl g0))]) [1, 2, 3, 0] rfl
      have hDc := hD.sub (ws' := [(o, .inr (9, [.ref a1, .ref a2, .ref a3, .ref a4])), (a1, .inl (cI, 512, .inl bb)), (a2, .inl (cI, 512, .inl hh)), (a4, .inl (cI, 512, .inl g0))]) [1, 2, 3, 0] (by decide) rfl
      refine call_g (wr := [(a3, .inl (cI, 512, .inl qq))]) (va_runV (As := [.int (nI a), .int (nI b)]) (rest := []) ⟨hx, hb, hml, hown, hts⟩ (c_trace l D cI cR cM _ ha hb5 o a1 a2 a3 a4 bb hh g0 hr2 hr1) (cwV 2 hts gX9_find_X9_trace rfl rfl rfl (by decide +kernel) ⟨Nat.le_of_ble_eq_true rfl, Nat.le_of_ble_eq_true rfl⟩) (pre_V hK hPc hDc 0 9 rfl rfl) rfl rfl hl.1 rfl (lv_room (Nat.le_of_ble_eq_true rfl)) dX9_find_59 ⟨Nat.le_of_ble_eq_true rfl, Nat.le_of_ble_eq_true rfl⟩) hP hD hS hA [1, 2, 3, 0] [4] rfl rfl (by decide) (by decide) (fun gg H locs hw hP hD hS => ?_)
      have hP : va_P D vwCl [(a3, .inl (cI, 512, .inl qq)), (o, .inr (9, [.ref a1, .ref a2, .ref a3, .ref a4])), (a1, .inl (cI, 512, .inl bb)), (a2, .inl (cI, 512, .inl hh)), (a4, .inl (cI, 512, .inl gg))] H := hP
      have hD : va_D A [(a3, .inl (cI, 512, .inl qq)), (o, .inr (9, [.ref a1, .ref a2, .ref a3, .ref a4])), (a1, .inl (cI, 512, .inl bb)), (a2, .inl (cI, 512, .inl hh)), (a4, .inl (cI, 512, .inl gg))] := hD
      exact g_iret ((nI rs.length, bb, hh, qq, gg)) hx hb hr hlocks hS rfl (Or.inr ⟨rs.reverse, hr3, by rw [List.length_reverse]; exact hr2, by rw [List.length_reverse], fun j hj => hw j (by rw [List.length_reverse] at hj; exact hj)⟩) (hP.sub [1, 2, 3, 0, 4] rfl) (hD.sub [1, 2, 3, 0, 4] (by decide) rfl) hQ (Nat.le_of_ble_eq_true rfl) (Nat.le_of_ble_eq_true rfl) dX9_find_62
    · refine lv_iconst (v := (-1)) hx hb dX9_find_52 (by decide) ?_
      refine lv_goto (tgt := 62) hx hb dX9_find_53 (by decide) ?_
      exact g_iret ((-1, bb, hh, qq, g0)) hx hb hr hlocks hS rfl (Or.inl ⟨(hB.done hb5).1 c49, rfl⟩) (hP.sub [1, 2, 3, 4, 0] rfl) (hD.sub [1, 2, 3, 4, 0] (by decide) rfl) hQ (Nat.le_of_ble_eq_true rfl) (Nat.le_of_ble_eq_true rfl) dX9_find_62
  · refine lv_iconst (v := (-1)) hx hb dX9_find_35 (by decide) ?_
    exact g_iret ((-1, b0, ht0, q0, g0)) hx hb hr hlocks hS rfl (Or.inl ⟨fun ⟨hs, e9⟩ => c32 (by rw [jrun_bc hs ha e9]), rfl⟩) (hP.sub [0, 1, 2, 3, 4] rfl) (hD.sub [0, 1, 2, 3, 4] (by decide) rfl) hQ (Nat.le_of_ble_eq_true rfl) (Nat.le_of_ble_eq_true rfl) dX9_find_36
set_option maxRecDepth 100000 in
set_option maxHeartbeats 4000000 in
/-- Ways.find of what is no state -/
theorem c_find_out (l : Launch) (D : va_G) (cI cR cM : ClassId) (sz : Nat) (f t : Int32) (hout : ¬ ∃ a b : Nat, a < 512 ∧ b < 512 ∧ f = nI a ∧ t = nI b) (o a1 a2 a3 a4 : Nat) : Met l yX9_find wsX9_find ({ frames := 2, cells := 0, slots := 0, locals := 56 }) (P0 D cI cR cM [.ref o, .int f, .int t] sz [(o, .inr (9, [.ref a1, .ref a2, .ref a3, .ref a4]))]) (QG (S := Unit) (fun _ => some (.int (-1))) (fun _ => [(o, .inr (9, [.ref a1, .ref a2, .ref a3, .ref a4]))]) (fun _ => True) D (va_A [(o, .inr (9, [.ref a1, .ref a2, .ref a3, .ref a4]))] sz)) 0 0 (va_A [(o, .inr (9, [.ref a1, .ref a2, .ref a3, .ref a4]))] sz) := by
  refine go (cc := cX9_find) (maxL := 3) (ret := (some .int)) (by decide) rfl (Nat.le_of_ble_eq_true rfl) ?_
  intro p e s m below meth c ls args Q hQ hsz hx hb hr hml hts hown hlocks hnm hP hK hD hl
  subst hsz
  have hD := hD.self (sz := s.heap.size)
  generalize hAe : va_A [(o, .inr (9, [.ref a1, .ref a2, .ref a3, .ref a4]))] s.heap.size = A at hD hQ
  have hA : ∀ q, s.heap.size ≤ q → A q := fun q h => by rw [← hAe]; exact Or.inr h
  have hS : va_S A s.heap s.heap [] := va_S.rf
  have hl : lv_has ls 3 [(0, .ref o), (1, .int f), (2, .int t)] := hl
  refine lv_iload_n hx hb dX9_find_0 rfl (lv_at hl 1 rfl) ?_
  refine lv_if_lt (tgt := 22) hx hb dX9_find_1 (by decide) (fun c1 => ?_) (fun c1 => ?_)
  · refine lv_iconst (v := (-1)) hx hb dX9_find_22 (by decide) ?_
    exact g_iret (()) hx hb hr hlocks hS rfl (trivial) (hP.sub [0] rfl) (hD.sub [0] (by decide) rfl) hQ (Nat.le_of_ble_eq_true rfl) (Nat.le_of_ble_eq_true rfl) dX9_find_23
  · refine lv_iload_n hx hb dX9_find_4 rfl (lv_at hl 1 rfl) ?_
    refine lv_sipush (v := 512) hx hb dX9_find_5 (by decide) ?_
    refine lv_icmp_ge (tgt := 22) hx hb dX9_find_8 (by decide) (fun c8 => ?_) (fun c8 => ?_)
    · refine lv_iconst (v := (-1)) hx hb dX9_find_22 (by decide) ?_
      exact g_iret (()) hx hb hr hlocks hS rfl (trivial) (hP.sub [0] rfl) (hD.sub [0] (by decide) rfl) hQ (Nat.le_of_ble_eq_true rfl) (Nat.le_of_ble_eq_true rfl) dX9_find_23
    · refine lv_iload_n hx hb dX9_find_11 rfl (lv_at hl 2 rfl) ?_
      refine lv_if_lt (tgt := 22) hx hb dX9_find_12 (by decide) (fun c12 => ?_) (fun c12 => ?_)
      · refine lv_iconst (v := (-1)) hx hb dX9_find_22 (by decide) ?_
        exact g_iret (()) hx hb hr hlocks hS rfl (trivial) (hP.sub [0] rfl) (hD.sub [0] (by decide) rfl) hQ (Nat.le_of_ble_eq_true rfl) (Nat.le_of_ble_eq_true rfl) dX9_find_23
      · refine lv_iload_n hx hb dX9_find_15 rfl (lv_at hl 2 rfl) ?_
        refine lv_sipush (v := 512) hx hb dX9_find_16 (by decide) ?_
        refine lv_icmp_lt (tgt := 24) hx hb dX9_find_19 (by decide) (fun c19 => ?_) (fun c19 => ?_)
        · exact absurd (by
              obtain ⟨a, ha, ea, -⟩ := pk_mu c1 c8 (by decide)
              obtain ⟨b, hb, eb, -⟩ := pk_mu (L := 512) c12 (fun q => absurd c19 (Int32.not_lt.mpr q)) (by decide)
              exact ⟨a, b, ha, hb, ea, eb⟩) hout
        · refine lv_iconst (v := (-1)) hx hb dX9_find_22 (by decide) ?_
          exact g_iret (()) hx hb hr hlocks hS rfl (trivial) (hP.sub [0] rfl) (hD.sub [0] (by decide) rfl) hQ (Nat.le_of_ble_eq_true rfl) (Nat.le_of_ble_eq_true rfl) dX9_find_23
set_option maxRecDepth 100000 in
set_option maxHeartbeats 4000000 in
/-- JugglingHall.way -/
theorem c_way (l : Launch) (D : va_G) (cI cR cM : ClassId) (sz : Nat) (f t i : Int32) (hh0 : Nat) (x0 x1 x2 x3 x4 x6 x7 : Value) (o a1 a2 a3 a4 : Nat) (b0 ht0 q0 g0 : Nat → Int32) : Met l yX10_way wsX10_way ({ frames := 3, cells := 0, slots := 0, locals := 78 }) (P0 D cI cR cM [.ref hh0, .int f, .int t, .int i] sz [(hh0, .inr (10, [x0, x1, x2, x3, x4, .ref o, x6, x7])), (o, .inr (9, [.ref a1, .ref a2, .ref a3, .ref a4])), (a1, .inl (cI, 512, .inl b0)), (a2, .inl (cI, 512, .inl ht0)), (a3, .inl (cI, 512, .inl q0)), (a4, .inl (cI, 512, .inl g0))]) (QG (S := Int32 × (Nat → Int32) × (Nat → Int32) × (Nat → Int32) × (Nat → Int32)) (fun u => some (.int u.1)) (fun u => [(hh0, .inr (10, [x0, x1, x2, x3, x4, .ref o, x6, x7])), (o, .inr (9, [.ref a1, .ref a2, .ref a3, .ref a4])), (a1, .inl (cI, 512, .inl u.2.1)), (a2, .inl (cI, 512, .inl u.2.2.1)), (a3, .inl (cI, 512, .inl u.2.2.2.1)), (a4, .inl (cI, 512, .inl u.2.2.2.2))]) (fun u => WA f t i u.1) D (va_A [(hh0, .inr (10, [x0, x1, x2, x3, x4, .ref o, x6, x7])), (o, .inr (9, [.ref a1, .ref a2, .ref a3, .ref a4])), (a1, .inl (cI, 512, .inl b0)), (a2, .inl (cI, 512, .inl ht0)), (a3, .inl (cI, 512, .inl q0)), (a4, .inl (cI, 512, .inl g0))] sz)) 0 0 (va_A [(hh0, .inr (10, [x0, x1, x2, x3, x4, .ref o, x6, x7])), (o, .inr (9, [.ref a1, .ref a2, .ref a3, .ref a4])), (a1, .inl (cI, 512, .inl b0)), (a2, .inl (cI, 512, .inl ht0)), (a3, .inl (cI, 512, .inl q0)), (a4, .inl (cI, 512, .inl g0))] sz) := by
  refine go (cc := cX10_way) (maxL := 5) (ret := (some .int)) (by decide) rfl (Nat.le_of_ble_eq_true rfl) ?_
  intro p e s m below meth c ls args Q hQ hsz hx hb hr hml hts hown hlocks hnm hP hK hD hl
  subst hsz
  have hD := hD.self (sz := s.heap.size)
  generalize hAe : va_A [(hh0, .inr (10, [x0, x1, x2, x3, x4, .ref o, x6, x7])), (o, .inr (9, [.ref a1, .ref a2, .ref a3, .ref a4])), (a1, .inl (cI, 512, .inl b0)), (a2, .inl (cI, 512, .inl ht0)), (a3, .inl (cI, 512, .inl q0)), (a4, .inl (cI, 512, .inl g0))] s.heap.size = A at hD hQ
  have hA : ∀ q, s.heap.size ≤ q → A q := fun q h => by rw [← hAe]; exact Or.inr h
  have hS : va_S A s.heap s.heap [] := va_S.rf
  have hl : lv_has ls 5 [(0, .ref hh0), (1, .int f), (2, .int t), (3, .int i)] := hl
  refine lv_aload_n hx hb dX10_way_0 rfl (lv_at hl 0 rfl) ?_
  refine va_get (D := D) (ci := 10) (v := .ref o) (C := RX10) (T := TX10) (N := 8) hx hb hts (by decide +kernel) hown hK.1 hP 0 rfl rfl 5 (by decide) (hts (.fieldLink RX10 60 "JugglingHall" "ways" "LJugglingHall$Ways;") (by decide +kernel)) (fun _ h9 => h9) rfl dX10_way_1 ?_
  refine lv_iload_n hx hb dX10_way_4 rfl (lv_at hl 1 rfl) ?_
  refine lv_iload_n hx hb dX10_way_5 rfl (lv_at hl 2 rfl) ?_
  rcases Classical.em (∃ a b : Nat, a < 512 ∧ b < 512 ∧ f = nI a ∧ t = nI b) with hin9 | hin9
  · obtain ⟨a, b, ha, hb5, rfl, rfl⟩ := hin9
    have hPc := hP.sub (ws' := [(o, .inr (9, [.ref a1, .ref a2, .ref a3, .ref a4])), (a1, .inl (cI, 512, .inl b0)), (a2, .inl (cI, 512, .inl ht0)), (a3, .inl (cI, 512, .inl q0)), (a4, .inl (cI, 512, .inl g0))]) [1, 2, 3, 4, 5] rfl
    have hDc := hD.sub (ws' := [(o, .inr (9, [.ref a1, .ref a2, .ref a3, .ref a4])), (a1, .inl (cI, 512, .inl b0)), (a2, .inl (cI, 512, .inl ht0)), (a3, .inl (cI, 512, .inl q0)), (a4, .inl (cI, 512, .inl g0))]) [1, 2, 3, 4, 5] (by decide) rfl
    refine call_g (wr := [(hh0, .inr (10, [x0, x1, x2, x3, x4, .ref o, x6, x7]))]) (va_runV (As := [.int (nI a), .int (nI b)]) (rest := []) ⟨hx, hb, hml, hown, hts⟩ (c_find_in l D cI cR cM _ ha hb5 o a1 a2 a3 a4 b0 ht0 q0 g0) (cwV 2 hts gX10_way_X9_find rfl rfl rfl (by decide +kernel) ⟨Nat.le_of_ble_eq_true rfl, Nat.le_of_ble_eq_true rfl⟩) (pre_V hK hPc hDc 0 9 rfl rfl) rfl rfl hl.1 rfl (lv_room (Nat.le_of_ble_eq_true rfl)) dX10_way_6 ⟨Nat.le_of_ble_eq_true rfl, Nat.le_of_ble_eq_true rfl⟩) hP hD hS hA [1, 2, 3, 4, 5] [0] rfl rfl (by decide) (by decide) (fun u1 H locs hw hP hD hS => ?_)
    obtain ⟨r9, bb, hh, qq, gg⟩ := u1
    try dsimp only at hw
    have hP : va_P D vwCl [(hh0, .inr (10, [x0, x1, x2, x3, x4, .ref o, x6, x7])), (o, .inr (9, [.ref a1, .ref a2, .ref a3, .ref a4])), (a1, .inl (cI, 512, .inl bb)), (a2, .inl (cI, 512, .inl hh)), (a3, .inl (cI, 512, .inl qq)), (a4, .inl (cI, 512, .inl gg))] H := hP
    have hD : va_D A [(hh0, .inr (10, [x0, x1, x2, x3, x4, .ref o, x6, x7])), (o, .inr (9, [.ref a1, .ref a2, .ref a3, .ref a4])), (a1, .inl (cI, 512, .inl bb)), (a2, .inl (cI, 512, .inl hh)), (a3, .inl (cI, 512, .inl qq)), (a4, .inl (cI, 512, .inl gg))] := hD
    rcases hw with hw | hw
    · obtain ⟨hw, rfl⟩ := hw
      refine lv_istore (lv' := [(4, .int (-1)), (0, .ref hh0), (1, .int (nI a)), (2, .int (nI b)), (3, .int i)]) hx hb dX10_way_9 hl (by decide) rfl (fun ls hl => ?_)
      refine lv_iload_n hx hb dX10_way_11 rfl (lv_at hl 4 rfl) ?_
      refine lv_iconst (v := (-1)) hx hb dX10_way_12 (by decide) ?_
      refine lv_icmp_ne (tgt := 19) hx hb dX10_way_13 (by decide) (fun c13 => ?_) (fun c13 => ?_)
      · refine lv_iload_n hx hb dX10_way_19 rfl (lv_at hl 4 rfl) ?_
        refine lv_if_lt (tgt := 29) hx hb dX10_way_20 (by decide) (fun c20 => ?_) (fun c20 => ?_)
        · refine lv_iconst (v := (-1)) hx hb dX10_way_29 (by decide) ?_
          refine lv_goto (tgt := 42) hx hb dX10_way_30 (by decide) ?_
          exact g_iret (((-1), bb, hh, qq, gg)) hx hb hr hlocks hS rfl (Or.inr ⟨a, b, ha, hb5, rfl, rfl, Or.inl ⟨hw, rfl⟩⟩) (hP.sub [0, 1, 2, 3, 4, 5] rfl) (hD.sub [0, 1, 2, 3, 4, 5] (by decide) rfl) hQ (Nat.le_of_ble_eq_true rfl) (Nat.le_of_ble_eq_true rfl) dX10_way_42
        · refine lv_iload_n hx hb dX10_way_23 rfl (lv_at hl 4 rfl) ?_
          refine lv_iload hx hb dX10_way_24 (lv_at hl 0 rfl) ?_
          refine lv_icmp_lt (tgt := 33) hx hb dX10_way_26 (by decide) (fun c26 => absurd c26 (fun q => c20 (Int32.lt_of_lt_of_le q (by decide)))) (fun c26 => ?_)
          refine lv_iconst (v := (-1)) hx hb dX10_way_29 (by decide) ?_
          refine lv_goto (tgt := 42) hx hb dX10_way_30 (by decide) ?_
          exact g_iret (((-1), bb, hh, qq, gg)) hx hb hr hlocks hS rfl (Or.inr ⟨a, b, ha, hb5, rfl, rfl, Or.inl ⟨hw, rfl⟩⟩) (hP.sub [0, 1, 2, 3, 4, 5] rfl) (hD.sub [0, 1, 2, 3, 4, 5] (by decide) rfl) hQ (Nat.le_of_ble_eq_true rfl) (Nat.le_of_ble_eq_true rfl) dX10_way_42
      · refine lv_iload hx hb dX10_way_16 (lv_at hl 0 rfl) ?_
        exact g_iret (((-1), bb, hh, qq, gg)) hx hb hr hlocks hS rfl (Or.inr ⟨a, b, ha, hb5, rfl, rfl, Or.inl ⟨hw, rfl⟩⟩) (hP.sub [0, 1, 2, 3, 4, 5] rfl) (hD.sub [0, 1, 2, 3, 4, 5] (by decide) rfl) hQ (Nat.le_of_ble_eq_true rfl) (Nat.le_of_ble_eq_true rfl) dX10_way_18
    · obtain ⟨hs, hw1, hw2, rfl, hw4⟩ := hw
      refine lv_istore (lv' := [(4, .int (nI hs.length)), (0, .ref hh0), (1, .int (nI a)), (2, .int (nI b)), (3, .int i)]) hx hb dX10_way_9 hl (by decide) rfl (fun ls hl => ?_)
      refine lv_iload_n hx hb dX10_way_11 rfl (lv_at hl 4 rfl) ?_
      refine lv_iconst (v := (-1)) hx hb dX10_way_12 (by decide) ?_
      refine lv_icmp_ne (tgt := 19) hx hb dX10_way_13 (by decide) (fun c13 => ?_) (fun c13 => ?_)
      · refine lv_iload_n hx hb dX10_way_19 rfl (lv_at hl 4 rfl) ?_
        refine lv_if_lt (tgt := 29) hx hb dX10_way_20 (by decide) (fun c20 => ?_) (fun c20 => ?_)
        · refine lv_iconst (v := (-1)) hx hb dX10_way_29 (by decide) ?_
          refine lv_goto (tgt := 42) hx hb dX10_way_30 (by decide) ?_
          exact g_iret (((-1), bb, hh, qq, gg)) hx hb hr hlocks hS rfl (Or.inr ⟨a, b, ha, hb5, rfl, rfl, Or.inr ⟨hs, hw1, by
              show (-1 : Int32) = wayOf hs i
              unfold wayOf
              rw [if_neg c13, if_pos c20]⟩⟩) (hP.sub [0, 1, 2, 3, 4, 5] rfl) (hD.sub [0, 1, 2, 3, 4, 5] (by decide) rfl) hQ (Nat.le_of_ble_eq_true rfl) (Nat.le_of_ble_eq_true rfl) dX10_way_42
        · refine lv_iload_n hx hb dX10_way_23 rfl (lv_at hl 4 rfl) ?_
          refine lv_iload hx hb dX10_way_24 (lv_at hl 0 rfl) ?_
          refine lv_icmp_lt (tgt := 33) hx hb dX10_way_26 (by decide) (fun c26 => ?_) (fun c26 => ?_)
          · obtain ⟨j9, hj8, rfl, -⟩ := pk_mu (L := hs.length) c20 (fun q => absurd c26 (Int32.not_lt.mpr q)) (by omega)
            refine lv_aload_n hx hb dX10_way_33 rfl (lv_at hl 1 rfl) ?_
            refine va_get (D := D) (ci := 10) (v := .ref o) (C := RX10) (T := TX10) (N := 8) hx hb hts (by decide +kernel) hown hK.1 hP 0 rfl rfl 5 (by decide) (hts (.fieldLink RX10 60 "JugglingHall" "ways" "LJugglingHall$Ways;") (by decide +kernel)) (fun _ h9 => h9) rfl dX10_way_34 ?_
            refine va_getN (D := D) (ci := 9) (v := .ref a4) (C := RX9) (T := TX9) (N := 4) (host := "JugglingHall") hx hb hts (by decide +kernel) hown hK.1 hP 1 rfl rfl 3 (by decide) (hK.nw (.fieldLinkNest RX10 194 "JugglingHall$Ways" "heights" "[I" "JugglingHall") (by decide +kernel) rfl) (fun _ h9 => h9) rfl dX10_way_37 ?_
            refine lv_iload_n hx hb dX10_way_40 rfl (lv_at hl 4 rfl) ?_
            refine ald_n (k := j9) hx hb hK.1 hP 5 0 rfl rfl (by omega) (by decide) dX10_way_41 ?_
            exact g_iret ((gg j9, bb, hh, qq, gg)) hx hb hr hlocks hS rfl (Or.inr ⟨a, b, ha, hb5, rfl, rfl, Or.inr ⟨hs, hw1, by
                show gg j9 = wayOf hs (nI j9)
                unfold wayOf
                rw [if_neg (nI_m1 (by omega)), if_neg (nI_pos (by omega)), if_neg (nI_ge hj8 (by omega)), nI_clamp (by omega)]
                exact hw4 j9 hj8⟩⟩) (hP.sub [0, 1, 2, 3, 4, 5] rfl) (hD.sub [0, 1, 2, 3, 4, 5] (by decide) rfl) hQ (Nat.le_of_ble_eq_true rfl) (Nat.le_of_ble_eq_true rfl) dX10_way_42
          · refine lv_iconst (v := (-1)) hx hb dX10_way_29 (by decide) ?_
            refine lv_goto (tgt := 42) hx hb dX10_way_30 (by decide) ?_
            exact g_iret (((-1), bb, hh, qq, gg)) hx hb hr hlocks hS rfl (Or.inr ⟨a, b, ha, hb5, rfl, rfl, Or.inr ⟨hs, hw1, by
                show (-1 : Int32) = wayOf hs i
                unfold wayOf
                rw [if_neg c13, if_neg c20, if_pos (Int32.not_lt.mp c26)]⟩⟩) (hP.sub [0, 1, 2, 3, 4, 5] rfl) (hD.sub [0, 1, 2, 3, 4, 5] (by decide) rfl) hQ (Nat.le_of_ble_eq_true rfl) (Nat.le_of_ble_eq_true rfl) dX10_way_42
      · refine lv_iload hx hb dX10_way_16 (lv_at hl 0 rfl) ?_
        exact g_iret ((nI hs.length, bb, hh, qq, gg)) hx hb hr hlocks hS rfl (Or.inr ⟨a, b, ha, hb5, rfl, rfl, Or.inr ⟨hs, hw1, by simp [wayOf, c13]⟩⟩) (hP.sub [0, 1, 2, 3, 4, 5] rfl) (hD.sub [0, 1, 2, 3, 4, 5] (by decide) rfl) hQ (Nat.le_of_ble_eq_true rfl) (Nat.le_of_ble_eq_true rfl) dX10_way_18
  · have hPc := hP.sub (ws' := [(o, .inr (9, [.ref a1, .ref a2, .ref a3, .ref a4]))]) [1] rfl
    have hDc := hD.sub (ws' := [(o, .inr (9, [.ref a1, .ref a2, .ref a3, .ref a4]))]) [1] (by decide) rfl
    refine call_g (wr := [(hh0, .inr (10, [x0, x1, x2, x3, x4, .ref o, x6, x7])), (a1, .inl (cI, 512, .inl b0)), (a2, .inl (cI, 512, .inl ht0)), (a3, .inl (cI, 512, .inl q0)), (a4, .inl (cI, 512, .inl g0))]) (va_runV (As := [.int f, .int t]) (rest := []) ⟨hx, hb, hml, hown, hts⟩ (c_find_out l D cI cR cM _ f t hin9 o a1 a2 a3 a4) (cwV 2 hts gX10_way_X9_find rfl rfl rfl (by decide +kernel) ⟨Nat.le_of_ble_eq_true rfl, Nat.le_of_ble_eq_true rfl⟩) (pre_V hK hPc hDc 0 9 rfl rfl) rfl rfl hl.1 rfl (lv_room (Nat.le_of_ble_eq_true rfl)) dX10_way_6 ⟨Nat.le_of_ble_eq_true rfl, Nat.le_of_ble_eq_true rfl⟩) hP hD hS hA [1] [0, 2, 3, 4, 5] rfl rfl (by decide) (by decide) (fun u1 H locs hw hP hD hS => ?_)
    have hP : va_P D vwCl [(hh0, .inr (10, [x0, x1, x2, x3, x4, .ref o, x6, x7])), (a1, .inl (cI, 512, .inl b0)), (a2, .inl (cI, 512, .inl ht0)), (a3, .inl (cI, 512, .inl q0)), (a4, .inl (cI, 512, .inl g0)), (o, .inr (9, [.ref a1, .ref a2, .ref a3, .ref a4]))] H := hP
    have hD : va_D A [(hh0, .inr (10, [x0, x1, x2, x3, x4, .ref o, x6, x7])), (a1, .inl (cI, 512, .inl b0)), (a2, .inl (cI, 512, .inl ht0)), (a3, .inl (cI, 512, .inl q0)), (a4, .inl (cI, 512, .inl g0)), (o, .inr (9, [.ref a1, .ref a2, .ref a3, .ref a4]))] := hD
    refine lv_istore (lv' := [(4, .int (-1)), (0, .ref hh0), (1, .int f), (2, .int t), (3, .int i)]) hx hb dX10_way_9 hl (by decide) rfl (fun ls hl => ?_)
    refine lv_iload_n hx hb dX10_way_11 rfl (lv_at hl 4 rfl) ?_
    refine lv_iconst (v := (-1)) hx hb dX10_way_12 (by decide) ?_
    refine lv_icmp_ne (tgt := 19) hx hb dX10_way_13 (by decide) (fun c13 => ?_) (fun c13 => ?_)
    · refine lv_iload_n hx hb dX10_way_19 rfl (lv_at hl 4 rfl) ?_
      refine lv_if_lt (tgt := 29) hx hb dX10_way_20 (by decide) (fun c20 => ?_) (fun c20 => ?_)
      · refine lv_iconst (v := (-1)) hx hb dX10_way_29 (by decide) ?_
        refine lv_goto (tgt := 42) hx hb dX10_way_30 (by decide) ?_
        exact g_iret (((-1), b0, ht0, q0, g0)) hx hb hr hlocks hS rfl (Or.inl ⟨hin9, rfl⟩) (hP.sub [0, 5, 1, 2, 3, 4] rfl) (hD.sub [0, 5, 1, 2, 3, 4] (by decide) rfl) hQ (Nat.le_of_ble_eq_true rfl) (Nat.le_of_ble_eq_true rfl) dX10_way_42
      · refine lv_iload_n hx hb dX10_way_23 rfl (lv_at hl 4 rfl) ?_
        refine lv_iload hx hb dX10_way_24 (lv_at hl 0 rfl) ?_
        refine lv_icmp_lt (tgt := 33) hx hb dX10_way_26 (by decide) (fun c26 => absurd c26 (fun q => c20 (Int32.lt_of_lt_of_le q (by decide)))) (fun c26 => ?_)
        refine lv_iconst (v := (-1)) hx hb dX10_way_29 (by decide) ?_
        refine lv_goto (tgt := 42) hx hb dX10_way_30 (by decide) ?_
        exact g_iret (((-1), b0, ht0, q0, g0)) hx hb hr hlocks hS rfl (Or.inl ⟨hin9, rfl⟩) (hP.sub [0, 5, 1, 2, 3, 4] rfl) (hD.sub [0, 5, 1, 2, 3, 4] (by decide) rfl) hQ (Nat.le_of_ble_eq_true rfl) (Nat.le_of_ble_eq_true rfl) dX10_way_42
    · refine lv_iload hx hb dX10_way_16 (lv_at hl 0 rfl) ?_
      exact g_iret (((-1), b0, ht0, q0, g0)) hx hb hr hlocks hS rfl (Or.inl ⟨hin9, rfl⟩) (hP.sub [0, 5, 1, 2, 3, 4] rfl) (hD.sub [0, 5, 1, 2, 3, 4] (by decide) rfl) hQ (Nat.le_of_ble_eq_true rfl) (Nat.le_of_ble_eq_true rfl) dX10_way_18
