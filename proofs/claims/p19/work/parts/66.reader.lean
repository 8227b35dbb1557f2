theorem dX4_readRow_0 : decode cX4_readRow 0 = .ok (.aload_n 0, 1) := by decide +kernel
theorem dX4_readRow_1 : decode cX4_readRow 1 = .ok (.getfield 41, 3) := by decide +kernel
theorem dX4_readRow_4 : decode cX4_readRow 4 = .ok (.invokevirtual 110, 3) := by decide +kernel
theorem dX4_readRow_7 : decode cX4_readRow 7 = .ok (.aload_n 0, 1) := by decide +kernel
theorem dX4_readRow_8 : decode cX4_readRow 8 = .ok (.getfield 41, 3) := by decide +kernel
theorem dX4_readRow_11 : decode cX4_readRow 11 = .ok (.getfield 113, 3) := by decide +kernel
theorem dX4_readRow_14 : decode cX4_readRow 14 = .ok (.istore_n 1, 1) := by decide +kernel
theorem dX4_readRow_15 : decode cX4_readRow 15 = .ok (.aload_n 0, 1) := by decide +kernel
theorem dX4_readRow_16 : decode cX4_readRow 16 = .ok (.iconst 3, 1) := by decide +kernel
theorem dX4_readRow_17 : decode cX4_readRow 17 = .ok (.invokevirtual 116, 3) := by decide +kernel
theorem dX4_readRow_20 : decode cX4_readRow 20 = .ok (.ifCond .eq 29, 3) := by decide +kernel
theorem dX4_readRow_23 : decode cX4_readRow 23 = .ok (.aload_n 0, 1) := by decide +kernel
theorem dX4_readRow_24 : decode cX4_readRow 24 = .ok (.bipush 61, 2) := by decide +kernel
theorem dX4_readRow_26 : decode cX4_readRow 26 = .ok (.invokevirtual 116, 3) := by decide +kernel
theorem dX4_readRow_29 : decode cX4_readRow 29 = .ok (.ifCond .eq 20, 3) := by decide +kernel
theorem dX4_readRow_32 : decode cX4_readRow 32 = .ok (.aload_n 0, 1) := by decide +kernel
theorem dX4_readRow_33 : decode cX4_readRow 33 = .ok (.iconst 0, 1) := by decide +kernel
theorem dX4_readRow_34 : decode cX4_readRow 34 = .ok (.invokevirtual 119, 3) := by decide +kernel
theorem dX4_readRow_37 : decode cX4_readRow 37 = .ok (.ifCond .eq 12, 3) := by decide +kernel
theorem dX4_readRow_40 : decode cX4_readRow 40 = .ok (.aload_n 0, 1) := by decide +kernel
theorem dX4_readRow_41 : decode cX4_readRow 41 = .ok (.bipush 59, 2) := by decide +kernel
theorem dX4_readRow_43 : decode cX4_readRow 43 = .ok (.invokevirtual 116, 3) := by decide +kernel
theorem dX4_readRow_46 : decode cX4_readRow 46 = .ok (.ifCond .ne 5, 3) := by decide +kernel
theorem dX4_readRow_49 : decode cX4_readRow 49 = .ok (.iconst 0, 1) := by decide +kernel
theorem dX4_readRow_50 : decode cX4_readRow 50 = .ok (.ireturn, 1) := by decide +kernel
theorem dX4_readRow_51 : decode cX4_readRow 51 = .ok (.iload_n 1, 1) := by decide +kernel
theorem dX4_readRow_52 : decode cX4_readRow 52 = .ok (.ifCond .lt 31, 3) := by decide +kernel
theorem dX4_readRow_55 : decode cX4_readRow 55 = .ok (.iload_n 1, 1) := by decide +kernel
theorem dX4_readRow_56 : decode cX4_readRow 56 = .ok (.bipush 8, 2) := by decide +kernel
theorem dX4_readRow_58 : decode cX4_readRow 58 = .ok (.if_icmp .ge 25, 3) := by decide +kernel
theorem dX4_readRow_61 : decode cX4_readRow 61 = .ok (.aload_n 0, 1) := by decide +kernel
theorem dX4_readRow_62 : decode cX4_readRow 62 = .ok (.getfield 21, 3) := by decide +kernel
theorem dX4_readRow_65 : decode cX4_readRow 65 = .ok (.iload_n 1, 1) := by decide +kernel
theorem dX4_readRow_66 : decode cX4_readRow 66 = .ok (.aaload, 1) := by decide +kernel
theorem dX4_readRow_67 : decode cX4_readRow 67 = .ok (.aload_n 0, 1) := by decide +kernel
theorem dX4_readRow_68 : decode cX4_readRow 68 = .ok (.getfield 13, 3) := by decide +kernel
theorem dX4_readRow_71 : decode cX4_readRow 71 = .ok (.iconst 0, 1) := by decide +kernel
theorem dX4_readRow_72 : decode cX4_readRow 72 = .ok (.aaload, 1) := by decide +kernel
theorem dX4_readRow_73 : decode cX4_readRow 73 = .ok (.invokevirtual 122, 3) := by decide +kernel
theorem dX4_readRow_76 : decode cX4_readRow 76 = .ok (.ifCond .eq 7, 3) := by decide +kernel
theorem dX4_readRow_79 : decode cX4_readRow 79 = .ok (.iconst 1, 1) := by decide +kernel
theorem dX4_readRow_80 : decode cX4_readRow 80 = .ok (.goto 4, 3) := by decide +kernel
theorem dX4_readRow_83 : decode cX4_readRow 83 = .ok (.iconst 0, 1) := by decide +kernel
theorem dX4_readRow_84 : decode cX4_readRow 84 = .ok (.ireturn, 1) := by decide +kernel
theorem dX4_readSequence_0 : decode cX4_readSequence 0 = .ok (.iload_n 1, 1) := by decide +kernel
theorem dX4_readSequence_1 : decode cX4_readSequence 1 = .ok (.ifCond .lt 8, 3) := by decide +kernel
theorem dX4_readSequence_4 : decode cX4_readSequence 4 = .ok (.iload_n 1, 1) := by decide +kernel
theorem dX4_readSequence_5 : decode cX4_readSequence 5 = .ok (.iconst 5, 1) := by decide +kernel
theorem dX4_readSequence_6 : decode cX4_readSequence 6 = .ok (.if_icmp .le 9, 3) := by decide +kernel
theorem dX4_readSequence_9 : decode cX4_readSequence 9 = .ok (.aload_n 0, 1) := by decide +kernel
theorem dX4_readSequence_10 : decode cX4_readSequence 10 = .ok (.iconst 3, 1) := by decide +kernel
theorem dX4_readSequence_11 : decode cX4_readSequence 11 = .ok (.invokevirtual 80, 3) := by decide +kernel
theorem dX4_readSequence_14 : decode cX4_readSequence 14 = .ok (.ireturn, 1) := by decide +kernel
theorem dX4_readSequence_15 : decode cX4_readSequence 15 = .ok (.aload_n 0, 1) := by decide +kernel
theorem dX4_readSequence_16 : decode cX4_readSequence 16 = .ok (.getfield 13, 3) := by decide +kernel
theorem dX4_readSequence_19 : decode cX4_readSequence 19 = .ok (.iload_n 1, 1) := by decide +kernel
theorem dX4_readSequence_20 : decode cX4_readSequence 20 = .ok (.aaload, 1) := by decide +kernel
theorem dX4_readSequence_21 : decode cX4_readSequence 21 = .ok (.astore_n 2, 1) := by decide +kernel
theorem dX4_readSequence_22 : decode cX4_readSequence 22 = .ok (.aload_n 2, 1) := by decide +kernel
theorem dX4_readSequence_23 : decode cX4_readSequence 23 = .ok (.iconst 0, 1) := by decide +kernel
theorem dX4_readSequence_24 : decode cX4_readSequence 24 = .ok (.putfield 62, 3) := by decide +kernel
theorem dX4_readSequence_27 : decode cX4_readSequence 27 = .ok (.iconst 0, 1) := by decide +kernel
theorem dX4_readSequence_28 : decode cX4_readSequence 28 = .ok (.istore_n 3, 1) := by decide +kernel
theorem dX4_readSequence_29 : decode cX4_readSequence 29 = .ok (.iload_n 3, 1) := by decide +kernel
theorem dX4_readSequence_30 : decode cX4_readSequence 30 = .ok (.sipush 300, 3) := by decide +kernel
theorem dX4_readSequence_33 : decode cX4_readSequence 33 = .ok (.if_icmp .gt 46, 3) := by decide +kernel
theorem dX4_readSequence_36 : decode cX4_readSequence 36 = .ok (.iload_n 3, 1) := by decide +kernel
theorem dX4_readSequence_37 : decode cX4_readSequence 37 = .ok (.ifCond .eq 10, 3) := by decide +kernel
theorem dX4_readSequence_40 : decode cX4_readSequence 40 = .ok (.aload_n 0, 1) := by decide +kernel
theorem dX4_readSequence_41 : decode cX4_readSequence 41 = .ok (.invokevirtual 129, 3) := by decide +kernel
theorem dX4_readSequence_44 : decode cX4_readSequence 44 = .ok (.ifCond .eq 35, 3) := by decide +kernel
theorem dX4_readSequence_47 : decode cX4_readSequence 47 = .ok (.aload_n 2, 1) := by decide +kernel
theorem dX4_readSequence_48 : decode cX4_readSequence 48 = .ok (.getfield 62, 3) := by decide +kernel
theorem dX4_readSequence_51 : decode cX4_readSequence 51 = .ok (.istore 4, 2) := by decide +kernel
theorem dX4_readSequence_53 : decode cX4_readSequence 53 = .ok (.aload_n 0, 1) := by decide +kernel
theorem dX4_readSequence_54 : decode cX4_readSequence 54 = .ok (.iload_n 1, 1) := by decide +kernel
theorem dX4_readSequence_55 : decode cX4_readSequence 55 = .ok (.invokevirtual 132, 3) := by decide +kernel
theorem dX4_readSequence_58 : decode cX4_readSequence 58 = .ok (.ifCond .eq 13, 3) := by decide +kernel
theorem dX4_readSequence_61 : decode cX4_readSequence 61 = .ok (.aload_n 0, 1) := by decide +kernel
theorem dX4_readSequence_62 : decode cX4_readSequence 62 = .ok (.aload_n 2, 1) := by decide +kernel
theorem dX4_readSequence_63 : decode cX4_readSequence 63 = .ok (.iload 4, 2) := by decide +kernel
theorem dX4_readSequence_65 : decode cX4_readSequence 65 = .ok (.invokevirtual 135, 3) := by decide +kernel
theorem dX4_readSequence_68 : decode cX4_readSequence 68 = .ok (.ifCond .ne 5, 3) := by decide +kernel
theorem dX4_readSequence_71 : decode cX4_readSequence 71 = .ok (.iconst 0, 1) := by decide +kernel
theorem dX4_readSequence_72 : decode cX4_readSequence 72 = .ok (.ireturn, 1) := by decide +kernel
theorem dX4_readSequence_73 : decode cX4_readSequence 73 = .ok (.iinc 3 1, 3) := by decide +kernel
theorem dX4_readSequence_76 : decode cX4_readSequence 76 = .ok (.goto (-47), 3) := by decide +kernel
theorem dX4_readSequence_79 : decode cX4_readSequence 79 = .ok (.iconst 1, 1) := by decide +kernel
theorem dX4_readSequence_80 : decode cX4_readSequence 80 = .ok (.ireturn, 1) := by decide +kernel
theorem dX4_readOne_0 : decode cX4_readOne 0 = .ok (.aload_n 0, 1) := by decide +kernel
theorem dX4_readOne_1 : decode cX4_readOne 1 = .ok (.invokevirtual 129, 3) := by decide +kernel
theorem dX4_readOne_4 : decode cX4_readOne 4 = .ok (.ifCond .ne 9, 3) := by decide +kernel
theorem dX4_readOne_7 : decode cX4_readOne 7 = .ok (.aload_n 0, 1) := by decide +kernel
theorem dX4_readOne_8 : decode cX4_readOne 8 = .ok (.iconst 1, 1) := by decide +kernel
theorem dX4_readOne_9 : decode cX4_readOne 9 = .ok (.invokevirtual 80, 3) := by decide +kernel
theorem dX4_readOne_12 : decode cX4_readOne 12 = .ok (.ireturn, 1) := by decide +kernel
theorem dX4_readOne_13 : decode cX4_readOne 13 = .ok (.aload_n 0, 1) := by decide +kernel
theorem dX4_readOne_14 : decode cX4_readOne 14 = .ok (.getfield 41, 3) := by decide +kernel
theorem dX4_readOne_17 : decode cX4_readOne 17 = .ok (.getfield 70, 3) := by decide +kernel
theorem dX4_readOne_20 : decode cX4_readOne 20 = .ok (.istore_n 2, 1) := by decide +kernel
theorem dX4_readOne_21 : decode cX4_readOne 21 = .ok (.iload_n 2, 1) := by decide +kernel
theorem dX4_readOne_22 : decode cX4_readOne 22 = .ok (.lookupswitch 64 #[(2, 53), (3, 42), (60, 53), (91, 53)], 42) := by decide +kernel
theorem dX4_readOne_64 : decode cX4_readOne 64 = .ok (.aload_n 0, 1) := by decide +kernel
theorem dX4_readOne_65 : decode cX4_readOne 65 = .ok (.aload_n 0, 1) := by decide +kernel
theorem dX4_readOne_66 : decode cX4_readOne 66 = .ok (.getfield 13, 3) := by decide +kernel
theorem dX4_readOne_69 : decode cX4_readOne 69 = .ok (.iload_n 1, 1) := by decide +kernel
theorem dX4_readOne_70 : decode cX4_readOne 70 = .ok (.aaload, 1) := by decide +kernel
theorem dX4_readOne_71 : decode cX4_readOne 71 = .ok (.invokevirtual 139, 3) := by decide +kernel
theorem dX4_readOne_74 : decode cX4_readOne 74 = .ok (.ireturn, 1) := by decide +kernel
theorem dX4_readOne_75 : decode cX4_readOne 75 = .ok (.aload_n 0, 1) := by decide +kernel
theorem dX4_readOne_76 : decode cX4_readOne 76 = .ok (.aload_n 0, 1) := by decide +kernel
theorem dX4_readOne_77 : decode cX4_readOne 77 = .ok (.getfield 13, 3) := by decide +kernel
theorem dX4_readOne_80 : decode cX4_readOne 80 = .ok (.iload_n 1, 1) := by decide +kernel
theorem dX4_readOne_81 : decode cX4_readOne 81 = .ok (.aaload, 1) := by decide +kernel
theorem dX4_readOne_82 : decode cX4_readOne 82 = .ok (.invokevirtual 142, 3) := by decide +kernel
theorem dX4_readOne_85 : decode cX4_readOne 85 = .ok (.ireturn, 1) := by decide +kernel
theorem dX4_readOne_86 : decode cX4_readOne 86 = .ok (.aload_n 0, 1) := by decide +kernel
theorem dX4_readOne_87 : decode cX4_readOne 87 = .ok (.iload_n 2, 1) := by decide +kernel
theorem dX4_readOne_88 : decode cX4_readOne 88 = .ok (.iload_n 1, 1) := by decide +kernel
theorem dX4_readOne_89 : decode cX4_readOne 89 = .ok (.invokevirtual 145, 3) := by decide +kernel
theorem dX4_readOne_92 : decode cX4_readOne 92 = .ok (.ifCond .eq 35, 3) := by decide +kernel
theorem dX4_readOne_95 : decode cX4_readOne 95 = .ok (.aload_n 0, 1) := by decide +kernel
theorem dX4_readOne_96 : decode cX4_readOne 96 = .ok (.iload_n 1, 1) := by decide +kernel
theorem dX4_readOne_97 : decode cX4_readOne 97 = .ok (.iconst 1, 1) := by decide +kernel
theorem dX4_readOne_98 : decode cX4_readOne 98 = .ok (.iadd, 1) := by decide +kernel
theorem dX4_readOne_99 : decode cX4_readOne 99 = .ok (.invokevirtual 119, 3) := by decide +kernel
theorem dX4_readOne_102 : decode cX4_readOne 102 = .ok (.ifCond .eq 25, 3) := by decide +kernel
theorem dX4_readOne_105 : decode cX4_readOne 105 = .ok (.aload_n 0, 1) := by decide +kernel
theorem dX4_readOne_106 : decode cX4_readOne 106 = .ok (.bipush 41, 2) := by decide +kernel
theorem dX4_readOne_108 : decode cX4_readOne 108 = .ok (.invokevirtual 116, 3) := by decide +kernel
theorem dX4_readOne_111 : decode cX4_readOne 111 = .ok (.ifCond .eq 16, 3) := by decide +kernel
theorem dX4_readOne_114 : decode cX4_readOne 114 = .ok (.aload_n 0, 1) := by decide +kernel
theorem dX4_readOne_115 : decode cX4_readOne 115 = .ok (.iload_n 2, 1) := by decide +kernel
theorem dX4_readOne_116 : decode cX4_readOne 116 = .ok (.iload_n 1, 1) := by decide +kernel
theorem dX4_readOne_117 : decode cX4_readOne 117 = .ok (.invokevirtual 149, 3) := by decide +kernel
theorem dX4_readOne_120 : decode cX4_readOne 120 = .ok (.ifCond .eq 7, 3) := by decide +kernel
theorem dX4_readOne_123 : decode cX4_readOne 123 = .ok (.iconst 1, 1) := by decide +kernel
theorem dX4_readOne_124 : decode cX4_readOne 124 = .ok (.goto 4, 3) := by decide +kernel
theorem dX4_readOne_127 : decode cX4_readOne 127 = .ok (.iconst 0, 1) := by decide +kernel
theorem dX4_readOne_128 : decode cX4_readOne 128 = .ok (.ireturn, 1) := by decide +kernel
set_option maxRecDepth 20000 in
theorem ggX4_readRow_X8_advance : GoodIn wsX4_readRow wsX8_advance := goodIn_r _ [8, 9, 10, 11, 12, 13, 14, 15, 16, 17, 183, 184, 185, 186, 187, 188, 189, 190, 191, 192] (by decide +kernel) (by decide +kernel)
set_option maxRecDepth 20000 in
theorem gX4_readRow_X8_advance : GoodIn wsX4_readRow (wsV RX4 110 RX8 yX8_advance wsX8_advance) := goodIn_app (goodIn_of _ (by decide +kernel)) ggX4_readRow_X8_advance
set_option maxRecDepth 20000 in
theorem ggX4_readRow_X4_expect : GoodIn wsX4_readRow wsX4_expect := goodIn_r _ [22, 1, 23, 24, 25, 21, 26, 27, 28, 4, 5, 6, 7, 8, 9, 10, 11, 12, 13, 14, 15, 16, 17, 172, 173, 174, 175, 176, 177, 178, 179, 180, 181, 182, 183, 184, 185, 186, 187, 188, 189, 190, 191, 192] (by decide +kernel) (by decide +kernel)
set_option maxRecDepth 20000 in
theorem gX4_readRow_X4_expect : GoodIn wsX4_readRow (wsV RX4 116 RX4 yX4_expect wsX4_expect) := goodIn_app (goodIn_of _ (by decide +kernel)) ggX4_readRow_X4_expect
set_option maxRecDepth 100000 in
set_option maxHeartbeats 4000000 in
theorem ggX4_readRow_X4_readSequence : GoodIn wsX4_readRow wsX4_readSequence := goodIn_r _ [32, 3, 23, 24, 25, 21, 26, 27, 1, 28, 33, 34, 35, 36, 37, 38, 39, 40, 41, 42, 43, 44, 4, 5, 6, 7, 8, 9, 10, 11, 12, 13, 14, 15, 16, 17, 45, 46, 47, 48, 49, 50, 51, 52, 53, 54, 55, 56, 57, 58, 59, 60, 61, 2, 62, 63, 64, 65, 66, 67, 68, 69, 70, 71, 72, 73, 74, 75, 76, 77, 78, 79, 80, 81, 82, 83, 84, 85, 86, 87, 88, 89, 90, 91, 92, 93, 94, 95, 96, 97, 18, 19, 20, 22, 98, 99, 100, 101, 102, 103, 104, 105, 106, 107, 108, 109, 110, 29, 30, 31, 111, 112, 113, 114, 115, 116, 117, 118, 119, 120, 121, 122, 123, 124, 125, 126, 127, 128, 129, 130, 131, 132, 133, 134, 135, 136, 137, 138, 139, 140, 141, 142, 143, 144, 145, 146, 147, 148, 149, 150, 151, 152, 153, 154, 155, 156, 157, 158, 159, 160, 161, 162, 163, 164, 165, 166, 167, 168, 169, 170, 171, 172, 173, 174, 175, 176, 177, 178, 179, 180, 181, 182, 183, 184, 185, 186, 187, 188, 189, 190, 191, 192, 193, 194, 195, 196, 197, 198, 199, 200] (by with_unfolding_all rfl) (by decide +kernel)
set_option maxRecDepth 20000 in
theorem gX4_readRow_X4_readSequence : GoodIn wsX4_readRow (wsV RX4 119 RX4 yX4_readSequence wsX4_readSequence) := goodIn_app (goodIn_of _ (by decide +kernel)) ggX4_readRow_X4_readSequence
set_option maxRecDepth 20000 in
theorem ggX4_readRow_X5_takeFrom : GoodIn wsX4_readRow wsX5_takeFrom := goodIn_r _ [171, 50, 167, 46, 47, 48, 49, 51, 52, 53, 54, 55, 56, 193, 194, 195, 196] (by decide +kernel) (by decide +kernel)
set_option maxRecDepth 20000 in
theorem gX4_readRow_X5_takeFrom : GoodIn wsX4_readRow (wsV RX4 122 RX5 yX5_takeFrom wsX5_takeFrom) := goodIn_app (goodIn_of _ (by decide +kernel)) ggX4_readRow_X5_takeFrom
set_option maxRecDepth 20000 in
theorem ggX4_readSequence_X4_fail : GoodIn wsX4_readSequence wsX4_fail := goodIn_r _ [6, 7, 8, 9, 171, 172, 173, 174, 175, 176, 177, 178, 179, 180, 181, 182, 183, 184, 185, 186, 187, 188, 189, 190, 191] (by decide +kernel) (by decide +kernel)
set_option maxRecDepth 20000 in
theorem gX4_readSequence_X4_fail : GoodIn wsX4_readSequence (wsV RX4 80 RX4 yX4_fail wsX4_fail) := goodIn_app (goodIn_of _ (by decide +kernel)) ggX4_readSequence_X4_fail
set_option maxRecDepth 20000 in
theorem ggX4_readSequence_X4_beginsOne : GoodIn wsX4_readSequence wsX4_beginsOne := goodIn_r _ [13, 8, 14, 171, 172, 173, 174, 175, 176, 177, 178, 179, 180, 181, 182, 183, 184, 185, 186, 187, 188, 189, 190, 191] (by decide +kernel) (by decide +kernel)
set_option maxRecDepth 20000 in
theorem gX4_readSequence_X4_beginsOne : GoodIn wsX4_readSequence (wsV RX4 129 RX4 yX4_beginsOne wsX4_beginsOne) := goodIn_app (goodIn_of _ (by decide +kernel)) ggX4_readSequence_X4_beginsOne
set_option maxRecDepth 100000 in
set_option maxHeartbeats 4000000 in
theorem ggX4_readSequence_X4_readOne : GoodIn wsX4_readSequence wsX4_readOne := goodIn_r _ [48, 8, 1, 10, 11, 12, 5, 13, 14, 2, 3, 4, 6, 7, 9, 49, 50, 51, 52, 53, 54, 55, 56, 57, 58, 59, 60, 61, 62, 63, 64, 65, 22, 23, 24, 25, 26, 27, 28, 29, 30, 31, 32, 33, 34, 35, 36, 37, 38, 39, 40, 41, 42, 43, 44, 45, 46, 47, 66, 67, 68, 69, 70, 71, 72, 73, 74, 75, 76, 77, 78, 79, 80, 81, 82, 83, 84, 85, 86, 87, 88, 89, 90, 91, 92, 93, 94, 95, 96, 97, 98, 99, 100, 101, 102, 103, 104, 105, 106, 107, 108, 109, 110, 111, 112, 113, 114, 115, 116, 117, 118, 119, 120, 121, 122, 123, 124, 125, 126, 127, 128, 129, 130, 131, 132, 133, 134, 135, 136, 137, 138, 139, 140, 141, 142, 143, 144, 145, 146, 147, 148, 149, 150, 151, 152, 153, 154, 155, 156, 157, 158, 159, 160, 161, 162, 163, 164, 165, 166, 167, 168, 169, 170, 0, 15, 16, 17, 18, 19, 20, 21, 171, 172, 173, 174, 175, 176, 177, 178, 179, 180, 181, 182, 183, 184, 185, 186, 187, 188, 189, 190, 191, 192, 193, 194, 195, 196, 197, 198, 199] (by with_unfolding_all rfl) (by decide +kernel)
set_option maxRecDepth 20000 in
theorem gX4_readSequence_X4_readOne : GoodIn wsX4_readSequence (wsV RX4 132 RX4 yX4_readOne wsX4_readOne) := goodIn_app (goodIn_of _ (by decide +kernel)) ggX4_readSequence_X4_readOne
set_option maxRecDepth 20000 in
theorem ggX4_readSequence_X4_readTimes : GoodIn wsX4_readSequence wsX4_readTimes := goodIn_r _ [21, 8, 22, 23, 24, 25, 26, 27, 28, 29, 30, 31, 32, 33, 34, 35, 2, 3, 4, 5, 6, 7, 9, 36, 37, 38, 39, 40, 41, 42, 43, 44, 45, 46, 47, 171, 172, 173, 174, 175, 176, 177, 178, 179, 180, 181, 182, 183, 184, 185, 186, 187, 188, 189, 190, 191, 192, 193, 194, 195] (by decide +kernel) (by decide +kernel)
set_option maxRecDepth 20000 in
theorem gX4_readSequence_X4_readTimes : GoodIn wsX4_readSequence (wsV RX4 135 RX4 yX4_readTimes wsX4_readTimes) := goodIn_app (goodIn_of _ (by decide +kernel)) ggX4_readSequence_X4_readTimes
set_option maxRecDepth 20000 in
theorem ggX4_readOne_X4_beginsOne : GoodIn wsX4_readOne wsX4_beginsOne := goodIn_r _ [7, 1, 8, 171, 172, 173, 174, 175, 176, 177, 178, 179, 180, 181, 182, 183, 184, 185, 186, 187, 188, 189, 190, 191] (by decide +kernel) (by decide +kernel)
set_option maxRecDepth 20000 in
theorem gX4_readOne_X4_beginsOne : GoodIn wsX4_readOne (wsV RX4 129 RX4 yX4_beginsOne wsX4_beginsOne) := goodIn_app (goodIn_of _ (by decide +kernel)) ggX4_readOne_X4_beginsOne
set_option maxRecDepth 20000 in
theorem ggX4_readOne_X4_fail : GoodIn wsX4_readOne wsX4_fail := goodIn_r _ [12, 13, 1, 14, 171, 172, 173, 174, 175, 176, 177, 178, 179, 180, 181, 182, 183, 184, 185, 186, 187, 188, 189, 190, 191] (by decide +kernel) (by decide +kernel)
set_option maxRecDepth 20000 in
theorem gX4_readOne_X4_fail : GoodIn wsX4_readOne (wsV RX4 80 RX4 yX4_fail wsX4_fail) := goodIn_app (goodIn_of _ (by decide +kernel)) ggX4_readOne_X4_fail
set_option maxRecDepth 100000 in
set_option maxHeartbeats 4000000 in
theorem ggX4_readOne_X4_readLetter : GoodIn wsX4_readOne wsX4_readLetter := goodIn_r _ [18, 1, 19, 20, 9, 10, 11, 6, 12, 13, 14, 21, 22, 23, 24, 25, 26, 27, 28, 29, 30, 31, 32, 33, 34, 35, 36, 37, 38, 39, 40, 41, 42, 43, 44, 45, 46, 47, 48, 49, 50, 51, 52, 53, 54, 55, 56, 57, 58, 59, 60, 61, 171, 172, 173, 174, 175, 176, 177, 178, 179, 180, 181, 182, 183, 184, 185, 186, 187, 188, 189, 190, 191, 192, 193, 194, 195, 196, 197, 198, 199] (by with_unfolding_all rfl) (by decide +kernel)
set_option maxRecDepth 20000 in
theorem gX4_readOne_X4_readLetter : GoodIn wsX4_readOne (wsV RX4 139 RX4 yX4_readLetter wsX4_readLetter) := goodIn_app (goodIn_of _ (by decide +kernel)) ggX4_readOne_X4_readLetter
set_option maxRecDepth 100000 in
set_option maxHeartbeats 4000000 in
theorem ggX4_readOne_X4_readBeat : GoodIn wsX4_readOne wsX4_readBeat := goodIn_r _ [65, 66, 8, 1, 67, 68, 69, 49, 70, 53, 52, 71, 72, 73, 74, 75, 76, 77, 51, 78, 79, 80, 81, 82, 83, 84, 6, 85, 9, 10, 11, 12, 13, 14, 32, 33, 34, 35, 36, 37, 38, 39, 40, 41, 42, 43, 44, 45, 86, 87, 88, 89, 90, 91, 92, 93, 46, 47, 48, 50, 54, 55, 56, 57, 58, 59, 60, 61, 171, 172, 173, 174, 175, 176, 177, 178, 179, 180, 181, 182, 183, 184, 185, 186, 187, 188, 189, 190, 191, 192, 193, 194, 195] (by with_unfolding_all rfl) (by decide +kernel)
set_option maxRecDepth 20000 in
theorem gX4_readOne_X4_readBeat : GoodIn wsX4_readOne (wsV RX4 142 RX4 yX4_readBeat wsX4_readBeat) := goodIn_app (goodIn_of _ (by decide +kernel)) ggX4_readOne_X4_readBeat
set_option maxRecDepth 20000 in
theorem ggX4_readOne_X4_openGroup : GoodIn wsX4_readOne wsX4_openGroup := goodIn_r _ [97, 1, 98, 32, 33, 34, 35, 36, 37, 38, 39, 40, 41, 42, 43, 44, 45, 82, 83, 84, 6, 85, 9, 10, 11, 12, 13, 14, 171, 172, 173, 174, 175, 176, 177, 178, 179, 180, 181, 182, 183, 184, 185, 186, 187, 188, 189, 190, 191] (by decide +kernel) (by decide +kernel)
set_option maxRecDepth 20000 in
theorem gX4_readOne_X4_openGroup : GoodIn wsX4_readOne (wsV RX4 145 RX4 yX4_openGroup wsX4_openGroup) := goodIn_app (goodIn_of _ (by decide +kernel)) ggX4_readOne_X4_openGroup
set_option maxRecDepth 100000 in
set_option maxHeartbeats 4000000 in
theorem ggX4_readOne_X4_readSequence : GoodIn wsX4_readOne wsX4_readSequence := goodIn_r _ [163, 2, 9, 10, 11, 6, 12, 13, 1, 14, 3, 4, 5, 7, 8, 164, 165, 166, 167, 168, 169, 170, 32, 33, 34, 35, 36, 37, 38, 39, 40, 41, 42, 43, 44, 45, 46, 47, 48, 49, 50, 51, 52, 53, 54, 55, 56, 57, 0, 15, 16, 17, 18, 19, 20, 21, 22, 23, 24, 25, 26, 27, 28, 29, 30, 31, 58, 59, 60, 61, 62, 63, 64, 65, 66, 67, 68, 69, 70, 71, 72, 73, 74, 75, 76, 77, 78, 79, 80, 81, 82, 83, 84, 85, 86, 87, 88, 89, 90, 91, 92, 93, 94, 95, 96, 97, 98, 99, 100, 101, 102, 103, 104, 105, 106, 107, 108, 109, 110, 111, 112, 113, 114, 115, 116, 117, 118, 119, 120, 121, 122, 123, 124, 125, 126, 127, 128, 129, 130, 131, 132, 133, 134, 135, 136, 137, 138, 139, 140, 141, 142, 143, 144, 145, 146, 147, 148, 149, 150, 151, 152, 153, 154, 155, 156, 157, 158, 159, 160, 161, 162, 171, 172, 173, 174, 175, 176, 177, 178, 179, 180, 181, 182, 183, 184, 185, 186, 187, 188, 189, 190, 191, 192, 193, 194, 195, 196, 197, 198, 199] (by with_unfolding_all rfl) (by decide +kernel)
set_option maxRecDepth 20000 in
theorem gX4_readOne_X4_readSequence : GoodIn wsX4_readOne (wsV RX4 119 RX4 yX4_readSequence wsX4_readSequence) := goodIn_app (goodIn_of _ (by decide +kernel)) ggX4_readOne_X4_readSequence
set_option maxRecDepth 20000 in
theorem ggX4_readOne_X4_expect : GoodIn wsX4_readOne wsX4_expect := goodIn_r _ [85, 1, 9, 10, 11, 6, 12, 13, 14, 32, 33, 34, 35, 36, 37, 38, 39, 40, 41, 42, 43, 44, 45, 171, 172, 173, 174, 175, 176, 177, 178, 179, 180, 181, 182, 183, 184, 185, 186, 187, 188, 189, 190, 191] (by decide +kernel) (by decide +kernel)
set_option maxRecDepth 20000 in
theorem gX4_readOne_X4_expect : GoodIn wsX4_readOne (wsV RX4 116 RX4 yX4_expect wsX4_expect) := goodIn_app (goodIn_of _ (by decide +kernel)) ggX4_readOne_X4_expect
set_option maxRecDepth 100000 in
set_option maxHeartbeats 4000000 in
theorem ggX4_readOne_X4_joinGroup : GoodIn wsX4_readOne wsX4_joinGroup := goodIn_r _ [105, 2, 106, 98, 58, 59, 60, 6, 61, 13, 1, 14, 107, 108, 109, 49, 110, 51, 111, 68, 69, 70, 53, 52, 71, 72, 73, 74, 75, 76, 77, 78, 79, 80, 81, 112, 113, 114, 115, 116, 117, 118, 119, 120, 121, 122, 123, 124, 125, 126, 127, 128, 129, 130, 131, 132, 133, 134, 135, 136, 137, 138, 139, 140, 91, 92, 93, 141, 142, 143, 144, 145, 146, 147, 148, 149, 150, 151, 152, 153, 154, 155, 156, 157, 158, 47, 48, 50, 54, 55, 56, 57, 159, 160, 161, 162, 46, 171, 172, 173, 174, 175, 176, 177, 178, 179, 180, 181, 192, 193, 194, 195, 182, 183, 184, 185, 186, 187, 188, 189, 190, 191] (by with_unfolding_all rfl) (by decide +kernel)
set_option maxRecDepth 20000 in
theorem gX4_readOne_X4_joinGroup : GoodIn wsX4_readOne (wsV RX4 149 RX4 yX4_joinGroup wsX4_joinGroup) := goodIn_app (goodIn_of _ (by decide +kernel)) ggX4_readOne_X4_joinGroup
set_option maxRecDepth 100000 in
set_option maxHeartbeats 4000000 in
theorem t_X4_readSequence_0 (l : Launch) (D : va_G) (cI cR cM : ClassId) (sz : Nat) {jn : Nat} {g : Nat → Nat} {L : List Nat} {S : Sg} {f : Nat → va_E} {x : Int32}  (hj : 1 ≤ jn ∧ jn ≤ 3) (hG : SG g L S) (hI : IN jn cI cR cM g L S f) (hd : 6 ≤ x.toInt) (hTK : TK g cI f) : Met l yX4_readSequence wsX4_readSequence ({ frames := 1, cells := 0, slots := 0, locals := 21 }) (P0 D cI cR cM [.ref (g 13), .int x] sz (va_pl L f)) (QG (S := Int32 × (Nat → va_E)) (fun u => some (.int u.1)) (fun u => va_pl L u.2) (fun u => IN jn cI cR cM g L S u.2 ∧ FR S [0, 1, 13, 14, 34] f u.2 ∧ (TK g cI u.2) ∧ (u.1.toInt = 0 ∨ u.1.toInt = 1)) D (va_A (va_pl L f) sz)) 0 0 (va_A (va_pl L f) sz) := by
  refine go (cc := cX4_readSequence) (maxL := 5) (ret := (some .boolean)) (by decide +kernel) rfl (Nat.le_of_ble_eq_true rfl) ?_
  intro p e s m below meth c ls args Q hQ hsz hx hb hr hml hts hown hlocks hnm hP hK hD hl
  subst hsz
  have hD := hD.self (sz := s.heap.size)
  generalize hAe : va_A (va_pl L f) s.heap.size = A at hD hQ
  have hA : ∀ q, s.heap.size ≤ q → A q := fun q h => by rw [← hAe]; exact Or.inr h
  have hS : va_S A s.heap s.heap [] := va_S.rf
  have hF : FR S [0, 1, 13, 14, 34] f f := FR_rf
  have hl : lv_has ls 5 [(0, .ref (g 13)), (1, .int x)] := hl
  refine lv_iload_n hx hb dX4_readSequence_0 rfl (lv_at hl 1 rfl) ?_
  refine a_if_lt (u := x.toInt) (tgt := 9) hx hb dX4_readSequence_1 (by decide) (rfl) (fun c_1 => ?_) (fun c_1 => ?_)
  · refine lv_aload_n hx hb dX4_readSequence_9 rfl (lv_at hl 0 rfl) ?_
    refine lv_iconst (v := 3) hx hb dX4_readSequence_10 (by decide) ?_
    have hz_2 : (3 : Int32).toInt = 3 := by decide
    obtain ⟨fa_3, pl_3, fg_3⟩ := op_13 hI (gm_13 hG) (gs_13 hG)
    refine call_p (va_runV (As := [.int 3]) (rest := []) ⟨hx, hb, hml, hown, hts⟩ (t_X4_fail l D cI cR cM _  hj hG hI  ) (cwV 1 hts gX4_readSequence_X4_fail rfl rfl rfl (by decide +kernel) ⟨Nat.le_of_ble_eq_true rfl, Nat.le_of_ble_eq_true rfl⟩) (pre_T hK hP hD (gm_13 hG) fg_3 rfl) rfl rfl hl.1 rfl (lv_room (Nat.le_of_ble_eq_true rfl)) dX4_readSequence_11 ⟨Nat.le_of_ble_eq_true rfl, Nat.le_of_ble_eq_true rfl⟩) hD hS hA (fun u_4 H locs hw hP hD hS => ?_)
    obtain ⟨r_4, f_4⟩ := u_4
    obtain ⟨hI, hF_4, h0_4, h01_4⟩ : IN jn cI cR cM g L S f_4 ∧ FR S [13] f f_4 ∧ (r_4.toInt = 0) ∧ (r_4.toInt = 0 ∨ r_4.toInt = 1) := hw
    have hP : va_P D vwCl (va_pl L f_4) H := hP
    have hD : va_D A (va_pl L f_4) := hD
    have hF := FR_tr hF hF_4 (by decide)
    have hTK_4 : TK g cI f_4 := TK_fr (f := f) (by assumption) hG hF_4 (by decide)
    exact g_zret (r_4, f_4) hx hb hr hlocks hS (b01 (by omega)) rfl (⟨hI, hF, show TK g cI f_4 from (by first | assumption | omega), show r_4.toInt = 0 ∨ r_4.toInt = 1 from (by first | assumption | omega)⟩) hP hD hQ (Nat.le_of_ble_eq_true rfl) (Nat.le_of_ble_eq_true rfl) dX4_readSequence_14
  · refine lv_iload_n hx hb dX4_readSequence_4 rfl (lv_at hl 1 rfl) ?_
    refine lv_iconst (v := 5) hx hb dX4_readSequence_5 (by decide) ?_
    refine a_icmp_le (u := x.toInt) (v := 5) (tgt := 15) hx hb dX4_readSequence_6 (by decide) (rfl) (by decide) (fun c_5 => absurd c_5 (by omega)) (fun c_5 => ?_)
    refine lv_aload_n hx hb dX4_readSequence_9 rfl (lv_at hl 0 rfl) ?_
    refine lv_iconst (v := 3) hx hb dX4_readSequence_10 (by decide) ?_
    have hz_6 : (3 : Int32).toInt = 3 := by decide
    obtain ⟨fa_7, pl_7, fg_7⟩ := op_13 hI (gm_13 hG) (gs_13 hG)
    refine call_p (va_runV (As := [.int 3]) (rest := []) ⟨hx, hb, hml, hown, hts⟩ (t_X4_fail l D cI cR cM _  hj hG hI  ) (cwV 1 hts gX4_readSequence_X4_fail rfl rfl rfl (by decide +kernel) ⟨Nat.le_of_ble_eq_true rfl, Nat.le_of_ble_eq_true rfl⟩) (pre_T hK hP hD (gm_13 hG) fg_7 rfl) rfl rfl hl.1 rfl (lv_room (Nat.le_of_ble_eq_true rfl)) dX4_readSequence_11 ⟨Nat.le_of_ble_eq_true rfl, Nat.le_of_ble_eq_true rfl⟩) hD hS hA (fun u_8 H locs hw hP hD hS => ?_)
    obtain ⟨r_8, f_8⟩ := u_8
    obtain ⟨hI, hF_8, h0_8, h01_8⟩ : IN jn cI cR cM g L S f_8 ∧ FR S [13] f f_8 ∧ (r_8.toInt = 0) ∧ (r_8.toInt = 0 ∨ r_8.toInt = 1) := hw
    have hP : va_P D vwCl (va_pl L f_8) H := hP
    have hD : va_D A (va_pl L f_8) := hD
    have hF := FR_tr hF hF_8 (by decide)
    have hTK_8 : TK g cI f_8 := TK_fr (f := f) (by assumption) hG hF_8 (by decide)
    exact g_zret (r_8, f_8) hx hb hr hlocks hS (b01 (by omega)) rfl (⟨hI, hF, show TK g cI f_8 from (by first | assumption | omega), show r_8.toInt = 0 ∨ r_8.toInt = 1 from (by first | assumption | omega)⟩) hP hD hQ (Nat.le_of_ble_eq_true rfl) (Nat.le_of_ble_eq_true rfl) dX4_readSequence_14
set_option maxRecDepth 100000 in
set_option maxHeartbeats 4000000 in
theorem t_X4_readOne_1 (l : Launch) (D : va_G) (cI cR cM : ClassId) (sz : Nat) {jn : Nat} {g : Nat → Nat} {L : List Nat} {S : Sg} {f : Nat → va_E} {x : Int32}  (hj : 1 ≤ jn ∧ jn ≤ 3) (hG : SG g L S) (hI : IN jn cI cR cM g L S f) (hx0 : 0 ≤ x.toInt ∧ x.toInt ≤ 5) (hd : 5 ≤ x.toInt) (hTK : TK g cI f) : Met l yX4_readOne wsX4_readOne ({ frames := 4, cells := 0, slots := 0, locals := 136 }) (P0 D cI cR cM [.ref (g 13), .int x] sz (va_pl L f)) (QG (S := Int32 × (Nat → va_E)) (fun u => some (.int u.1)) (fun u => va_pl L u.2) (fun u => IN jn cI cR cM g L S u.2 ∧ FR S [0, 1, 13, 14, 34] f u.2 ∧ (TK g cI u.2) ∧ (u.1.toInt = 0 ∨ u.1.toInt = 1)) D (va_A (va_pl L f) sz)) 0 0 (va_A (va_pl L f) sz) := by
  refine go (cc := cX4_readOne) (maxL := 3) (ret := (some .boolean)) (by decide +kernel) rfl (Nat.le_of_ble_eq_true rfl) ?_
  intro p e s m below meth c ls args Q hQ hsz hx hb hr hml hts hown hlocks hnm hP hK hD hl
  subst hsz
  have hD := hD.self (sz := s.heap.size)
  generalize hAe : va_A (va_pl L f) s.heap.size = A at hD hQ
  have hA : ∀ q, s.heap.size ≤ q → A q := fun q h => by rw [← hAe]; exact Or.inr h
  have hS : va_S A s.heap s.heap [] := va_S.rf
  have hF : FR S [0, 1, 13, 14, 34] f f := FR_rf
  have hl : lv_has ls 3 [(0, .ref (g 13)), (1, .int x)] := hl
  refine lv_aload_n hx hb dX4_readOne_0 rfl (lv_at hl 0 rfl) ?_
  obtain ⟨fa_1, pl_1, fg_1⟩ := op_13 hI (gm_13 hG) (gs_13 hG)
  refine roP (va_runV (As := []) (rest := []) ⟨hx, hb, hml, hown, hts⟩ (t_X4_beginsOne l D cI cR cM _  hj hG hI  ) (cwV 0 hts gX4_readOne_X4_beginsOne rfl rfl rfl (by decide +kernel) ⟨Nat.le_of_ble_eq_true rfl, Nat.le_of_ble_eq_true rfl⟩) (pre_T hK hP hD (gm_13 hG) fg_1 rfl) rfl rfl hl.1 rfl (lv_room (Nat.le_of_ble_eq_true rfl)) dX4_readOne_1 ⟨Nat.le_of_ble_eq_true rfl, Nat.le_of_ble_eq_true rfl⟩) hS hA hP (fun r_2 H locs hw hP hS => ?_)
  have h01_2 : (r_2.toInt = 0 ∨ r_2.toInt = 1) := hw
  refine a_if_ne (u := r_2.toInt) (tgt := 13) hx hb dX4_readOne_4 (by decide) (rfl) (fun c_3 => ?_) (fun c_3 => ?_)
  · refine lv_aload_n hx hb dX4_readOne_13 rfl (lv_at hl 0 rfl) ?_
    refine t_get (D := D) (L := L) (f := f) (ci := 4) (v := .ref (g 14)) (C := RX4) (T := TX4) (N := 11) hx hb hts (by decide +kernel) hown hK.1 hP (gm_13 hG) fg_1 rfl 1 (by decide) (hts (.fieldLink RX4 41 "JugglingHall$Reader" "tokens" "LJugglingHall$Tokens;") (by decide +kernel)) (fun _ h9 => h9) rfl dX4_readOne_14 ?_
    obtain ⟨cnt_4, nx_4, kd_4, vl_4, st_4, ls_4, fg_4, iv0_4, iv1_4, iv2_4⟩ := op_14 hI (gm_14 hG) (gs_14 hG)
    refine t_getN (D := D) (L := L) (f := f) (ci := 8) (v := .int kd_4) (C := RX8) (T := TX8) (N := 10) (host := "JugglingHall") hx hb hts (by decide +kernel) hown hK.1 hP (gm_14 hG) fg_4 rfl 6 (by decide) (hK.nw (.fieldLinkNest RX4 70 "JugglingHall$Tokens" "kind" "I" "JugglingHall") (by decide +kernel) rfl) (fun _ h9 => h9) rfl dX4_readOne_17 ?_
    refine lv_istore_n (lv' := [(2, .int kd_4), (0, .ref (g 13)), (1, .int x)]) hx hb dX4_readOne_20 rfl hl (by decide) rfl (fun ls hl => ?_)
    refine lv_iload_n hx hb dX4_readOne_21 rfl (lv_at hl 0 rfl) ?_
    have hu_5 : kd_4.toInt = kd_4.toInt := rfl
    rcases (show (kd_4.toInt = 2) ∨ (kd_4.toInt = 3) ∨ (kd_4.toInt = 60) ∨ (kd_4.toInt = 91) ∨ (kd_4.toInt ≠ 2 ∧ kd_4.toInt ≠ 3 ∧ kd_4.toInt ≠ 60 ∧ kd_4.toInt ≠ 91) by omega) with c_5 | c_5 | c_5 | c_5 | c_5
    · refine lv_lookup (off := 53) (tgt := 75) hx hb dX4_readOne_22 (by decide) (by rw [hu_5, c_5]; decide) (by decide) ?_
      refine lv_aload_n hx hb dX4_readOne_75 rfl (lv_at hl 1 rfl) ?_
      refine lv_aload_n hx hb dX4_readOne_76 rfl (lv_at hl 1 rfl) ?_
      refine t_get (D := D) (L := L) (f := f) (ci := 4) (v := .ref (g 22)) (C := RX4) (T := TX4) (N := 11) hx hb hts (by decide +kernel) hown hK.1 hP (gm_13 hG) fg_1 rfl 3 (by decide) (hts (.fieldLink RX4 13 "JugglingHall$Reader" "levels" "[LJugglingHall$Row;") (by decide +kernel)) (fun _ h9 => h9) rfl dX4_readOne_77 ?_
      refine lv_iload_n hx hb dX4_readOne_80 rfl (lv_at hl 2 rfl) ?_
      obtain ⟨c_6, fg_6, iv0_6⟩ := op_22 hI (gm_22 hG) (gs_22 hG)
      refine t_aald (L := L) (f := f) (y := c_6) (u := x.toInt) hx hb hK.1 hP (gm_22 hG) 1 fg_6 rfl dX4_readOne_81 (rfl) (by omega) (fun w_7 q_7 => ?_)
      obtain ⟨r_7, p_7, n_7, er_7, m_7, s_7⟩ := iv0_6 x.toInt (by omega) (by omega)
      have q_7 := q_7.trans er_7
      subst q_7
      refine W.eq (g2 := F0 m 82 ls [.ref r_7, .ref (g 13)]) rfl ?_
      obtain ⟨len_8, fg_8, v1_8, v2_8, v3_8, mp_8, sp_8⟩ := op_0 hI m_7 s_7
      obtain ⟨w1_8, w2_8, w3_8, w4_8, w5_8⟩ := lenw hj v1_8 v2_8 v3_8
      obtain ⟨c_9, fg_9, iv0_9⟩ := op_1 hI mp_8 sp_8
      refine call_p (va_runV (As := [.ref r_7]) (rest := []) ⟨hx, hb, hml, hown, hts⟩ (t_X4_readBeat l D cI cR cM _  hj hG hI m_7 s_7 fg_8 fg_9 (by first | assumption | omega)) (cwV 1 hts gX4_readOne_X4_readBeat rfl rfl rfl (by decide +kernel) ⟨Nat.le_of_ble_eq_true rfl, Nat.le_of_ble_eq_true rfl⟩) (pre_T hK hP hD (gm_13 hG) fg_1 rfl) rfl rfl hl.1 rfl (lv_room (Nat.le_of_ble_eq_true rfl)) dX4_readOne_82 ⟨Nat.le_of_ble_eq_true rfl, Nat.le_of_ble_eq_true rfl⟩) hD hS hA (fun u_10 H locs hw hP hD hS => ?_)
      obtain ⟨r_10, f_10⟩ := u_10
      obtain ⟨hI, hF_10, hTK_10, h01_10⟩ : IN jn cI cR cM g L S f_10 ∧ FR S [0, 1, 13, 14] f f_10 ∧ (TK g cI f_10) ∧ (r_10.toInt = 0 ∨ r_10.toInt = 1) := hw
      have hP : va_P D vwCl (va_pl L f_10) H := hP
      have hD : va_D A (va_pl L f_10) := hD
      have hF := FR_tr hF hF_10 (by decide)
      have fb_11 : f_10 (g 22) = .inl (cR, 6, .inr (.inr (.inr (.inr c_6)))) := FR_at hF_10 (gs_22 hG) (show (22 : Nat) ∉ ([0, 1, 13, 14] : List Nat) by decide) fg_6
      exact g_zret (r_10, f_10) hx hb hr hlocks hS (b01 (by omega)) rfl (⟨hI, hF, show TK g cI f_10 from (by first | assumption | omega), show r_10.toInt = 0 ∨ r_10.toInt = 1 from (by first | assumption | omega)⟩) hP hD hQ (Nat.le_of_ble_eq_true rfl) (Nat.le_of_ble_eq_true rfl) dX4_readOne_85
    · refine lv_lookup (off := 42) (tgt := 64) hx hb dX4_readOne_22 (by decide) (by rw [hu_5, c_5]; decide) (by decide) ?_
      refine lv_aload_n hx hb dX4_readOne_64 rfl (lv_at hl 1 rfl) ?_
      refine lv_aload_n hx hb dX4_readOne_65 rfl (lv_at hl 1 rfl) ?_
      refine t_get (D := D) (L := L) (f := f) (ci := 4) (v := .ref (g 22)) (C := RX4) (T := TX4) (N := 11) hx hb hts (by decide +kernel) hown hK.1 hP (gm_13 hG) fg_1 rfl 3 (by decide) (hts (.fieldLink RX4 13 "JugglingHall$Reader" "levels" "[LJugglingHall$Row;") (by decide +kernel)) (fun _ h9 => h9) rfl dX4_readOne_66 ?_
      refine lv_iload_n hx hb dX4_readOne_69 rfl (lv_at hl 2 rfl) ?_
      obtain ⟨c_12, fg_12, iv0_12⟩ := op_22 hI (gm_22 hG) (gs_22 hG)
      refine t_aald (L := L) (f := f) (y := c_12) (u := x.toInt) hx hb hK.1 hP (gm_22 hG) 1 fg_12 rfl dX4_readOne_70 (rfl) (by omega) (fun w_13 q_13 => ?_)
      obtain ⟨r_13, p_13, n_13, er_13, m_13, s_13⟩ := iv0_12 x.toInt (by omega) (by omega)
      have q_13 := q_13.trans er_13
      subst q_13
      refine W.eq (g2 := F0 m 71 ls [.ref r_13, .ref (g 13)]) rfl ?_
      obtain ⟨len_14, fg_14, v1_14, v2_14, v3_14, mp_14, sp_14⟩ := op_0 hI m_13 s_13
      obtain ⟨w1_14, w2_14, w3_14, w4_14, w5_14⟩ := lenw hj v1_14 v2_14 v3_14
      obtain ⟨c_15, fg_15, iv0_15⟩ := op_1 hI mp_14 sp_14
      refine call_p (va_runV (As := [.ref r_13]) (rest := []) ⟨hx, hb, hml, hown, hts⟩ (t_X4_readLetter l D cI cR cM _  hj hG hI m_13 s_13 fg_14 fg_15 (by first | assumption | omega)) (cwV 1 hts gX4_readOne_X4_readLetter rfl rfl rfl (by decide +kernel) ⟨Nat.le_of_ble_eq_true rfl, Nat.le_of_ble_eq_true rfl⟩) (pre_T hK hP hD (gm_13 hG) fg_1 rfl) rfl rfl hl.1 rfl (lv_room (Nat.le_of_ble_eq_true rfl)) dX4_readOne_71 ⟨Nat.le_of_ble_eq_true rfl, Nat.le_of_ble_eq_true rfl⟩) hD hS hA (fun u_16 H locs hw hP hD hS => ?_)
      obtain ⟨r_16, f_16⟩ := u_16
      obtain ⟨hI, hF_16, hTK_16, h01_16⟩ : IN jn cI cR cM g L S f_16 ∧ FR S [0, 1, 13, 14] f f_16 ∧ (TK g cI f_16) ∧ (r_16.toInt = 0 ∨ r_16.toInt = 1) := hw
      have hP : va_P D vwCl (va_pl L f_16) H := hP
      have hD : va_D A (va_pl L f_16) := hD
      have hF := FR_tr hF hF_16 (by decide)
      have fb_17 : f_16 (g 22) = .inl (cR, 6, .inr (.inr (.inr (.inr c_12)))) := FR_at hF_16 (gs_22 hG) (show (22 : Nat) ∉ ([0, 1, 13, 14] : List Nat) by decide) fg_12
      exact g_zret (r_16, f_16) hx hb hr hlocks hS (b01 (by omega)) rfl (⟨hI, hF, show TK g cI f_16 from (by first | assumption | omega), show r_16.toInt = 0 ∨ r_16.toInt = 1 from (by first | assumption | omega)⟩) hP hD hQ (Nat.le_of_ble_eq_true rfl) (Nat.le_of_ble_eq_true rfl) dX4_readOne_74
    · refine lv_lookup (off := 53) (tgt := 75) hx hb dX4_readOne_22 (by decide) (by rw [hu_5, c_5]; decide) (by decide) ?_
      refine lv_aload_n hx hb dX4_readOne_75 rfl (lv_at hl 1 rfl) ?_
      refine lv_aload_n hx hb dX4_readOne_76 rfl (lv_at hl 1 rfl) ?_
      refine t_get (D := D) (L := L) (f := f) (ci := 4) (v := .ref (g 22)) (C := RX4) (T := TX4) (N := 11) hx hb hts (by decide +kernel) hown hK.1 hP (gm_13 hG) fg_1 rfl 3 (by decide) (hts (.fieldLink RX4 13 "JugglingHall$Reader" "levels" "[LJugglingHall$Row;") (by decide +kernel)) (fun _ h9 => h9) rfl dX4_readOne_77 ?_
      refine lv_iload_n hx hb dX4_readOne_80 rfl (lv_at hl 2 rfl) ?_
      obtain ⟨c_18, fg_18, iv0_18⟩ := op_22 hI (gm_22 hG) (gs_22 hG)
      refine t_aald (L := L) (f := f) (y := c_18) (u := x.toInt) hx hb hK.1 hP (gm_22 hG) 1 fg_18 rfl dX4_readOne_81 (rfl) (by omega) (fun w_19 q_19 => ?_)
      obtain ⟨r_19, p_19, n_19, er_19, m_19, s_19⟩ := iv0_18 x.toInt (by omega) (by omega)
      have q_19 := q_19.trans er_19
      subst q_19
      refine W.eq (g2 := F0 m 82 ls [.ref r_19, .ref (g 13)]) rfl ?_
      obtain ⟨len_20, fg_20, v1_20, v2_20, v3_20, mp_20, sp_20⟩ := op_0 hI m_19 s_19
      obtain ⟨w1_20, w2_20, w3_20, w4_20, w5_20⟩ := lenw hj v1_20 v2_20 v3_20
      obtain ⟨c_21, fg_21, iv0_21⟩ := op_1 hI mp_20 sp_20
      refine call_p (va_runV (As := [.ref r_19]) (rest := []) ⟨hx, hb, hml, hown, hts⟩ (t_X4_readBeat l D cI cR cM _  hj hG hI m_19 s_19 fg_20 fg_21 (by first | assumption | omega)) (cwV 1 hts gX4_readOne_X4_readBeat rfl rfl rfl (by decide +kernel) ⟨Nat.le_of_ble_eq_true rfl, Nat.le_of_ble_eq_true rfl⟩) (pre_T hK hP hD (gm_13 hG) fg_1 rfl) rfl rfl hl.1 rfl (lv_room (Nat.le_of_ble_eq_true rfl)) dX4_readOne_82 ⟨Nat.le_of_ble_eq_true rfl, Nat.le_of_ble_eq_true rfl⟩) hD hS hA (fun u_22 H locs hw hP hD hS => ?_)
      obtain ⟨r_22, f_22⟩ := u_22
      obtain ⟨hI, hF_22, hTK_22, h01_22⟩ : IN jn cI cR cM g L S f_22 ∧ FR S [0, 1, 13, 14] f f_22 ∧ (TK g cI f_22) ∧ (r_22.toInt = 0 ∨ r_22.toInt = 1) := hw
      have hP : va_P D vwCl (va_pl L f_22) H := hP
      have hD : va_D A (va_pl L f_22) := hD
      have hF := FR_tr hF hF_22 (by decide)
      have fb_23 : f_22 (g 22) = .inl (cR, 6, .inr (.inr (.inr (.inr c_18)))) := FR_at hF_22 (gs_22 hG) (show (22 : Nat) ∉ ([0, 1, 13, 14] : List Nat) by decide) fg_18
      exact g_zret (r_22, f_22) hx hb hr hlocks hS (b01 (by omega)) rfl (⟨hI, hF, show TK g cI f_22 from (by first | assumption | omega), show r_22.toInt = 0 ∨ r_22.toInt = 1 from (by first | assumption | omega)⟩) hP hD hQ (Nat.le_of_ble_eq_true rfl) (Nat.le_of_ble_eq_true rfl) dX4_readOne_85
    · refine lv_lookup (off := 53) (tgt := 75) hx hb dX4_readOne_22 (by decide) (by rw [hu_5, c_5]; decide) (by decide) ?_
      refine lv_aload_n hx hb dX4_readOne_75 rfl (lv_at hl 1 rfl) ?_
      refine lv_aload_n hx hb dX4_readOne_76 rfl (lv_at hl 1 rfl) ?_
      refine t_get (D := D) (L := L) (f := f) (ci := 4) (v := .ref (g 22)) (C := RX4) (T := TX4) (N := 11) hx hb hts (by decide +kernel) hown hK.1 hP (gm_13 hG) fg_1 rfl 3 (by decide) (hts (.fieldLink RX4 13 "JugglingHall$Reader" "levels" "[LJugglingHall$Row;") (by decide +kernel)) (fun _ h9 => h9) rfl dX4_readOne_77 ?_
      refine lv_iload_n hx hb dX4_readOne_80 rfl (lv_at hl 2 rfl) ?_
      obtain ⟨c_24, fg_24, iv0_24⟩ := op_22 hI (gm_22 hG) (gs_22 hG)
      refine t_aald (L := L) (f := f) (y := c_24) (u := x.toInt) hx hb hK.1 hP (gm_22 hG) 1 fg_24 rfl dX4_readOne_81 (rfl) (by omega) (fun w_25 q_25 => ?_)
      obtain ⟨r_25, p_25, n_25, er_25, m_25, s_25⟩ := iv0_24 x.toInt (by omega) (by omega)
      have q_25 := q_25.trans er_25
      subst q_25
      refine W.eq (g2 := F0 m 82 ls [.ref r_25, .ref (g 13)]) rfl ?_
      obtain ⟨len_26, fg_26, v1_26, v2_26, v3_26, mp_26, sp_26⟩ := op_0 hI m_25 s_25
      obtain ⟨w1_26, w2_26, w3_26, w4_26, w5_26⟩ := lenw hj v1_26 v2_26 v3_26
      obtain ⟨c_27, fg_27, iv0_27⟩ := op_1 hI mp_26 sp_26
      refine call_p (va_runV (As := [.ref r_25]) (rest := []) ⟨hx, hb, hml, hown, hts⟩ (t_X4_readBeat l D cI cR cM _  hj hG hI m_25 s_25 fg_26 fg_27 (by first | assumption | omega)) (cwV 1 hts gX4_readOne_X4_readBeat rfl rfl rfl (by decide +kernel) ⟨Nat.le_of_ble_eq_true rfl, Nat.le_of_ble_eq_true rfl⟩) (pre_T hK hP hD (gm_13 hG) fg_1 rfl) rfl rfl hl.1 rfl (lv_room (Nat.le_of_ble_eq_true rfl)) dX4_readOne_82 ⟨Nat.le_of_ble_eq_true rfl, Nat.le_of_ble_eq_true rfl⟩) hD hS hA (fun u_28 H locs hw hP hD hS => ?_)
      obtain ⟨r_28, f_28⟩ := u_28
      obtain ⟨hI, hF_28, hTK_28, h01_28⟩ : IN jn cI cR cM g L S f_28 ∧ FR S [0, 1, 13, 14] f f_28 ∧ (TK g cI f_28) ∧ (r_28.toInt = 0 ∨ r_28.toInt = 1) := hw
      have hP : va_P D vwCl (va_pl L f_28) H := hP
      have hD : va_D A (va_pl L f_28) := hD
      have hF := FR_tr hF hF_28 (by decide)
      have fb_29 : f_28 (g 22) = .inl (cR, 6, .inr (.inr (.inr (.inr c_24)))) := FR_at hF_28 (gs_22 hG) (show (22 : Nat) ∉ ([0, 1, 13, 14] : List Nat) by decide) fg_24
      exact g_zret (r_28, f_28) hx hb hr hlocks hS (b01 (by omega)) rfl (⟨hI, hF, show TK g cI f_28 from (by first | assumption | omega), show r_28.toInt = 0 ∨ r_28.toInt = 1 from (by first | assumption | omega)⟩) hP hD hQ (Nat.le_of_ble_eq_true rfl) (Nat.le_of_ble_eq_true rfl) dX4_readOne_85
    · refine lv_lookup (off := 64) (tgt := 86) hx hb dX4_readOne_22 (by decide) (by rw [hu_5]; exact (show Op.lookupswitch.offset [(2, 53), (3, 42), (60, 53), (91, 53)] (64) kd_4.toInt = (64) from lkc (by omega) (lkc (by omega) (lkc (by omega) (lkc (by omega) (lkn _ _)))))) (by decide) ?_
      refine lv_aload_n hx hb dX4_readOne_86 rfl (lv_at hl 1 rfl) ?_
      refine lv_iload_n hx hb dX4_readOne_87 rfl (lv_at hl 0 rfl) ?_
      refine lv_iload_n hx hb dX4_readOne_88 rfl (lv_at hl 2 rfl) ?_
      refine call_p (va_runV (As := [.int kd_4, .int x]) (rest := []) ⟨hx, hb, hml, hown, hts⟩ (t_X4_openGroup l D cI cR cM _  hj hG hI  (by first | assumption | omega) (by first | assumption | omega)) (cwV 2 hts gX4_readOne_X4_openGroup rfl rfl rfl (by decide +kernel) ⟨Nat.le_of_ble_eq_true rfl, Nat.le_of_ble_eq_true rfl⟩) (pre_T hK hP hD (gm_13 hG) fg_1 rfl) rfl rfl hl.1 rfl (lv_room (Nat.le_of_ble_eq_true rfl)) dX4_readOne_89 ⟨Nat.le_of_ble_eq_true rfl, Nat.le_of_ble_eq_true rfl⟩) hD hS hA (fun u_30 H locs hw hP hD hS => ?_)
      obtain ⟨r_30, f_30⟩ := u_30
      obtain ⟨hI, hF_30, hd_30, hTK_30, h01_30⟩ : IN jn cI cR cM g L S f_30 ∧ FR S [13, 14, 34] f f_30 ∧ (r_30.toInt = 1 → x.toInt ≤ 4) ∧ (TK g cI f_30) ∧ (r_30.toInt = 0 ∨ r_30.toInt = 1) := hw
      have hP : va_P D vwCl (va_pl L f_30) H := hP
      have hD : va_D A (va_pl L f_30) := hD
      have hF := FR_tr hF hF_30 (by decide)
      refine a_if_eq (u := r_30.toInt) (tgt := 127) hx hb dX4_readOne_92 (by decide) (rfl) (fun c_31 => ?_) (fun c_31 => ?_)
      · refine lv_iconst (v := 0) hx hb dX4_readOne_127 (by decide) ?_
        have hz_32 : (0 : Int32).toInt = 0 := by decide
        exact g_zret ((0 : Int32), f_30) hx hb hr hlocks hS (by first | exact Or.inl rfl | exact Or.inr rfl) rfl (⟨hI, hF, show TK g cI f_30 from (by first | assumption | omega), show (0 : Int32).toInt = 0 ∨ (0 : Int32).toInt = 1 from (by first | assumption | omega)⟩) hP hD hQ (Nat.le_of_ble_eq_true rfl) (Nat.le_of_ble_eq_true rfl) dX4_readOne_128
      · refine lv_aload_n hx hb dX4_readOne_95 rfl (lv_at hl 1 rfl) ?_
        refine lv_iload_n hx hb dX4_readOne_96 rfl (lv_at hl 2 rfl) ?_
        refine lv_iconst (v := 1) hx hb dX4_readOne_97 (by decide) ?_
        refine a_iadd (u := x.toInt) (v := 1) hx hb dX4_readOne_98 (rfl) (by decide) (by omega) (fun z_33 e_33 => ?_)
        obtain ⟨fa_34, pl_34, fg_34⟩ := op_13 hI (gm_13 hG) (gs_13 hG)
        refine call_p (va_runV (As := [.int z_33]) (rest := []) ⟨hx, hb, hml, hown, hts⟩ (t_X4_readSequence_0 l D cI cR cM _  hj hG hI  (by first | assumption | omega) (by first | assumption | omega)) (cwV 1 hts gX4_readOne_X4_readSequence rfl rfl rfl (by decide +kernel) ⟨Nat.le_of_ble_eq_true rfl, Nat.le_of_ble_eq_true rfl⟩) (pre_T hK hP hD (gm_13 hG) fg_34 rfl) rfl rfl hl.1 rfl (lv_room (Nat.le_of_ble_eq_true rfl)) dX4_readOne_99 ⟨Nat.le_of_ble_eq_true rfl, Nat.le_of_ble_eq_true rfl⟩) hD hS hA (fun u_35 H locs hw hP hD hS => ?_)
        obtain ⟨r_35, f_35⟩ := u_35
        obtain ⟨hI, hF_35, hTK_35, h01_35⟩ : IN jn cI cR cM g L S f_35 ∧ FR S [0, 1, 13, 14, 34] f_30 f_35 ∧ (TK g cI f_35) ∧ (r_35.toInt = 0 ∨ r_35.toInt = 1) := hw
        have hP : va_P D vwCl (va_pl L f_35) H := hP
        have hD : va_D A (va_pl L f_35) := hD
        have hF := FR_tr hF hF_35 (by decide)
        refine a_if_eq (u := r_35.toInt) (tgt := 127) hx hb dX4_readOne_102 (by decide) (rfl) (fun c_36 => ?_) (fun c_36 => ?_)
        · refine lv_iconst (v := 0) hx hb dX4_readOne_127 (by decide) ?_
          have hz_37 : (0 : Int32).toInt = 0 := by decide
          exact g_zret ((0 : Int32), f_35) hx hb hr hlocks hS (by first | exact Or.inl rfl | exact Or.inr rfl) rfl (⟨hI, hF, show TK g cI f_35 from (by first | assumption | omega), show (0 : Int32).toInt = 0 ∨ (0 : Int32).toInt = 1 from (by first | assumption | omega)⟩) hP hD hQ (Nat.le_of_ble_eq_true rfl) (Nat.le_of_ble_eq_true rfl) dX4_readOne_128
        · refine lv_aload_n hx hb dX4_readOne_105 rfl (lv_at hl 1 rfl) ?_
          refine lv_bipush (v := 41) hx hb dX4_readOne_106 (by decide) ?_
          have hz_38 : (41 : Int32).toInt = 41 := by decide
          obtain ⟨fa_39, pl_39, fg_39⟩ := op_13 hI (gm_13 hG) (gs_13 hG)
          refine call_p (va_runV (As := [.int 41]) (rest := []) ⟨hx, hb, hml, hown, hts⟩ (t_X4_expect l D cI cR cM _  hj hG hI  (by first | assumption | omega)) (cwV 1 hts gX4_readOne_X4_expect rfl rfl rfl (by decide +kernel) ⟨Nat.le_of_ble_eq_true rfl, Nat.le_of_ble_eq_true rfl⟩) (pre_T hK hP hD (gm_13 hG) fg_39 rfl) rfl rfl hl.1 rfl (lv_room (Nat.le_of_ble_eq_true rfl)) dX4_readOne_108 ⟨Nat.le_of_ble_eq_true rfl, Nat.le_of_ble_eq_true rfl⟩) hD hS hA (fun u_40 H locs hw hP hD hS => ?_)
          obtain ⟨r_40, f_40⟩ := u_40
          obtain ⟨hI, hF_40, he_40, hTK_40, h01_40⟩ : IN jn cI cR cM g L S f_40 ∧ FR S [13, 14] f_35 f_40 ∧ (∀ cnt9 nx9 kd9 vl9 st9 ls9, f_35 (g 14) = .inr (8, [.ref (g 11), .ref (g 31), .ref (g 32), .ref (g 33), .int cnt9, .int nx9, .int kd9, .int vl9, .int st9, .int ls9]) → r_40.toInt = 1 → kd9.toInt = (41 : Int32).toInt) ∧ (TK g cI f_40) ∧ (r_40.toInt = 0 ∨ r_40.toInt = 1) := hw
          have hP : va_P D vwCl (va_pl L f_40) H := hP
          have hD : va_D A (va_pl L f_40) := hD
          have hF := FR_tr hF hF_40 (by decide)
          refine a_if_eq (u := r_40.toInt) (tgt := 127) hx hb dX4_readOne_111 (by decide) (rfl) (fun c_41 => ?_) (fun c_41 => ?_)
          · refine lv_iconst (v := 0) hx hb dX4_readOne_127 (by decide) ?_
            have hz_42 : (0 : Int32).toInt = 0 := by decide
            exact g_zret ((0 : Int32), f_40) hx hb hr hlocks hS (by first | exact Or.inl rfl | exact Or.inr rfl) rfl (⟨hI, hF, show TK g cI f_40 from (by first | assumption | omega), show (0 : Int32).toInt = 0 ∨ (0 : Int32).toInt = 1 from (by first | assumption | omega)⟩) hP hD hQ (Nat.le_of_ble_eq_true rfl) (Nat.le_of_ble_eq_true rfl) dX4_readOne_128
          · refine lv_aload_n hx hb dX4_readOne_114 rfl (lv_at hl 1 rfl) ?_
            refine lv_iload_n hx hb dX4_readOne_115 rfl (lv_at hl 0 rfl) ?_
            refine lv_iload_n hx hb dX4_readOne_116 rfl (lv_at hl 2 rfl) ?_
            obtain ⟨fa_43, pl_43, fg_43⟩ := op_13 hI (gm_13 hG) (gs_13 hG)
            refine call_p (va_runV (As := [.int kd_4, .int x]) (rest := []) ⟨hx, hb, hml, hown, hts⟩ (t_X4_joinGroup l D cI cR cM _  hj hG hI  (by first | assumption | omega) (by first | assumption | omega)) (cwV 2 hts gX4_readOne_X4_joinGroup rfl rfl rfl (by decide +kernel) ⟨Nat.le_of_ble_eq_true rfl, Nat.le_of_ble_eq_true rfl⟩) (pre_T hK hP hD (gm_13 hG) fg_43 rfl) rfl rfl hl.1 rfl (lv_room (Nat.le_of_ble_eq_true rfl)) dX4_readOne_117 ⟨Nat.le_of_ble_eq_true rfl, Nat.le_of_ble_eq_true rfl⟩) hD hS hA (fun u_44 H locs hw hP hD hS => ?_)
            obtain ⟨r_44, f_44⟩ := u_44
            obtain ⟨hI, hF_44, hTK_44, h01_44⟩ : IN jn cI cR cM g L S f_44 ∧ FR S [0, 1, 13] f_40 f_44 ∧ (TK g cI f_44) ∧ (r_44.toInt = 0 ∨ r_44.toInt = 1) := hw
            have hP : va_P D vwCl (va_pl L f_44) H := hP
            have hD : va_D A (va_pl L f_44) := hD
            have hF := FR_tr hF hF_44 (by decide)
            refine a_if_eq (u := r_44.toInt) (tgt := 127) hx hb dX4_readOne_120 (by decide) (rfl) (fun c_45 => ?_) (fun c_45 => ?_)
            · refine lv_iconst (v := 0) hx hb dX4_readOne_127 (by decide) ?_
              have hz_46 : (0 : Int32).toInt = 0 := by decide
              exact g_zret ((0 : Int32), f_44) hx hb hr hlocks hS (by first | exact Or.inl rfl | exact Or.inr rfl) rfl (⟨hI, hF, show TK g cI f_44 from (by first | assumption | omega), show (0 : Int32).toInt = 0 ∨ (0 : Int32).toInt = 1 from (by first | assumption | omega)⟩) hP hD hQ (Nat.le_of_ble_eq_true rfl) (Nat.le_of_ble_eq_true rfl) dX4_readOne_128
            · refine lv_iconst (v := 1) hx hb dX4_readOne_123 (by decide) ?_
              refine lv_goto (tgt := 128) hx hb dX4_readOne_124 (by decide) ?_
              have hz_47 : (1 : Int32).toInt = 1 := by decide
              exact g_zret ((1 : Int32), f_44) hx hb hr hlocks hS (by first | exact Or.inl rfl | exact Or.inr rfl) rfl (⟨hI, hF, show TK g cI f_44 from (by first | assumption | omega), show (1 : Int32).toInt = 0 ∨ (1 : Int32).toInt = 1 from (by first | assumption | omega)⟩) hP hD hQ (Nat.le_of_ble_eq_true rfl) (Nat.le_of_ble_eq_true rfl) dX4_readOne_128
  · refine lv_aload_n hx hb dX4_readOne_7 rfl (lv_at hl 0 rfl) ?_
    refine lv_iconst (v := 1) hx hb dX4_readOne_8 (by decide) ?_
    have hz_48 : (1 : Int32).toInt = 1 := by decide
    refine call_p (va_runV (As := [.int 1]) (rest := []) ⟨hx, hb, hml, hown, hts⟩ (t_X4_fail l D cI cR cM _  hj hG hI  ) (cwV 1 hts gX4_readOne_X4_fail rfl rfl rfl (by decide +kernel) ⟨Nat.le_of_ble_eq_true rfl, Nat.le_of_ble_eq_true rfl⟩) (pre_T hK hP hD (gm_13 hG) fg_1 rfl) rfl rfl hl.1 rfl (lv_room (Nat.le_of_ble_eq_true rfl)) dX4_readOne_9 ⟨Nat.le_of_ble_eq_true rfl, Nat.le_of_ble_eq_true rfl⟩) hD hS hA (fun u_49 H locs hw hP hD hS => ?_)
    obtain ⟨r_49, f_49⟩ := u_49
    obtain ⟨hI, hF_49, h0_49, h01_49⟩ : IN jn cI cR cM g L S f_49 ∧ FR S [13] f f_49 ∧ (r_49.toInt = 0) ∧ (r_49.toInt = 0 ∨ r_49.toInt = 1) := hw
    have hP : va_P D vwCl (va_pl L f_49) H := hP
    have hD : va_D A (va_pl L f_49) := hD
    have hF := FR_tr hF hF_49 (by decide)
    have hTK_49 : TK g cI f_49 := TK_fr (f := f) (by assumption) hG hF_49 (by decide)
    exact g_zret (r_49, f_49) hx hb hr hlocks hS (b01 (by omega)) rfl (⟨hI, hF, show TK g cI f_49 from (by first | assumption | omega), show r_49.toInt = 0 ∨ r_49.toInt = 1 from (by first | assumption | omega)⟩) hP hD hQ (Nat.le_of_ble_eq_true rfl) (Nat.le_of_ble_eq_true rfl) dX4_readOne_12
set_option maxRecDepth 100000 in
set_option maxHeartbeats 4000000 in
theorem t_X4_readSequence_1 (l : Launch) (D : va_G) (cI cR cM : ClassId) (sz : Nat) {jn : Nat} {g : Nat → Nat} {L : List Nat} {S : Sg} {f : Nat → va_E} {x : Int32}  (hj : 1 ≤ jn ∧ jn ≤ 3) (hG : SG g L S) (hI : IN jn cI cR cM g L S f) (hd : 5 ≤ x.toInt) (hTK : TK g cI f) : Met l yX4_readSequence wsX4_readSequence ({ frames := 5, cells := 0, slots := 0, locals := 158 }) (P0 D cI cR cM [.ref (g 13), .int x] sz (va_pl L f)) (QG (S := Int32 × (Nat → va_E)) (fun u => some (.int u.1)) (fun u => va_pl L u.2) (fun u => IN jn cI cR cM g L S u.2 ∧ FR S [0, 1, 13, 14, 34] f u.2 ∧ (TK g cI u.2) ∧ (u.1.toInt = 0 ∨ u.1.toInt = 1)) D (va_A (va_pl L f) sz)) 0 0 (va_A (va_pl L f) sz) := by
  refine go (cc := cX4_readSequence) (maxL := 5) (ret := (some .boolean)) (by decide +kernel) rfl (Nat.le_of_ble_eq_true rfl) ?_
  intro p e s m below meth c ls args Q hQ hsz hx hb hr hml hts hown hlocks hnm hP hK hD hl
  subst hsz
  have hD := hD.self (sz := s.heap.size)
  generalize hAe : va_A (va_pl L f) s.heap.size = A at hD hQ
  have hA : ∀ q, s.heap.size ≤ q → A q := fun q h => by rw [← hAe]; exact Or.inr h
  have hS : va_S A s.heap s.heap [] := va_S.rf
  have hF : FR S [0, 1, 13, 14, 34] f f := FR_rf
  have hl : lv_has ls 5 [(0, .ref (g 13)), (1, .int x)] := hl
  refine lv_iload_n hx hb dX4_readSequence_0 rfl (lv_at hl 1 rfl) ?_
  refine a_if_lt (u := x.toInt) (tgt := 9) hx hb dX4_readSequence_1 (by decide) (rfl) (fun c_1 => ?_) (fun c_1 => ?_)
  · refine lv_aload_n hx hb dX4_readSequence_9 rfl (lv_at hl 0 rfl) ?_
    refine lv_iconst (v := 3) hx hb dX4_readSequence_10 (by decide) ?_
    have hz_2 : (3 : Int32).toInt = 3 := by decide
    obtain ⟨fa_3, pl_3, fg_3⟩ := op_13 hI (gm_13 hG) (gs_13 hG)
    refine call_p (va_runV (As := [.int 3]) (rest := []) ⟨hx, hb, hml, hown, hts⟩ (t_X4_fail l D cI cR cM _  hj hG hI  ) (cwV 1 hts gX4_readSequence_X4_fail rfl rfl rfl (by decide +kernel) ⟨Nat.le_of_ble_eq_true rfl, Nat.le_of_ble_eq_true rfl⟩) (pre_T hK hP hD (gm_13 hG) fg_3 rfl) rfl rfl hl.1 rfl (lv_room (Nat.le_of_ble_eq_true rfl)) dX4_readSequence_11 ⟨Nat.le_of_ble_eq_true rfl, Nat.le_of_ble_eq_true rfl⟩) hD hS hA (fun u_4 H locs hw hP hD hS => ?_)
    obtain ⟨r_4, f_4⟩ := u_4
    obtain ⟨hI, hF_4, h0_4, h01_4⟩ : IN jn cI cR cM g L S f_4 ∧ FR S [13] f f_4 ∧ (r_4.toInt = 0) ∧ (r_4.toInt = 0 ∨ r_4.toInt = 1) := hw
    have hP : va_P D vwCl (va_pl L f_4) H := hP
    have hD : va_D A (va_pl L f_4) := hD
    have hF := FR_tr hF hF_4 (by decide)
    have hTK_4 : TK g cI f_4 := TK_fr (f := f) (by assumption) hG hF_4 (by decide)
    exact g_zret (r_4, f_4) hx hb hr hlocks hS (b01 (by omega)) rfl (⟨hI, hF, show TK g cI f_4 from (by first | assumption | omega), show r_4.toInt = 0 ∨ r_4.toInt = 1 from (by first | assumption | omega)⟩) hP hD hQ (Nat.le_of_ble_eq_true rfl) (Nat.le_of_ble_eq_true rfl) dX4_readSequence_14
  · refine lv_iload_n hx hb dX4_readSequence_4 rfl (lv_at hl 1 rfl) ?_
    refine lv_iconst (v := 5) hx hb dX4_readSequence_5 (by decide) ?_
    refine a_icmp_le (u := x.toInt) (v := 5) (tgt := 15) hx hb dX4_readSequence_6 (by decide) (rfl) (by decide) (fun c_5 => ?_) (fun c_5 => ?_)
    · refine lv_aload_n hx hb dX4_readSequence_15 rfl (lv_at hl 0 rfl) ?_
      obtain ⟨fa_6, pl_6, fg_6⟩ := op_13 hI (gm_13 hG) (gs_13 hG)
      refine t_get (D := D) (L := L) (f := f) (ci := 4) (v := .ref (g 22)) (C := RX4) (T := TX4) (N := 11) hx hb hts (by decide +kernel) hown hK.1 hP (gm_13 hG) fg_6 rfl 3 (by decide) (hts (.fieldLink RX4 13 "JugglingHall$Reader" "levels" "[LJugglingHall$Row;") (by decide +kernel)) (fun _ h9 => h9) rfl dX4_readSequence_16 ?_
      refine lv_iload_n hx hb dX4_readSequence_19 rfl (lv_at hl 1 rfl) ?_
      obtain ⟨c_7, fg_7, iv0_7⟩ := op_22 hI (gm_22 hG) (gs_22 hG)
      refine t_aald (L := L) (f := f) (y := c_7) (u := x.toInt) hx hb hK.1 hP (gm_22 hG) 1 fg_7 rfl dX4_readSequence_20 (rfl) (by omega) (fun w_8 q_8 => ?_)
      obtain ⟨r_8, p_8, n_8, er_8, m_8, s_8⟩ := iv0_7 x.toInt (by omega) (by omega)
      have q_8 := q_8.trans er_8
      subst q_8
      refine W.eq (g2 := F0 m 21 ls [.ref r_8]) rfl ?_
      refine lv_astore_n (lv' := [(2, .ref r_8), (0, .ref (g 13)), (1, .int x)]) hx hb dX4_readSequence_21 rfl hl (by decide) rfl (fun ls hl => ?_)
      refine lv_aload_n hx hb dX4_readSequence_22 rfl (lv_at hl 0 rfl) ?_
      refine lv_iconst (v := 0) hx hb dX4_readSequence_23 (by decide) ?_
      obtain ⟨len_9, fg_9, v1_9, v2_9, v3_9, mp_9, sp_9⟩ := op_0 hI m_8 s_8
      obtain ⟨w1_9, w2_9, w3_9, w4_9, w5_9⟩ := lenw hj v1_9 v2_9 v3_9
      have hz_11 : (0 : Int32).toInt = 0 := by decide
      refine t_putN (D := D) (L := L) (f := f) (ci := 5) (v := .int 0) (ty := .int) (C := RX5) (T := TX5) (N := 4) (host := "JugglingHall") hx hb hts (by decide +kernel) tyX5 tyX5_ok nmX5 hown hK.1 hP hD hS m_8 fg_9 rfl 3 (by decide) (hK.nw (.fieldLinkNest RX4 62 "JugglingHall$Row" "length" "I" "JugglingHall") (by decide +kernel) rfl) (fun _ h9 => h9) rfl (by decide +kernel) rfl rfl (Nat.le_of_ble_eq_true rfl) dX4_readSequence_24 (fun f_10 H locs e9_10 o_10 hP hD hS => ?_)
      have fa_10 : f_10 r_8 = .inr (5, [.int (nI jn), .int (nI (2 * jn)), .ref p_8, .int 0]) := e9_10
      have hI := IN_set (e := .inr (5, [.int (nI jn), .int (nI (2 * jn)), .ref p_8, .int 0])) hI s_8 (mk_0 (by first | assumption | omega) (by rw [show (0 : Int32).toInt = 0 from rfl, Int.zero_mul]; omega) (by first | assumption | omega) (by first | assumption | omega) (by first | assumption | omega)) fa_10 o_10
      have hF := FR_set hF s_8 (show (0 : Nat) ∈ ([0, 1, 13, 14, 34] : List Nat) by decide) o_10
      have hTK_10 : TK g cI f_10 := TK_set (f := f) (by assumption) hG s_8 (show (0 : Nat) ∉ ([14, 31, 32] : List Nat) by decide) o_10
      have fb_12 : f_10 (g 13) = .inr (4, [.int (nI jn), .ref (g 14), .ref (g 12), .ref (g 22), .ref (g 34), .ref (g 23), .ref (g 24), .ref (g 25), .ref (g 26), .int fa_6, .int pl_6]) := f_at o_10 (S_ne (gs_13 hG) s_8 (show (13 : Nat) ≠ 0 by decide)) fg_6
      have fb_13 : f_10 (g 22) = .inl (cR, 6, .inr (.inr (.inr (.inr c_7)))) := f_at o_10 (S_ne (gs_22 hG) s_8 (show (22 : Nat) ≠ 0 by decide)) fg_7
      refine lv_iconst (v := 0) hx hb dX4_readSequence_27 (by decide) ?_
      refine lv_istore_n (lv' := [(3, .int 0), (2, .ref r_8), (0, .ref (g 13)), (1, .int x)]) hx hb dX4_readSequence_28 rfl hl (by decide) rfl (fun ls hl => ?_)
      have loop29 : ∀ (ddloop29 : Nat) (ii : Int32) (f_14 : Nat → va_E) (H : Heap) (locs : List Loc) (ls : Array Slot), (400 - ii.toInt).toNat < ddloop29 → IN jn cI cR cM g L S f_14 → FR S [0, 1, 13, 14, 34] f f_14 → (0 ≤ ii.toInt ∧ ii.toInt ≤ 301) → (TK g cI f_14) → va_P D vwCl (va_pl L f_14) H → va_D A (va_pl L f_14) → va_S A s.heap H locs → lv_has ls 5 [(0, .ref (g 13)), (1, .int x), (2, .ref r_8), (3, .int ii)] → W p l e ({ frames := 5, cells := 0, slots := 0, locals := 158 }) s m args below meth c H locs 0 0 Q (F0 m 29 ls []) := by
        intro ddloop29
        induction ddloop29 with
        | zero =>
          intro ii f_14 H locs ls hdd
          exact absurd hdd (Nat.not_lt_zero _)
        | succ ddloop29 ih29 =>
          intro ii f_14 H locs ls hdd hI hF hi hTK hP hD hS hl
          refine lv_iload_n hx hb dX4_readSequence_29 rfl (lv_at hl 3 rfl) ?_
          refine lv_sipush (v := 300) hx hb dX4_readSequence_30 (by decide) ?_
          refine a_icmp_gt (u := ii.toInt) (v := 300) (tgt := 79) hx hb dX4_readSequence_33 (by decide) (rfl) (by decide) (fun c_15 => ?_) (fun c_15 => ?_)
          · refine lv_iconst (v := 1) hx hb dX4_readSequence_79 (by decide) ?_
            have hz_16 : (1 : Int32).toInt = 1 := by decide
            exact g_zret ((1 : Int32), f_14) hx hb hr hlocks hS (by first | exact Or.inl rfl | exact Or.inr rfl) rfl (⟨hI, hF, show TK g cI f_14 from (by first | assumption | omega), show (1 : Int32).toInt = 0 ∨ (1 : Int32).toInt = 1 from (by first | assumption | omega)⟩) hP hD hQ (Nat.le_of_ble_eq_true rfl) (Nat.le_of_ble_eq_true rfl) dX4_readSequence_80
          · refine lv_iload_n hx hb dX4_readSequence_36 rfl (lv_at hl 3 rfl) ?_
            refine a_if_eq (u := ii.toInt) (tgt := 47) hx hb dX4_readSequence_37 (by decide) (rfl) (fun c_17 => ?_) (fun c_17 => ?_)
            · refine lv_aload_n hx hb dX4_readSequence_47 rfl (lv_at hl 2 rfl) ?_
              obtain ⟨len_18, fg_18, v1_18, v2_18, v3_18, mp_18, sp_18⟩ := op_0 hI m_8 s_8
              obtain ⟨w1_18, w2_18, w3_18, w4_18, w5_18⟩ := lenw hj v1_18 v2_18 v3_18
              refine t_getN (D := D) (L := L) (f := f_14) (ci := 5) (v := .int len_18) (C := RX5) (T := TX5) (N := 4) (host := "JugglingHall") hx hb hts (by decide +kernel) hown hK.1 hP m_8 fg_18 rfl 3 (by decide) (hK.nw (.fieldLinkNest RX4 62 "JugglingHall$Row" "length" "I" "JugglingHall") (by decide +kernel) rfl) (fun _ h9 => h9) rfl dX4_readSequence_48 ?_
              refine lv_istore (lv' := [(4, .int len_18), (0, .ref (g 13)), (1, .int x), (2, .ref r_8), (3, .int ii)]) hx hb dX4_readSequence_51 hl (by decide) rfl (fun ls hl => ?_)
              refine lv_aload_n hx hb dX4_readSequence_53 rfl (lv_at hl 1 rfl) ?_
              refine lv_iload_n hx hb dX4_readSequence_54 rfl (lv_at hl 2 rfl) ?_
              obtain ⟨fa_19, pl_19, fg_19⟩ := op_13 hI (gm_13 hG) (gs_13 hG)
              refine call_p (va_runV (As := [.int x]) (rest := []) ⟨hx, hb, hml, hown, hts⟩ (t_X4_readOne_1 l D cI cR cM _  hj hG hI  (by first | assumption | omega) (by first | assumption | omega) (by first | assumption | omega)) (cwV 1 hts gX4_readSequence_X4_readOne rfl rfl rfl (by decide +kernel) ⟨Nat.le_of_ble_eq_true rfl, Nat.le_of_ble_eq_true rfl⟩) (pre_T hK hP hD (gm_13 hG) fg_19 rfl) rfl rfl hl.1 rfl (lv_room (Nat.le_of_ble_eq_true rfl)) dX4_readSequence_55 ⟨Nat.le_of_ble_eq_true rfl, Nat.le_of_ble_eq_true rfl⟩) hD hS hA (fun u_20 H locs hw hP hD hS => ?_)
              obtain ⟨r_20, f_20⟩ := u_20
              obtain ⟨hI, hF_20, hTK_20, h01_20⟩ : IN jn cI cR cM g L S f_20 ∧ FR S [0, 1, 13, 14, 34] f_14 f_20 ∧ (TK g cI f_20) ∧ (r_20.toInt = 0 ∨ r_20.toInt = 1) := hw
              have hP : va_P D vwCl (va_pl L f_20) H := hP
              have hD : va_D A (va_pl L f_20) := hD
              have hF := FR_tr hF hF_20 (by decide)
              refine a_if_eq (u := r_20.toInt) (tgt := 71) hx hb dX4_readSequence_58 (by decide) (rfl) (fun c_21 => ?_) (fun c_21 => ?_)
              · refine lv_iconst (v := 0) hx hb dX4_readSequence_71 (by decide) ?_
                have hz_22 : (0 : Int32).toInt = 0 := by decide
                exact g_zret ((0 : Int32), f_20) hx hb hr hlocks hS (by first | exact Or.inl rfl | exact Or.inr rfl) rfl (⟨hI, hF, show TK g cI f_20 from (by first | assumption | omega), show (0 : Int32).toInt = 0 ∨ (0 : Int32).toInt = 1 from (by first | assumption | omega)⟩) hP hD hQ (Nat.le_of_ble_eq_true rfl) (Nat.le_of_ble_eq_true rfl) dX4_readSequence_72
              · refine lv_aload_n hx hb dX4_readSequence_61 rfl (lv_at hl 1 rfl) ?_
                refine lv_aload_n hx hb dX4_readSequence_62 rfl (lv_at hl 3 rfl) ?_
                refine lv_iload hx hb dX4_readSequence_63 (lv_at hl 0 rfl) ?_
                obtain ⟨fa_23, pl_23, fg_23⟩ := op_13 hI (gm_13 hG) (gs_13 hG)
                obtain ⟨len_24, fg_24, v1_24, v2_24, v3_24, mp_24, sp_24⟩ := op_0 hI m_8 s_8
                obtain ⟨w1_24, w2_24, w3_24, w4_24, w5_24⟩ := lenw hj v1_24 v2_24 v3_24
                obtain ⟨c_25, fg_25, iv0_25⟩ := op_1 hI mp_9 sp_9
                refine call_p (va_runV (As := [.ref r_8, .int len_18]) (rest := []) ⟨hx, hb, hml, hown, hts⟩ (t_X4_readTimes l D cI cR cM _  hj hG hI m_8 s_8 fg_24 fg_25 (by first | assumption | omega) (by first | assumption | omega)) (cwV 2 hts gX4_readSequence_X4_readTimes rfl rfl rfl (by decide +kernel) ⟨Nat.le_of_ble_eq_true rfl, Nat.le_of_ble_eq_true rfl⟩) (pre_T hK hP hD (gm_13 hG) fg_23 rfl) rfl rfl hl.1 rfl (lv_room (Nat.le_of_ble_eq_true rfl)) dX4_readSequence_65 ⟨Nat.le_of_ble_eq_true rfl, Nat.le_of_ble_eq_true rfl⟩) hD hS hA (fun u_26 H locs hw hP hD hS => ?_)
                obtain ⟨r_26, f_26⟩ := u_26
                obtain ⟨hI, hF_26, hTK_26, h01_26⟩ : IN jn cI cR cM g L S f_26 ∧ FR S [0, 1, 13, 14] f_20 f_26 ∧ (TK g cI f_26) ∧ (r_26.toInt = 0 ∨ r_26.toInt = 1) := hw
                have hP : va_P D vwCl (va_pl L f_26) H := hP
                have hD : va_D A (va_pl L f_26) := hD
                have hF := FR_tr hF hF_26 (by decide)
                refine a_if_ne (u := r_26.toInt) (tgt := 73) hx hb dX4_readSequence_68 (by decide) (rfl) (fun c_27 => ?_) (fun c_27 => ?_)
                · obtain ⟨z_28, q_28, e_28⟩ := i_inc (a := ii.toInt) (1) (rfl) (by decide) (by omega) (by omega)
                  refine lv_iinc (v := z_28) (lv' := [(3, .int z_28), (4, .int len_18), (0, .ref (g 13)), (1, .int x), (2, .ref r_8)]) hx hb dX4_readSequence_73 hl (k := 4) rfl q_28 (by decide) rfl (fun ls hl => ?_)
                  refine lv_goto (tgt := 29) hx hb dX4_readSequence_76 (by decide) ?_
                  exact ih29 z_28 f_26 _ _ _ (by omega) hI hF (by first | assumption | omega) (by first | assumption | omega) hP hD hS (lv_sub hl [2, 3, 4, 0] rfl)
                · refine lv_iconst (v := 0) hx hb dX4_readSequence_71 (by decide) ?_
                  have hz_29 : (0 : Int32).toInt = 0 := by decide
                  exact g_zret ((0 : Int32), f_26) hx hb hr hlocks hS (by first | exact Or.inl rfl | exact Or.inr rfl) rfl (⟨hI, hF, show TK g cI f_26 from (by first | assumption | omega), show (0 : Int32).toInt = 0 ∨ (0 : Int32).toInt = 1 from (by first | assumption | omega)⟩) hP hD hQ (Nat.le_of_ble_eq_true rfl) (Nat.le_of_ble_eq_true rfl) dX4_readSequence_72
            · refine lv_aload_n hx hb dX4_readSequence_40 rfl (lv_at hl 0 rfl) ?_
              obtain ⟨fa_30, pl_30, fg_30⟩ := op_13 hI (gm_13 hG) (gs_13 hG)
              refine roP (va_runV (As := []) (rest := []) ⟨hx, hb, hml, hown, hts⟩ (t_X4_beginsOne l D cI cR cM _  hj hG hI  ) (cwV 0 hts gX4_readSequence_X4_beginsOne rfl rfl rfl (by decide +kernel) ⟨Nat.le_of_ble_eq_true rfl, Nat.le_of_ble_eq_true rfl⟩) (pre_T hK hP hD (gm_13 hG) fg_30 rfl) rfl rfl hl.1 rfl (lv_room (Nat.le_of_ble_eq_true rfl)) dX4_readSequence_41 ⟨Nat.le_of_ble_eq_true rfl, Nat.le_of_ble_eq_true rfl⟩) hS hA hP (fun r_31 H locs hw hP hS => ?_)
              have h01_31 : (r_31.toInt = 0 ∨ r_31.toInt = 1) := hw
              refine a_if_eq (u := r_31.toInt) (tgt := 79) hx hb dX4_readSequence_44 (by decide) (rfl) (fun c_32 => ?_) (fun c_32 => ?_)
              · refine lv_iconst (v := 1) hx hb dX4_readSequence_79 (by decide) ?_
                have hz_33 : (1 : Int32).toInt = 1 := by decide
                exact g_zret ((1 : Int32), f_14) hx hb hr hlocks hS (by first | exact Or.inl rfl | exact Or.inr rfl) rfl (⟨hI, hF, show TK g cI f_14 from (by first | assumption | omega), show (1 : Int32).toInt = 0 ∨ (1 : Int32).toInt = 1 from (by first | assumption | omega)⟩) hP hD hQ (Nat.le_of_ble_eq_true rfl) (Nat.le_of_ble_eq_true rfl) dX4_readSequence_80
              · refine lv_aload_n hx hb dX4_readSequence_47 rfl (lv_at hl 2 rfl) ?_
                obtain ⟨len_34, fg_34, v1_34, v2_34, v3_34, mp_34, sp_34⟩ := op_0 hI m_8 s_8
                obtain ⟨w1_34, w2_34, w3_34, w4_34, w5_34⟩ := lenw hj v1_34 v2_34 v3_34
                refine t_getN (D := D) (L := L) (f := f_14) (ci := 5) (v := .int len_34) (C := RX5) (T := TX5) (N := 4) (host := "JugglingHall") hx hb hts (by decide +kernel) hown hK.1 hP m_8 fg_34 rfl 3 (by decide) (hK.nw (.fieldLinkNest RX4 62 "JugglingHall$Row" "length" "I" "JugglingHall") (by decide +kernel) rfl) (fun _ h9 => h9) rfl dX4_readSequence_48 ?_
                refine lv_istore (lv' := [(4, .int len_34), (0, .ref (g 13)), (1, .int x), (2, .ref r_8), (3, .int ii)]) hx hb dX4_readSequence_51 hl (by decide) rfl (fun ls hl => ?_)
                refine lv_aload_n hx hb dX4_readSequence_53 rfl (lv_at hl 1 rfl) ?_
                refine lv_iload_n hx hb dX4_readSequence_54 rfl (lv_at hl 2 rfl) ?_
                refine call_p (va_runV (As := [.int x]) (rest := []) ⟨hx, hb, hml, hown, hts⟩ (t_X4_readOne_1 l D cI cR cM _  hj hG hI  (by first | assumption | omega) (by first | assumption | omega) (by first | assumption | omega)) (cwV 1 hts gX4_readSequence_X4_readOne rfl rfl rfl (by decide +kernel) ⟨Nat.le_of_ble_eq_true rfl, Nat.le_of_ble_eq_true rfl⟩) (pre_T hK hP hD (gm_13 hG) fg_30 rfl) rfl rfl hl.1 rfl (lv_room (Nat.le_of_ble_eq_true rfl)) dX4_readSequence_55 ⟨Nat.le_of_ble_eq_true rfl, Nat.le_of_ble_eq_true rfl⟩) hD hS hA (fun u_35 H locs hw hP hD hS => ?_)
                obtain ⟨r_35, f_35⟩ := u_35
                obtain ⟨hI, hF_35, hTK_35, h01_35⟩ : IN jn cI cR cM g L S f_35 ∧ FR S [0, 1, 13, 14, 34] f_14 f_35 ∧ (TK g cI f_35) ∧ (r_35.toInt = 0 ∨ r_35.toInt = 1) := hw
                have hP : va_P D vwCl (va_pl L f_35) H := hP
                have hD : va_D A (va_pl L f_35) := hD
                have hF := FR_tr hF hF_35 (by decide)
                refine a_if_eq (u := r_35.toInt) (tgt := 71) hx hb dX4_readSequence_58 (by decide) (rfl) (fun c_36 => ?_) (fun c_36 => ?_)
                · refine lv_iconst (v := 0) hx hb dX4_readSequence_71 (by decide) ?_
                  have hz_37 : (0 : Int32).toInt = 0 := by decide
                  exact g_zret ((0 : Int32), f_35) hx hb hr hlocks hS (by first | exact Or.inl rfl | exact Or.inr rfl) rfl (⟨hI, hF, show TK g cI f_35 from (by first | assumption | omega), show (0 : Int32).toInt = 0 ∨ (0 : Int32).toInt = 1 from (by first | assumption | omega)⟩) hP hD hQ (Nat.le_of_ble_eq_true rfl) (Nat.le_of_ble_eq_true rfl) dX4_readSequence_72
                · refine lv_aload_n hx hb dX4_readSequence_61 rfl (lv_at hl 1 rfl) ?_
                  refine lv_aload_n hx hb dX4_readSequence_62 rfl (lv_at hl 3 rfl) ?_
                  refine lv_iload hx hb dX4_readSequence_63 (lv_at hl 0 rfl) ?_
                  obtain ⟨fa_38, pl_38, fg_38⟩ := op_13 hI (gm_13 hG) (gs_13 hG)
                  obtain ⟨len_39, fg_39, v1_39, v2_39, v3_39, mp_39, sp_39⟩ := op_0 hI m_8 s_8
                  obtain ⟨w1_39, w2_39, w3_39, w4_39, w5_39⟩ := lenw hj v1_39 v2_39 v3_39
                  obtain ⟨c_40, fg_40, iv0_40⟩ := op_1 hI mp_9 sp_9
                  refine call_p (va_runV (As := [.ref r_8, .int len_34]) (rest := []) ⟨hx, hb, hml, hown, hts⟩ (t_X4_readTimes l D cI cR cM _  hj hG hI m_8 s_8 fg_39 fg_40 (by first | assumption | omega) (by first | assumption | omega)) (cwV 2 hts gX4_readSequence_X4_readTimes rfl rfl rfl (by decide +kernel) ⟨Nat.le_of_ble_eq_true rfl, Nat.le_of_ble_eq_true rfl⟩) (pre_T hK hP hD (gm_13 hG) fg_38 rfl) rfl rfl hl.1 rfl (lv_room (Nat.le_of_ble_eq_true rfl)) dX4_readSequence_65 ⟨Nat.le_of_ble_eq_true rfl, Nat.le_of_ble_eq_true rfl⟩) hD hS hA (fun u_41 H locs hw hP hD hS => ?_)
                  obtain ⟨r_41, f_41⟩ := u_41
                  obtain ⟨hI, hF_41, hTK_41, h01_41⟩ : IN jn cI cR cM g L S f_41 ∧ FR S [0, 1, 13, 14] f_35 f_41 ∧ (TK g cI f_41) ∧ (r_41.toInt = 0 ∨ r_41.toInt = 1) := hw
                  have hP : va_P D vwCl (va_pl L f_41) H := hP
                  have hD : va_D A (va_pl L f_41) := hD
                  have hF := FR_tr hF hF_41 (by decide)
                  refine a_if_ne (u := r_41.toInt) (tgt := 73) hx hb dX4_readSequence_68 (by decide) (rfl) (fun c_42 => ?_) (fun c_42 => ?_)
                  · obtain ⟨z_43, q_43, e_43⟩ := i_inc (a := ii.toInt) (1) (rfl) (by decide) (by omega) (by omega)
                    refine lv_iinc (v := z_43) (lv' := [(3, .int z_43), (4, .int len_34), (0, .ref (g 13)), (1, .int x), (2, .ref r_8)]) hx hb dX4_readSequence_73 hl (k := 4) rfl q_43 (by decide) rfl (fun ls hl => ?_)
                    refine lv_goto (tgt := 29) hx hb dX4_readSequence_76 (by decide) ?_
                    exact ih29 z_43 f_41 _ _ _ (by omega) hI hF (by first | assumption | omega) (by first | assumption | omega) hP hD hS (lv_sub hl [2, 3, 4, 0] rfl)
                  · refine lv_iconst (v := 0) hx hb dX4_readSequence_71 (by decide) ?_
                    have hz_44 : (0 : Int32).toInt = 0 := by decide
                    exact g_zret ((0 : Int32), f_41) hx hb hr hlocks hS (by first | exact Or.inl rfl | exact Or.inr rfl) rfl (⟨hI, hF, show TK g cI f_41 from (by first | assumption | omega), show (0 : Int32).toInt = 0 ∨ (0 : Int32).toInt = 1 from (by first | assumption | omega)⟩) hP hD hQ (Nat.le_of_ble_eq_true rfl) (Nat.le_of_ble_eq_true rfl) dX4_readSequence_72
      have hz_45 : (0 : Int32).toInt = 0 := by decide
      exact loop29 ((400 - (0 : Int32).toInt).toNat + 1) (0 : Int32) f_10 _ _ _ (by omega) hI hF (by first | assumption | omega) (by first | assumption | omega) hP hD hS (lv_sub hl [2, 3, 1, 0] rfl)
    · refine lv_aload_n hx hb dX4_readSequence_9 rfl (lv_at hl 0 rfl) ?_
      refine lv_iconst (v := 3) hx hb dX4_readSequence_10 (by decide) ?_
      have hz_46 : (3 : Int32).toInt = 3 := by decide
      obtain ⟨fa_47, pl_47, fg_47⟩ := op_13 hI (gm_13 hG) (gs_13 hG)
      refine call_p (va_runV (As := [.int 3]) (rest := []) ⟨hx, hb, hml, hown, hts⟩ (t_X4_fail l D cI cR cM _  hj hG hI  ) (cwV 1 hts gX4_readSequence_X4_fail rfl rfl rfl (by decide +kernel) ⟨Nat.le_of_ble_eq_true rfl, Nat.le_of_ble_eq_true rfl⟩) (pre_T hK hP hD (gm_13 hG) fg_47 rfl) rfl rfl hl.1 rfl (lv_room (Nat.le_of_ble_eq_true rfl)) dX4_readSequence_11 ⟨Nat.le_of_ble_eq_true rfl, Nat.le_of_ble_eq_true rfl⟩) hD hS hA (fun u_48 H locs hw hP hD hS => ?_)
      obtain ⟨r_48, f_48⟩ := u_48
      obtain ⟨hI, hF_48, h0_48, h01_48⟩ : IN jn cI cR cM g L S f_48 ∧ FR S [13] f f_48 ∧ (r_48.toInt = 0) ∧ (r_48.toInt = 0 ∨ r_48.toInt = 1) := hw
      have hP : va_P D vwCl (va_pl L f_48) H := hP
      have hD : va_D A (va_pl L f_48) := hD
      have hF := FR_tr hF hF_48 (by decide)
      have hTK_48 : TK g cI f_48 := TK_fr (f := f) (by assumption) hG hF_48 (by decide)
      exact g_zret (r_48, f_48) hx hb hr hlocks hS (b01 (by omega)) rfl (⟨hI, hF, show TK g cI f_48 from (by first | assumption | omega), show r_48.toInt = 0 ∨ r_48.toInt = 1 from (by first | assumption | omega)⟩) hP hD hQ (Nat.le_of_ble_eq_true rfl) (Nat.le_of_ble_eq_true rfl) dX4_readSequence_14
set_option maxRecDepth 100000 in
set_option maxHeartbeats 4000000 in
theorem t_X4_readOne_2 (l : Launch) (D : va_G) (cI cR cM : ClassId) (sz : Nat) {jn : Nat} {g : Nat → Nat} {L : List Nat} {S : Sg} {f : Nat → va_E} {x : Int32}  (hj : 1 ≤ jn ∧ jn ≤ 3) (hG : SG g L S) (hI : IN jn cI cR cM g L S f) (hx0 : 0 ≤ x.toInt ∧ x.toInt ≤ 5) (hd : 4 ≤ x.toInt) (hTK : TK g cI f) : Met l yX4_readOne wsX4_readOne ({ frames := 6, cells := 0, slots := 0, locals := 182 }) (P0 D cI cR cM [.ref (g 13), .int x] sz (va_pl L f)) (QG (S := Int32 × (Nat → va_E)) (fun u => some (.int u.1)) (fun u => va_pl L u.2) (fun u => IN jn cI cR cM g L S u.2 ∧ FR S [0, 1, 13, 14, 34] f u.2 ∧ (TK g cI u.2) ∧ (u.1.toInt = 0 ∨ u.1.toInt = 1)) D (va_A (va_pl L f) sz)) 0 0 (va_A (va_pl L f) sz) := by
  refine go (cc := cX4_readOne) (maxL := 3) (ret := (some .boolean)) (by decide +kernel) rfl (Nat.le_of_ble_eq_true rfl) ?_
  intro p e s m below meth c ls args Q hQ hsz hx hb hr hml hts hown hlocks hnm hP hK hD hl
  subst hsz
  have hD := hD.self (sz := s.heap.size)
  generalize hAe : va_A (va_pl L f) s.heap.size = A at hD hQ
  have hA : ∀ q, s.heap.size ≤ q → A q := fun q h => by rw [← hAe]; exact Or.inr h
  have hS : va_S A s.heap s.heap [] := va_S.rf
  have hF : FR S [0, 1, 13, 14, 34] f f := FR_rf
  have hl : lv_has ls 3 [(0, .ref (g 13)), (1, .int x)] := hl
  refine lv_aload_n hx hb dX4_readOne_0 rfl (lv_at hl 0 rfl) ?_
  obtain ⟨fa_1, pl_1, fg_1⟩ := op_13 hI (gm_13 hG) (gs_13 hG)
  refine roP (va_runV (As := []) (rest := []) ⟨hx, hb, hml, hown, hts⟩ (t_X4_beginsOne l D cI cR cM _  hj hG hI  ) (cwV 0 hts gX4_readOne_X4_beginsOne rfl rfl rfl (by decide +kernel) ⟨Nat.le_of_ble_eq_true rfl, Nat.le_of_ble_eq_true rfl⟩) (pre_T hK hP hD (gm_13 hG) fg_1 rfl) rfl rfl hl.1 rfl (lv_room (Nat.le_of_ble_eq_true rfl)) dX4_readOne_1 ⟨Nat.le_of_ble_eq_true rfl, Nat.le_of_ble_eq_true rfl⟩) hS hA hP (fun r_2 H locs hw hP hS => ?_)
  have h01_2 : (r_2.toInt = 0 ∨ r_2.toInt = 1) := hw
  refine a_if_ne (u := r_2.toInt) (tgt := 13) hx hb dX4_readOne_4 (by decide) (rfl) (fun c_3 => ?_) (fun c_3 => ?_)
  · refine lv_aload_n hx hb dX4_readOne_13 rfl (lv_at hl 0 rfl) ?_
    refine t_get (D := D) (L := L) (f := f) (ci := 4) (v := .ref (g 14)) (C := RX4) (T := TX4) (N := 11) hx hb hts (by decide +kernel) hown hK.1 hP (gm_13 hG) fg_1 rfl 1 (by decide) (hts (.fieldLink RX4 41 "JugglingHall$Reader" "tokens" "LJugglingHall$Tokens;") (by decide +kernel)) (fun _ h9 => h9) rfl dX4_readOne_14 ?_
    obtain ⟨cnt_4, nx_4, kd_4, vl_4, st_4, ls_4, fg_4, iv0_4, iv1_4, iv2_4⟩ := op_14 hI (gm_14 hG) (gs_14 hG)
    refine t_getN (D := D) (L := L) (f := f) (ci := 8) (v := .int kd_4) (C := RX8) (T := TX8) (N := 10) (host := "JugglingHall") hx hb hts (by decide +kernel) hown hK.1 hP (gm_14 hG) fg_4 rfl 6 (by decide) (hK.nw (.fieldLinkNest RX4 70 "JugglingHall$Tokens" "kind" "I" "JugglingHall") (by decide +kernel) rfl) (fun _ h9 => h9) rfl dX4_readOne_17 ?_
    refine lv_istore_n (lv' := [(2, .int kd_4), (0, .ref (g 13)), (1, .int x)]) hx hb dX4_readOne_20 rfl hl (by decide) rfl (fun ls hl => ?_)
    refine lv_iload_n hx hb dX4_readOne_21 rfl (lv_at hl 0 rfl) ?_
    have hu_5 : kd_4.toInt = kd_4.toInt := rfl
    rcases (show (kd_4.toInt = 2) ∨ (kd_4.toInt = 3) ∨ (kd_4.toInt = 60) ∨ (kd_4.toInt = 91) ∨ (kd_4.toInt ≠ 2 ∧ kd_4.toInt ≠ 3 ∧ kd_4.toInt ≠ 60 ∧ kd_4.toInt ≠ 91) by omega) with c_5 | c_5 | c_5 | c_5 | c_5
    · refine lv_lookup (off := 53) (tgt := 75) hx hb dX4_readOne_22 (by decide) (by rw [hu_5, c_5]; decide) (by decide) ?_
      refine lv_aload_n hx hb dX4_readOne_75 rfl (lv_at hl 1 rfl) ?_
      refine lv_aload_n hx hb dX4_readOne_76 rfl (lv_at hl 1 rfl) ?_
      refine t_get (D := D) (L := L) (f := f) (ci := 4) (v := .ref (g 22)) (C := RX4) (T := TX4) (N := 11) hx hb hts (by decide +kernel) hown hK.1 hP (gm_13 hG) fg_1 rfl 3 (by decide) (hts (.fieldLink RX4 13 "JugglingHall$Reader" "levels" "[LJugglingHall$Row;") (by decide +kernel)) (fun _ h9 => h9) rfl dX4_readOne_77 ?_
      refine lv_iload_n hx hb dX4_readOne_80 rfl (lv_at hl 2 rfl) ?_
      obtain ⟨c_6, fg_6, iv0_6⟩ := op_22 hI (gm_22 hG) (gs_22 hG)
      refine t_aald (L := L) (f := f) (y := c_6) (u := x.toInt) hx hb hK.1 hP (gm_22 hG) 1 fg_6 rfl dX4_readOne_81 (rfl) (by omega) (fun w_7 q_7 => ?_)
      obtain ⟨r_7, p_7, n_7, er_7, m_7, s_7⟩ := iv0_6 x.toInt (by omega) (by omega)
      have q_7 := q_7.trans er_7
      subst q_7
      refine W.eq (g2 := F0 m 82 ls [.ref r_7, .ref (g 13)]) rfl ?_
      obtain ⟨len_8, fg_8, v1_8, v2_8, v3_8, mp_8, sp_8⟩ := op_0 hI m_7 s_7
      obtain ⟨w1_8, w2_8, w3_8, w4_8, w5_8⟩ := lenw hj v1_8 v2_8 v3_8
      obtain ⟨c_9, fg_9, iv0_9⟩ := op_1 hI mp_8 sp_8
      refine call_p (va_runV (As := [.ref r_7]) (rest := []) ⟨hx, hb, hml, hown, hts⟩ (t_X4_readBeat l D cI cR cM _  hj hG hI m_7 s_7 fg_8 fg_9 (by first | assumption | omega)) (cwV 1 hts gX4_readOne_X4_readBeat rfl rfl rfl (by decide +kernel) ⟨Nat.le_of_ble_eq_true rfl, Nat.le_of_ble_eq_true rfl⟩) (pre_T hK hP hD (gm_13 hG) fg_1 rfl) rfl rfl hl.1 rfl (lv_room (Nat.le_of_ble_eq_true rfl)) dX4_readOne_82 ⟨Nat.le_of_ble_eq_true rfl, Nat.le_of_ble_eq_true rfl⟩) hD hS hA (fun u_10 H locs hw hP hD hS => ?_)
      obtain ⟨r_10, f_10⟩ := u_10
      obtain ⟨hI, hF_10, hTK_10, h01_10⟩ : IN jn cI cR cM g L S f_10 ∧ FR S [0, 1, 13, 14] f f_10 ∧ (TK g cI f_10) ∧ (r_10.toInt = 0 ∨ r_10.toInt = 1) := hw
      have hP : va_P D vwCl (va_pl L f_10) H := hP
      have hD : va_D A (va_pl L f_10) := hD
      have hF := FR_tr hF hF_10 (by decide)
      have fb_11 : f_10 (g 22) = .inl (cR, 6, .inr (.inr (.inr (.inr c_6)))) := FR_at hF_10 (gs_22 hG) (show (22 : Nat) ∉ ([0, 1, 13, 14] : List Nat) by decide) fg_6
      exact g_zret (r_10, f_10) hx hb hr hlocks hS (b01 (by omega)) rfl (⟨hI, hF, show TK g cI f_10 from (by first | assumption | omega), show r_10.toInt = 0 ∨ r_10.toInt = 1 from (by first | assumption | omega)⟩) hP hD hQ (Nat.le_of_ble_eq_true rfl) (Nat.le_of_ble_eq_true rfl) dX4_readOne_85
    · refine lv_lookup (off := 42) (tgt := 64) hx hb dX4_readOne_22 (by decide) (by rw [hu_5, c_5]; decide) (by decide) ?_
      refine lv_aload_n hx hb dX4_readOne_64 rfl (lv_at hl 1 rfl) ?_
      refine lv_aload_n hx hb dX4_readOne_65 rfl (lv_at hl 1 rfl) ?_
      refine t_get (D := D) (L := L) (f := f) (ci := 4) (v := .ref (g 22)) (C := RX4) (T := TX4) (N := 11) hx hb hts (by decide +kernel) hown hK.1 hP (gm_13 hG) fg_1 rfl 3 (by decide) (hts (.fieldLink RX4 13 "JugglingHall$Reader" "levels" "[LJugglingHall$Row;") (by decide +kernel)) (fun _ h9 => h9) rfl dX4_readOne_66 ?_
      refine lv_iload_n hx hb dX4_readOne_69 rfl (lv_at hl 2 rfl) ?_
      obtain ⟨c_12, fg_12, iv0_12⟩ := op_22 hI (gm_22 hG) (gs_22 hG)
      refine t_aald (L := L) (f := f) (y := c_12) (u := x.toInt) hx hb hK.1 hP (gm_22 hG) 1 fg_12 rfl dX4_readOne_70 (rfl) (by omega) (fun w_13 q_13 => ?_)
      obtain ⟨r_13, p_13, n_13, er_13, m_13, s_13⟩ := iv0_12 x.toInt (by omega) (by omega)
      have q_13 := q_13.trans er_13
      subst q_13
      refine W.eq (g2 := F0 m 71 ls [.ref r_13, .ref (g 13)]) rfl ?_
      obtain ⟨len_14, fg_14, v1_14, v2_14, v3_14, mp_14, sp_14⟩ := op_0 hI m_13 s_13
      obtain ⟨w1_14, w2_14, w3_14, w4_14, w5_14⟩ := lenw hj v1_14 v2_14 v3_14
      obtain ⟨c_15, fg_15, iv0_15⟩ := op_1 hI mp_14 sp_14
      refine call_p (va_runV (As := [.ref r_13]) (rest := []) ⟨hx, hb, hml, hown, hts⟩ (t_X4_readLetter l D cI cR cM _  hj hG hI m_13 s_13 fg_14 fg_15 (by first | assumption | omega)) (cwV 1 hts gX4_readOne_X4_readLetter rfl rfl rfl (by decide +kernel) ⟨Nat.le_of_ble_eq_true rfl, Nat.le_of_ble_eq_true rfl⟩) (pre_T hK hP hD (gm_13 hG) fg_1 rfl) rfl rfl hl.1 rfl (lv_room (Nat.le_of_ble_eq_true rfl)) dX4_readOne_71 ⟨Nat.le_of_ble_eq_true rfl, Nat.le_of_ble_eq_true rfl⟩) hD hS hA (fun u_16 H locs hw hP hD hS => ?_)
      obtain ⟨r_16, f_16⟩ := u_16
      obtain ⟨hI, hF_16, hTK_16, h01_16⟩ : IN jn cI cR cM g L S f_16 ∧ FR S [0, 1, 13, 14] f f_16 ∧ (TK g cI f_16) ∧ (r_16.toInt = 0 ∨ r_16.toInt = 1) := hw
      have hP : va_P D vwCl (va_pl L f_16) H := hP
      have hD : va_D A (va_pl L f_16) := hD
      have hF := FR_tr hF hF_16 (by decide)
      have fb_17 : f_16 (g 22) = .inl (cR, 6, .inr (.inr (.inr (.inr c_12)))) := FR_at hF_16 (gs_22 hG) (show (22 : Nat) ∉ ([0, 1, 13, 14] : List Nat) by decide) fg_12
      exact g_zret (r_16, f_16) hx hb hr hlocks hS (b01 (by omega)) rfl (⟨hI, hF, show TK g cI f_16 from (by first | assumption | omega), show r_16.toInt = 0 ∨ r_16.toInt = 1 from (by first | assumption | omega)⟩) hP hD hQ (Nat.le_of_ble_eq_true rfl) (Nat.le_of_ble_eq_true rfl) dX4_readOne_74
    · refine lv_lookup (off := 53) (tgt := 75) hx hb dX4_readOne_22 (by decide) (by rw [hu_5, c_5]; decide) (by decide) ?_
      refine lv_aload_n hx hb dX4_readOne_75 rfl (lv_at hl 1 rfl) ?_
      refine lv_aload_n hx hb dX4_readOne_76 rfl (lv_at hl 1 rfl) ?_
      refine t_get (D := D) (L := L) (f := f) (ci := 4) (v := .ref (g 22)) (C := RX4) (T := TX4) (N := 11) hx hb hts (by decide +kernel) hown hK.1 hP (gm_13 hG) fg_1 rfl 3 (by decide) (hts (.fieldLink RX4 13 "JugglingHall$Reader" "levels" "[LJugglingHall$Row;") (by decide +kernel)) (fun _ h9 => h9) rfl dX4_readOne_77 ?_
      refine lv_iload_n hx hb dX4_readOne_80 rfl (lv_at hl 2 rfl) ?_
      obtain ⟨c_18, fg_18, iv0_18⟩ := op_22 hI (gm_22 hG) (gs_22 hG)
      refine t_aald (L := L) (f := f) (y := c_18) (u := x.toInt) hx hb hK.1 hP (gm_22 hG) 1 fg_18 rfl dX4_readOne_81 (rfl) (by omega) (fun w_19 q_19 => ?_)
      obtain ⟨r_19, p_19, n_19, er_19, m_19, s_19⟩ := iv0_18 x.toInt (by omega) (by omega)
      have q_19 := q_19.trans er_19
      subst q_19
      refine W.eq (g2 := F0 m 82 ls [.ref r_19, .ref (g 13)]) rfl ?_
      obtain ⟨len_20, fg_20, v1_20, v2_20, v3_20, mp_20, sp_20⟩ := op_0 hI m_19 s_19
      obtain ⟨w1_20, w2_20, w3_20, w4_20, w5_20⟩ := lenw hj v1_20 v2_20 v3_20
      obtain ⟨c_21, fg_21, iv0_21⟩ := op_1 hI mp_20 sp_20
      refine call_p (va_runV (As := [.ref r_19]) (rest := []) ⟨hx, hb, hml, hown, hts⟩ (t_X4_readBeat l D cI cR cM _  hj hG hI m_19 s_19 fg_20 fg_21 (by first | assumption | omega)) (cwV 1 hts gX4_readOne_X4_readBeat rfl rfl rfl (by decide +kernel) ⟨Nat.le_of_ble_eq_true rfl, Nat.le_of_ble_eq_true rfl⟩) (pre_T hK hP hD (gm_13 hG) fg_1 rfl) rfl rfl hl.1 rfl (lv_room (Nat.le_of_ble_eq_true rfl)) dX4_readOne_82 ⟨Nat.le_of_ble_eq_true rfl, Nat.le_of_ble_eq_true rfl⟩) hD hS hA (fun u_22 H locs hw hP hD hS => ?_)
      obtain ⟨r_22, f_22⟩ := u_22
      obtain ⟨hI, hF_22, hTK_22, h01_22⟩ : IN jn cI cR cM g L S f_22 ∧ FR S [0, 1, 13, 14] f f_22 ∧ (TK g cI f_22) ∧ (r_22.toInt = 0 ∨ r_22.toInt = 1) := hw
      have hP : va_P D vwCl (va_pl L f_22) H := hP
      have hD : va_D A (va_pl L f_22) := hD
      have hF := FR_tr hF hF_22 (by decide)
      have fb_23 : f_22 (g 22) = .inl (cR, 6, .inr (.inr (.inr (.inr c_18)))) := FR_at hF_22 (gs_22 hG) (show (22 : Nat) ∉ ([0, 1, 13, 14] : List Nat) by decide) fg_18
      exact g_zret (r_22, f_22) hx hb hr hlocks hS (b01 (by omega)) rfl (⟨hI, hF, show TK g cI f_22 from (by first | assumption | omega), show r_22.toInt = 0 ∨ r_22.toInt = 1 from (by first | assumption | omega)⟩) hP hD hQ (Nat.le_of_ble_eq_true rfl) (Nat.le_of_ble_eq_true rfl) dX4_readOne_85
    · refine lv_lookup (off := 53) (tgt := 75) hx hb dX4_readOne_22 (by decide) (by rw [hu_5, c_5]; decide) (by decide) ?_
      refine lv_aload_n hx hb dX4_readOne_75 rfl (lv_at hl 1 rfl) ?_
      refine lv_aload_n hx hb dX4_readOne_76 rfl (lv_at hl 1 rfl) ?_
      refine t_get (D := D) (L := L) (f := f) (ci := 4) (v := .ref (g 22)) (C := RX4) (T := TX4) (N := 11) hx hb hts (by decide +kernel) hown hK.1 hP (gm_13 hG) fg_1 rfl 3 (by decide) (hts (.fieldLink RX4 13 "JugglingHall$Reader" "levels" "[LJugglingHall$Row;") (by decide +kernel)) (fun _ h9 => h9) rfl dX4_readOne_77 ?_
      refine lv_iload_n hx hb dX4_readOne_80 rfl (lv_at hl 2 rfl) ?_
      obtain ⟨c_24, fg_24, iv0_24⟩ := op_22 hI (gm_22 hG) (gs_22 hG)
      refine t_aald (L := L) (f := f) (y := c_24) (u := x.toInt) hx hb hK.1 hP (gm_22 hG) 1 fg_24 rfl dX4_readOne_81 (rfl) (by omega) (fun w_25 q_25 => ?_)
      obtain ⟨r_25, p_25, n_25, er_25, m_25, s_25⟩ := iv0_24 x.toInt (by omega) (by omega)
      have q_25 := q_25.trans er_25
      subst q_25
      refine W.eq (g2 := F0 m 82 ls [.ref r_25, .ref (g 13)]) rfl ?_
      obtain ⟨len_26, fg_26, v1_26, v2_26, v3_26, mp_26, sp_26⟩ := op_0 hI m_25 s_25
      obtain ⟨w1_26, w2_26, w3_26, w4_26, w5_26⟩ := lenw hj v1_26 v2_26 v3_26
      obtain ⟨c_27, fg_27, iv0_27⟩ := op_1 hI mp_26 sp_26
      refine call_p (va_runV (As := [.ref r_25]) (rest := []) ⟨hx, hb, hml, hown, hts⟩ (t_X4_readBeat l D cI cR cM _  hj hG hI m_25 s_25 fg_26 fg_27 (by first | assumption | omega)) (cwV 1 hts gX4_readOne_X4_readBeat rfl rfl rfl (by decide +kernel) ⟨Nat.le_of_ble_eq_true rfl, Nat.le_of_ble_eq_true rfl⟩) (pre_T hK hP hD (gm_13 hG) fg_1 rfl) rfl rfl hl.1 rfl (lv_room (Nat.le_of_ble_eq_true rfl)) dX4_readOne_82 ⟨Nat.le_of_ble_eq_true rfl, Nat.le_of_ble_eq_true rfl⟩) hD hS hA (fun u_28 H locs hw hP hD hS => ?_)
      obtain ⟨r_28, f_28⟩ := u_28
      obtain ⟨hI, hF_28, hTK_28, h01_28⟩ : IN jn cI cR cM g L S f_28 ∧ FR S [0, 1, 13, 14] f f_28 ∧ (TK g cI f_28) ∧ (r_28.toInt = 0 ∨ r_28.toInt = 1) := hw
      have hP : va_P D vwCl (va_pl L f_28) H := hP
      have hD : va_D A (va_pl L f_28) := hD
      have hF := FR_tr hF hF_28 (by decide)
      have fb_29 : f_28 (g 22) = .inl (cR, 6, .inr (.inr (.inr (.inr c_24)))) := FR_at hF_28 (gs_22 hG) (show (22 : Nat) ∉ ([0, 1, 13, 14] : List Nat) by decide) fg_24
      exact g_zret (r_28, f_28) hx hb hr hlocks hS (b01 (by omega)) rfl (⟨hI, hF, show TK g cI f_28 from (by first | assumption | omega), show r_28.toInt = 0 ∨ r_28.toInt = 1 from (by first | assumption | omega)⟩) hP hD hQ (Nat.le_of_ble_eq_true rfl) (Nat.le_of_ble_eq_true rfl) dX4_readOne_85
    · refine lv_lookup (off := 64) (tgt := 86) hx hb dX4_readOne_22 (by decide) (by rw [hu_5]; exact (show Op.lookupswitch.offset [(2, 53), (3, 42), (60, 53), (91, 53)] (64) kd_4.toInt = (64) from lkc (by omega) (lkc (by omega) (lkc (by omega) (lkc (by omega) (lkn _ _)))))) (by decide) ?_
      refine lv_aload_n hx hb dX4_readOne_86 rfl (lv_at hl 1 rfl) ?_
      refine lv_iload_n hx hb dX4_readOne_87 rfl (lv_at hl 0 rfl) ?_
      refine lv_iload_n hx hb dX4_readOne_88 rfl (lv_at hl 2 rfl) ?_
      refine call_p (va_runV (As := [.int kd_4, .int x]) (rest := []) ⟨hx, hb, hml, hown, hts⟩ (t_X4_openGroup l D cI cR cM _  hj hG hI  (by first | assumption | omega) (by first | assumption | omega)) (cwV 2 hts gX4_readOne_X4_openGroup rfl rfl rfl (by decide +kernel) ⟨Nat.le_of_ble_eq_true rfl, Nat.le_of_ble_eq_true rfl⟩) (pre_T hK hP hD (gm_13 hG) fg_1 rfl) rfl rfl hl.1 rfl (lv_room (Nat.le_of_ble_eq_true rfl)) dX4_readOne_89 ⟨Nat.le_of_ble_eq_true rfl, Nat.le_of_ble_eq_true rfl⟩) hD hS hA (fun u_30 H locs hw hP hD hS => ?_)
      obtain ⟨r_30, f_30⟩ := u_30
      obtain ⟨hI, hF_30, hd_30, hTK_30, h01_30⟩ : IN jn cI cR cM g L S f_30 ∧ FR S [13, 14, 34] f f_30 ∧ (r_30.toInt = 1 → x.toInt ≤ 4) ∧ (TK g cI f_30) ∧ (r_30.toInt = 0 ∨ r_30.toInt = 1) := hw
      have hP : va_P D vwCl (va_pl L f_30) H := hP
      have hD : va_D A (va_pl L f_30) := hD
      have hF := FR_tr hF hF_30 (by decide)
      refine a_if_eq (u := r_30.toInt) (tgt := 127) hx hb dX4_readOne_92 (by decide) (rfl) (fun c_31 => ?_) (fun c_31 => ?_)
      · refine lv_iconst (v := 0) hx hb dX4_readOne_127 (by decide) ?_
        have hz_32 : (0 : Int32).toInt = 0 := by decide
        exact g_zret ((0 : Int32), f_30) hx hb hr hlocks hS (by first | exact Or.inl rfl | exact Or.inr rfl) rfl (⟨hI, hF, show TK g cI f_30 from (by first | assumption | omega), show (0 : Int32).toInt = 0 ∨ (0 : Int32).toInt = 1 from (by first | assumption | omega)⟩) hP hD hQ (Nat.le_of_ble_eq_true rfl) (Nat.le_of_ble_eq_true rfl) dX4_readOne_128
      · refine lv_aload_n hx hb dX4_readOne_95 rfl (lv_at hl 1 rfl) ?_
        refine lv_iload_n hx hb dX4_readOne_96 rfl (lv_at hl 2 rfl) ?_
        refine lv_iconst (v := 1) hx hb dX4_readOne_97 (by decide) ?_
        refine a_iadd (u := x.toInt) (v := 1) hx hb dX4_readOne_98 (rfl) (by decide) (by omega) (fun z_33 e_33 => ?_)
        obtain ⟨fa_34, pl_34, fg_34⟩ := op_13 hI (gm_13 hG) (gs_13 hG)
        refine call_p (va_runV (As := [.int z_33]) (rest := []) ⟨hx, hb, hml, hown, hts⟩ (t_X4_readSequence_1 l D cI cR cM _  hj hG hI  (by first | assumption | omega) (by first | assumption | omega)) (cwV 1 hts gX4_readOne_X4_readSequence rfl rfl rfl (by decide +kernel) ⟨Nat.le_of_ble_eq_true rfl, Nat.le_of_ble_eq_true rfl⟩) (pre_T hK hP hD (gm_13 hG) fg_34 rfl) rfl rfl hl.1 rfl (lv_room (Nat.le_of_ble_eq_true rfl)) dX4_readOne_99 ⟨Nat.le_of_ble_eq_true rfl, Nat.le_of_ble_eq_true rfl⟩) hD hS hA (fun u_35 H locs hw hP hD hS => ?_)
        obtain ⟨r_35, f_35⟩ := u_35
        obtain ⟨hI, hF_35, hTK_35, h01_35⟩ : IN jn cI cR cM g L S f_35 ∧ FR S [0, 1, 13, 14, 34] f_30 f_35 ∧ (TK g cI f_35) ∧ (r_35.toInt = 0 ∨ r_35.toInt = 1) := hw
        have hP : va_P D vwCl (va_pl L f_35) H := hP
        have hD : va_D A (va_pl L f_35) := hD
        have hF := FR_tr hF hF_35 (by decide)
        refine a_if_eq (u := r_35.toInt) (tgt := 127) hx hb dX4_readOne_102 (by decide) (rfl) (fun c_36 => ?_) (fun c_36 => ?_)
        · refine lv_iconst (v := 0) hx hb dX4_readOne_127 (by decide) ?_
          have hz_37 : (0 : Int32).toInt = 0 := by decide
          exact g_zret ((0 : Int32), f_35) hx hb hr hlocks hS (by first | exact Or.inl rfl | exact Or.inr rfl) rfl (⟨hI, hF, show TK g cI f_35 from (by first | assumption | omega), show (0 : Int32).toInt = 0 ∨ (0 : Int32).toInt = 1 from (by first | assumption | omega)⟩) hP hD hQ (Nat.le_of_ble_eq_true rfl) (Nat.le_of_ble_eq_true rfl) dX4_readOne_128
        · refine lv_aload_n hx hb dX4_readOne_105 rfl (lv_at hl 1 rfl) ?_
          refine lv_bipush (v := 41) hx hb dX4_readOne_106 (by decide) ?_
          have hz_38 : (41 : Int32).toInt = 41 := by decide
          obtain ⟨fa_39, pl_39, fg_39⟩ := op_13 hI (gm_13 hG) (gs_13 hG)
          refine call_p (va_runV (As := [.int 41]) (rest := []) ⟨hx, hb, hml, hown, hts⟩ (t_X4_expect l D cI cR cM _  hj hG hI  (by first | assumption | omega)) (cwV 1 hts gX4_readOne_X4_expect rfl rfl rfl (by decide +kernel) ⟨Nat.le_of_ble_eq_true rfl, Nat.le_of_ble_eq_true rfl⟩) (pre_T hK hP hD (gm_13 hG) fg_39 rfl) rfl rfl hl.1 rfl (lv_room (Nat.le_of_ble_eq_true rfl)) dX4_readOne_108 ⟨Nat.le_of_ble_eq_true rfl, Nat.le_of_ble_eq_true rfl⟩) hD hS hA (fun u_40 H locs hw hP hD hS => ?_)
          obtain ⟨r_40, f_40⟩ := u_40
          obtain ⟨hI, hF_40, he_40, hTK_40, h01_40⟩ : IN jn cI cR cM g L S f_40 ∧ FR S [13, 14] f_35 f_40 ∧ (∀ cnt9 nx9 kd9 vl9 st9 ls9, f_35 (g 14) = .inr (8, [.ref (g 11), .ref (g 31), .ref (g 32), .ref (g 33), .int cnt9, .int nx9, .int kd9, .int vl9, .int st9, .int ls9]) → r_40.toInt = 1 → kd9.toInt = (41 : Int32).toInt) ∧ (TK g cI f_40) ∧ (r_40.toInt = 0 ∨ r_40.toInt = 1) := hw
          have hP : va_P D vwCl (va_pl L f_40) H := hP
          have hD : va_D A (va_pl L f_40) := hD
          have hF := FR_tr hF hF_40 (by decide)
          refine a_if_eq (u := r_40.toInt) (tgt := 127) hx hb dX4_readOne_111 (by decide) (rfl) (fun c_41 => ?_) (fun c_41 => ?_)
          · refine lv_iconst (v := 0) hx hb dX4_readOne_127 (by decide) ?_
            have hz_42 : (0 : Int32).toInt = 0 := by decide
            exact g_zret ((0 : Int32), f_40) hx hb hr hlocks hS (by first | exact Or.inl rfl | exact Or.inr rfl) rfl (⟨hI, hF, show TK g cI f_40 from (by first | assumption | omega), show (0 : Int32).toInt = 0 ∨ (0 : Int32).toInt = 1 from (by first | assumption | omega)⟩) hP hD hQ (Nat.le_of_ble_eq_true rfl) (Nat.le_of_ble_eq_true rfl) dX4_readOne_128
          · refine lv_aload_n hx hb dX4_readOne_114 rfl (lv_at hl 1 rfl) ?_
            refine lv_iload_n hx hb dX4_readOne_115 rfl (lv_at hl 0 rfl) ?_
            refine lv_iload_n hx hb dX4_readOne_116 rfl (lv_at hl 2 rfl) ?_
            obtain ⟨fa_43, pl_43, fg_43⟩ := op_13 hI (gm_13 hG) (gs_13 hG)
            refine call_p (va_runV (As := [.int kd_4, .int x]) (rest := []) ⟨hx, hb, hml, hown, hts⟩ (t_X4_joinGroup l D cI cR cM _  hj hG hI  (by first | assumption | omega) (by first | assumption | omega)) (cwV 2 hts gX4_readOne_X4_joinGroup rfl rfl rfl (by decide +kernel) ⟨Nat.le_of_ble_eq_true rfl, Nat.le_of_ble_eq_true rfl⟩) (pre_T hK hP hD (gm_13 hG) fg_43 rfl) rfl rfl hl.1 rfl (lv_room (Nat.le_of_ble_eq_true rfl)) dX4_readOne_117 ⟨Nat.le_of_ble_eq_true rfl, Nat.le_of_ble_eq_true rfl⟩) hD hS hA (fun u_44 H locs hw hP hD hS => ?_)
            obtain ⟨r_44, f_44⟩ := u_44
            obtain ⟨hI, hF_44, hTK_44, h01_44⟩ : IN jn cI cR cM g L S f_44 ∧ FR S [0, 1, 13] f_40 f_44 ∧ (TK g cI f_44) ∧ (r_44.toInt = 0 ∨ r_44.toInt = 1) := hw
            have hP : va_P D vwCl (va_pl L f_44) H := hP
            have hD : va_D A (va_pl L f_44) := hD
            have hF := FR_tr hF hF_44 (by decide)
            refine a_if_eq (u := r_44.toInt) (tgt := 127) hx hb dX4_readOne_120 (by decide) (rfl) (fun c_45 => ?_) (fun c_45 => ?_)
            · refine lv_iconst (v := 0) hx hb dX4_readOne_127 (by decide) ?_
              have hz_46 : (0 : Int32).toInt = 0 := by decide
              exact g_zret ((0 : Int32), f_44) hx hb hr hlocks hS (by first | exact Or.inl rfl | exact Or.inr rfl) rfl (⟨hI, hF, show TK g cI f_44 from (by first | assumption | omega), show (0 : Int32).toInt = 0 ∨ (0 : Int32).toInt = 1 from (by first | assumption | omega)⟩) hP hD hQ (Nat.le_of_ble_eq_true rfl) (Nat.le_of_ble_eq_true rfl) dX4_readOne_128
            · refine lv_iconst (v := 1) hx hb dX4_readOne_123 (by decide) ?_
              refine lv_goto (tgt := 128) hx hb dX4_readOne_124 (by decide) ?_
              have hz_47 : (1 : Int32).toInt = 1 := by decide
              exact g_zret ((1 : Int32), f_44) hx hb hr hlocks hS (by first | exact Or.inl rfl | exact Or.inr rfl) rfl (⟨hI, hF, show TK g cI f_44 from (by first | assumption | omega), show (1 : Int32).toInt = 0 ∨ (1 : Int32).toInt = 1 from (by first | assumption | omega)⟩) hP hD hQ (Nat.le_of_ble_eq_true rfl) (Nat.le_of_ble_eq_true rfl) dX4_readOne_128
  · refine lv_aload_n hx hb dX4_readOne_7 rfl (lv_at hl 0 rfl) ?_
    refine lv_iconst (v := 1) hx hb dX4_readOne_8 (by decide) ?_
    have hz_48 : (1 : Int32).toInt = 1 := by decide
    refine call_p (va_runV (As := [.int 1]) (rest := []) ⟨hx, hb, hml, hown, hts⟩ (t_X4_fail l D cI cR cM _  hj hG hI  ) (cwV 1 hts gX4_readOne_X4_fail rfl rfl rfl (by decide +kernel) ⟨Nat.le_of_ble_eq_true rfl, Nat.le_of_ble_eq_true rfl⟩) (pre_T hK hP hD (gm_13 hG) fg_1 rfl) rfl rfl hl.1 rfl (lv_room (Nat.le_of_ble_eq_true rfl)) dX4_readOne_9 ⟨Nat.le_of_ble_eq_true rfl, Nat.le_of_ble_eq_true rfl⟩) hD hS hA (fun u_49 H locs hw hP hD hS => ?_)
    obtain ⟨r_49, f_49⟩ := u_49
    obtain ⟨hI, hF_49, h0_49, h01_49⟩ : IN jn cI cR cM g L S f_49 ∧ FR S [13] f f_49 ∧ (r_49.toInt = 0) ∧ (r_49.toInt = 0 ∨ r_49.toInt = 1) := hw
    have hP : va_P D vwCl (va_pl L f_49) H := hP
    have hD : va_D A (va_pl L f_49) := hD
    have hF := FR_tr hF hF_49 (by decide)
    have hTK_49 : TK g cI f_49 := TK_fr (f := f) (by assumption) hG hF_49 (by decide)
    exact g_zret (r_49, f_49) hx hb hr hlocks hS (b01 (by omega)) rfl (⟨hI, hF, show TK g cI f_49 from (by first | assumption | omega), show r_49.toInt = 0 ∨ r_49.toInt = 1 from (by first | assumption | omega)⟩) hP hD hQ (Nat.le_of_ble_eq_true rfl) (Nat.le_of_ble_eq_true rfl) dX4_readOne_12
set_option maxRecDepth 100000 in
set_option maxHeartbeats 4000000 in
theorem t_X4_readSequence_2 (l : Launch) (D : va_G) (cI cR cM : ClassId) (sz : Nat) {jn : Nat} {g : Nat → Nat} {L : List Nat} {S : Sg} {f : Nat → va_E} {x : Int32}  (hj : 1 ≤ jn ∧ jn ≤ 3) (hG : SG g L S) (hI : IN jn cI cR cM g L S f) (hd : 4 ≤ x.toInt) (hTK : TK g cI f) : Met l yX4_readSequence wsX4_readSequence ({ frames := 7, cells := 0, slots := 0, locals := 204 }) (P0 D cI cR cM [.ref (g 13), .int x] sz (va_pl L f)) (QG (S := Int32 × (Nat → va_E)) (fun u => some (.int u.1)) (fun u => va_pl L u.2) (fun u => IN jn cI cR cM g L S u.2 ∧ FR S [0, 1, 13, 14, 34] f u.2 ∧ (TK g cI u.2) ∧ (u.1.toInt = 0 ∨ u.1.toInt = 1)) D (va_A (va_pl L f) sz)) 0 0 (va_A (va_pl L f) sz) := by
  refine go (cc := cX4_readSequence) (maxL := 5) (ret := (some .boolean)) (by decide +kernel) rfl (Nat.le_of_ble_eq_true rfl) ?_
  intro p e s m below meth c ls args Q hQ hsz hx hb hr hml hts hown hlocks hnm hP hK hD hl
  subst hsz
  have hD := hD.self (sz := s.heap.size)
  generalize hAe : va_A (va_pl L f) s.heap.size = A at hD hQ
  have hA : ∀ q, s.heap.size ≤ q → A q := fun q h => by rw [← hAe]; exact Or.inr h
  have hS : va_S A s.heap s.heap [] := va_S.rf
  have hF : FR S [0, 1, 13, 14, 34] f f := FR_rf
  have hl : lv_has ls 5 [(0, .ref (g 13)), (1, .int x)] := hl
  refine lv_iload_n hx hb dX4_readSequence_0 rfl (lv_at hl 1 rfl) ?_
  refine a_if_lt (u := x.toInt) (tgt := 9) hx hb dX4_readSequence_1 (by decide) (rfl) (fun c_1 => ?_) (fun c_1 => ?_)
  · refine lv_aload_n hx hb dX4_readSequence_9 rfl (lv_at hl 0 rfl) ?_
    refine lv_iconst (v := 3) hx hb dX4_readSequence_10 (by decide) ?_
    have hz_2 : (3 : Int32).toInt = 3 := by decide
    obtain ⟨fa_3, pl_3, fg_3⟩ := op_13 hI (gm_13 hG) (gs_13 hG)
    refine call_p (va_runV (As := [.int 3]) (rest := []) ⟨hx, hb, hml, hown, hts⟩ (t_X4_fail l D cI cR cM _  hj hG hI  ) (cwV 1 hts gX4_readSequence_X4_fail rfl rfl rfl (by decide +kernel) ⟨Nat.le_of_ble_eq_true rfl, Nat.le_of_ble_eq_true rfl⟩) (pre_T hK hP hD (gm_13 hG) fg_3 rfl) rfl rfl hl.1 rfl (lv_room (Nat.le_of_ble_eq_true rfl)) dX4_readSequence_11 ⟨Nat.le_of_ble_eq_true rfl, Nat.le_of_ble_eq_true rfl⟩) hD hS hA (fun u_4 H locs hw hP hD hS => ?_)
    obtain ⟨r_4, f_4⟩ := u_4
    obtain ⟨hI, hF_4, h0_4, h01_4⟩ : IN jn cI cR cM g L S f_4 ∧ FR S [13] f f_4 ∧ (r_4.toInt = 0) ∧ (r_4.toInt = 0 ∨ r_4.toInt = 1) := hw
    have hP : va_P D vwCl (va_pl L f_4) H := hP
    have hD : va_D A (va_pl L f_4) := hD
    have hF := FR_tr hF hF_4 (by decide)
    have hTK_4 : TK g cI f_4 := TK_fr (f := f) (by assumption) hG hF_4 (by decide)
    exact g_zret (r_4, f_4) hx hb hr hlocks hS (b01 (by omega)) rfl (⟨hI, hF, show TK g cI f_4 from (by first | assumption | omega), show r_4.toInt = 0 ∨ r_4.toInt = 1 from (by first | assumption | omega)⟩) hP hD hQ (Nat.le_of_ble_eq_true rfl) (Nat.le_of_ble_eq_true rfl) dX4_readSequence_14
  · refine lv_iload_n hx hb dX4_readSequence_4 rfl (lv_at hl 1 rfl) ?_
    refine lv_iconst (v := 5) hx hb dX4_readSequence_5 (by decide) ?_
    refine a_icmp_le (u := x.toInt) (v := 5) (tgt := 15) hx hb dX4_readSequence_6 (by decide) (rfl) (by decide) (fun c_5 => ?_) (fun c_5 => ?_)
    · refine lv_aload_n hx hb dX4_readSequence_15 rfl (lv_at hl 0 rfl) ?_
      obtain ⟨fa_6, pl_6, fg_6⟩ := op_13 hI (gm_13 hG) (gs_13 hG)
      refine t_get (D := D) (L := L) (f := f) (ci := 4) (v := .ref (g 22)) (C := RX4) (T := TX4) (N := 11) hx hb hts (by decide +kernel) hown hK.1 hP (gm_13 hG) fg_6 rfl 3 (by decide) (hts (.fieldLink RX4 13 "JugglingHall$Reader" "levels" "[LJugglingHall$Row;") (by decide +kernel)) (fun _ h9 => h9) rfl dX4_readSequence_16 ?_
      refine lv_iload_n hx hb dX4_readSequence_19 rfl (lv_at hl 1 rfl) ?_
      obtain ⟨c_7, fg_7, iv0_7⟩ := op_22 hI (gm_22 hG) (gs_22 hG)
      refine t_aald (L := L) (f := f) (y := c_7) (u := x.toInt) hx hb hK.1 hP (gm_22 hG) 1 fg_7 rfl dX4_readSequence_20 (rfl) (by omega) (fun w_8 q_8 => ?_)
      obtain ⟨r_8, p_8, n_8, er_8, m_8, s_8⟩ := iv0_7 x.toInt (by omega) (by omega)
      have q_8 := q_8.trans er_8
      subst q_8
      refine W.eq (g2 := F0 m 21 ls [.ref r_8]) rfl ?_
      refine lv_astore_n (lv' := [(2, .ref r_8), (0, .ref (g 13)), (1, .int x)]) hx hb dX4_readSequence_21 rfl hl (by decide) rfl (fun ls hl => ?_)
      refine lv_aload_n hx hb dX4_readSequence_22 rfl (lv_at hl 0 rfl) ?_
      refine lv_iconst (v := 0) hx hb dX4_readSequence_23 (by decide) ?_
      obtain ⟨len_9, fg_9, v1_9, v2_9, v3_9, mp_9, sp_9⟩ := op_0 hI m_8 s_8
      obtain ⟨w1_9, w2_9, w3_9, w4_9, w5_9⟩ := lenw hj v1_9 v2_9 v3_9
      have hz_11 : (0 : Int32).toInt = 0 := by decide
      refine t_putN (D := D) (L := L) (f := f) (ci := 5) (v := .int 0) (ty := .int) (C := RX5) (T := TX5) (N := 4) (host := "JugglingHall") hx hb hts (by decide +kernel) tyX5 tyX5_ok nmX5 hown hK.1 hP hD hS m_8 fg_9 rfl 3 (by decide) (hK.nw (.fieldLinkNest RX4 62 "JugglingHall$Row" "length" "I" "JugglingHall") (by decide +kernel) rfl) (fun _ h9 => h9) rfl (by decide +kernel) rfl rfl (Nat.le_of_ble_eq_true rfl) dX4_readSequence_24 (fun f_10 H locs e9_10 o_10 hP hD hS => ?_)
      have fa_10 : f_10 r_8 = .inr (5, [.int (nI jn), .int (nI (2 * jn)), .ref p_8, .int 0]) := e9_10
      have hI := IN_set (e := .inr (5, [.int (nI jn), .int (nI (2 * jn)), .ref p_8, .int 0])) hI s_8 (mk_0 (by first | assumption | omega) (by rw [show (0 : Int32).toInt = 0 from rfl, Int.zero_mul]; omega) (by first | assumption | omega) (by first | assumption | omega) (by first | assumption | omega)) fa_10 o_10
      have hF := FR_set hF s_8 (show (0 : Nat) ∈ ([0, 1, 13, 14, 34] : List Nat) by decide) o_10
      have hTK_10 : TK g cI f_10 := TK_set (f := f) (by assumption) hG s_8 (show (0 : Nat) ∉ ([14, 31, 32] : List Nat) by decide) o_10
      have fb_12 : f_10 (g 13) = .inr (4, [.int (nI jn), .ref (g 14), .ref (g 12), .ref (g 22), .ref (g 34), .ref (g 23), .ref (g 24), .ref (g 25), .ref (g 26), .int fa_6, .int pl_6]) := f_at o_10 (S_ne (gs_13 hG) s_8 (show (13 : Nat) ≠ 0 by decide)) fg_6
      have fb_13 : f_10 (g 22) = .inl (cR, 6, .inr (.inr (.inr (.inr c_7)))) := f_at o_10 (S_ne (gs_22 hG) s_8 (show (22 : Nat) ≠ 0 by decide)) fg_7
      refine lv_iconst (v := 0) hx hb dX4_readSequence_27 (by decide) ?_
      refine lv_istore_n (lv' := [(3, .int 0), (2, .ref r_8), (0, .ref (g 13)), (1, .int x)]) hx hb dX4_readSequence_28 rfl hl (by decide) rfl (fun ls hl => ?_)
      have loop29 : ∀ (ddloop29 : Nat) (ii : Int32) (f_14 : Nat → va_E) (H : Heap) (locs : List Loc) (ls : Array Slot), (400 - ii.toInt).toNat < ddloop29 → IN jn cI cR cM g L S f_14 → FR S [0, 1, 13, 14, 34] f f_14 → (0 ≤ ii.toInt ∧ ii.toInt ≤ 301) → (TK g cI f_14) → va_P D vwCl (va_pl L f_14) H → va_D A (va_pl L f_14) → va_S A s.heap H locs → lv_has ls 5 [(0, .ref (g 13)), (1, .int x), (2, .ref r_8), (3, .int ii)] → W p l e ({ frames := 7, cells := 0, slots := 0, locals := 204 }) s m args below meth c H locs 0 0 Q (F0 m 29 ls []) := by
        intro ddloop29
        induction ddloop29 with
        | zero =>
          intro ii f_14 H locs ls hdd
          exact absurd hdd (Nat.not_lt_zero _)
        | succ ddloop29 ih29 =>
          intro ii f_14 H locs ls hdd hI hF hi hTK hP hD hS hl
          refine lv_iload_n hx hb dX4_readSequence_29 rfl (lv_at hl 3 rfl) ?_
          refine lv_sipush (v := 300) hx hb dX4_readSequence_30 (by decide) ?_
          refine a_icmp_gt (u := ii.toInt) (v := 300) (tgt := 79) hx hb dX4_readSequence_33 (by decide) (rfl) (by decide) (fun c_15 => ?_) (fun c_15 => ?_)
          · refine lv_iconst (v := 1) hx hb dX4_readSequence_79 (by decide) ?_
            have hz_16 : (1 : Int32).toInt = 1 := by decide
            exact g_zret ((1 : Int32), f_14) hx hb hr hlocks hS (by first | exact Or.inl rfl | exact Or.inr rfl) rfl (⟨hI, hF, show TK g cI f_14 from (by first | assumption | omega), show (1 : Int32).toInt = 0 ∨ (1 : Int32).toInt = 1 from (by first | assumption | omega)⟩) hP hD hQ (Nat.le_of_ble_eq_true rfl) (Nat.le_of_ble_eq_true rfl) dX4_readSequence_80
          · refine lv_iload_n hx hb dX4_readSequence_36 rfl (lv_at hl 3 rfl) ?_
            refine a_if_eq (u := ii.toInt) (tgt := 47) hx hb dX4_readSequence_37 (by decide) (rfl) (fun c_17 => ?_) (fun c_17 => ?_)
            · refine lv_aload_n hx hb dX4_readSequence_47 rfl (lv_at hl 2 rfl) ?_
              obtain ⟨len_18, fg_18, v1_18, v2_18, v3_18, mp_18, sp_18⟩ := op_0 hI m_8 s_8
              obtain ⟨w1_18, w2_18, w3_18, w4_18, w5_18⟩ := lenw hj v1_18 v2_18 v3_18
              refine t_getN (D := D) (L := L) (f := f_14) (ci := 5) (v := .int len_18) (C := RX5) (T := TX5) (N := 4) (host := "JugglingHall") hx hb hts (by decide +kernel) hown hK.1 hP m_8 fg_18 rfl 3 (by decide) (hK.nw (.fieldLinkNest RX4 62 "JugglingHall$Row" "length" "I" "JugglingHall") (by decide +kernel) rfl) (fun _ h9 => h9) rfl dX4_readSequence_48 ?_
              refine lv_istore (lv' := [(4, .int len_18), (0, .ref (g 13)), (1, .int x), (2, .ref r_8), (3, .int ii)]) hx hb dX4_readSequence_51 hl (by decide) rfl (fun ls hl => ?_)
              refine lv_aload_n hx hb dX4_readSequence_53 rfl (lv_at hl 1 rfl) ?_
              refine lv_iload_n hx hb dX4_readSequence_54 rfl (lv_at hl 2 rfl) ?_
              obtain ⟨fa_19, pl_19, fg_19⟩ := op_13 hI (gm_13 hG) (gs_13 hG)
              refine call_p (va_runV (As := [.int x]) (rest := []) ⟨hx, hb, hml, hown, hts⟩ (t_X4_readOne_2 l D cI cR cM _  hj hG hI  (by first | assumption | omega) (by first | assumption | omega) (by first | assumption | omega)) (cwV 1 hts gX4_readSequence_X4_readOne rfl rfl rfl (by decide +kernel) ⟨Nat.le_of_ble_eq_true rfl, Nat.le_of_ble_eq_true rfl⟩) (pre_T hK hP hD (gm_13 hG) fg_19 rfl) rfl rfl hl.1 rfl (lv_room (Nat.le_of_ble_eq_true rfl)) dX4_readSequence_55 ⟨Nat.le_of_ble_eq_true rfl, Nat.le_of_ble_eq_true rfl⟩) hD hS hA (fun u_20 H locs hw hP hD hS => ?_)
              obtain ⟨r_20, f_20⟩ := u_20
              obtain ⟨hI, hF_20, hTK_20, h01_20⟩ : IN jn cI cR cM g L S f_20 ∧ FR S [0, 1, 13, 14, 34] f_14 f_20 ∧ (TK g cI f_20) ∧ (r_20.toInt = 0 ∨ r_20.toInt = 1) := hw
              have hP : va_P D vwCl (va_pl L f_20) H := hP
              have hD : va_D A (va_pl L f_20) := hD
              have hF := FR_tr hF hF_20 (by decide)
              refine a_if_eq (u := r_20.toInt) (tgt := 71) hx hb dX4_readSequence_58 (by decide) (rfl) (fun c_21 => ?_) (fun c_21 => ?_)
              · refine lv_iconst (v := 0) hx hb dX4_readSequence_71 (by decide) ?_
                have hz_22 : (0 : Int32).toInt = 0 := by decide
                exact g_zret ((0 : Int32), f_20) hx hb hr hlocks hS (by first | exact Or.inl rfl | exact Or.inr rfl) rfl (⟨hI, hF, show TK g cI f_20 from (by first | assumption | omega), show (0 : Int32).toInt = 0 ∨ (0 : Int32).toInt = 1 from (by first | assumption | omega)⟩) hP hD hQ (Nat.le_of_ble_eq_true rfl) (Nat.le_of_ble_eq_true rfl) dX4_readSequence_72
              · refine lv_aload_n hx hb dX4_readSequence_61 rfl (lv_at hl 1 rfl) ?_
                refine lv_aload_n hx hb dX4_readSequence_62 rfl (lv_at hl 3 rfl) ?_
                refine lv_iload hx hb dX4_readSequence_63 (lv_at hl 0 rfl) ?_
                obtain ⟨fa_23, pl_23, fg_23⟩ := op_13 hI (gm_13 hG) (gs_13 hG)
                obtain ⟨len_24, fg_24, v1_24, v2_24, v3_24, mp_24, sp_24⟩ := op_0 hI m_8 s_8
                obtain ⟨w1_24, w2_24, w3_24, w4_24, w5_24⟩ := lenw hj v1_24 v2_24 v3_24
                obtain ⟨c_25, fg_25, iv0_25⟩ := op_1 hI mp_9 sp_9
                refine call_p (va_runV (As := [.ref r_8, .int len_18]) (rest := []) ⟨hx, hb, hml, hown, hts⟩ (t_X4_readTimes l D cI cR cM _  hj hG hI m_8 s_8 fg_24 fg_25 (by first | assumption | omega) (by first | assumption | omega)) (cwV 2 hts gX4_readSequence_X4_readTimes rfl rfl rfl (by decide +kernel) ⟨Nat.le_of_ble_eq_true rfl, Nat.le_of_ble_eq_true rfl⟩) (pre_T hK hP hD (gm_13 hG) fg_23 rfl) rfl rfl hl.1 rfl (lv_room (Nat.le_of_ble_eq_true rfl)) dX4_readSequence_65 ⟨Nat.le_of_ble_eq_true rfl, Nat.le_of_ble_eq_true rfl⟩) hD hS hA (fun u_26 H locs hw hP hD hS => ?_)
                obtain ⟨r_26, f_26⟩ := u_26
                obtain ⟨hI, hF_26, hTK_26, h01_26⟩ : IN jn cI cR cM g L S f_26 ∧ FR S [0, 1, 13, 14] f_20 f_26 ∧ (TK g cI f_26) ∧ (r_26.toInt = 0 ∨ r_26.toInt = 1) := hw
                have hP : va_P D vwCl (va_pl L f_26) H := hP
                have hD : va_D A (va_pl L f_26) := hD
                have hF := FR_tr hF hF_26 (by decide)
                refine a_if_ne (u := r_26.toInt) (tgt := 73) hx hb dX4_readSequence_68 (by decide) (rfl) (fun c_27 => ?_) (fun c_27 => ?_)
                · obtain ⟨z_28, q_28, e_28⟩ := i_inc (a := ii.toInt) (1) (rfl) (by decide) (by omega) (by omega)
                  refine lv_iinc (v := z_28) (lv' := [(3, .int z_28), (4, .int len_18), (0, .ref (g 13)), (1, .int x), (2, .ref r_8)]) hx hb dX4_readSequence_73 hl (k := 4) rfl q_28 (by decide) rfl (fun ls hl => ?_)
                  refine lv_goto (tgt := 29) hx hb dX4_readSequence_76 (by decide) ?_
                  exact ih29 z_28 f_26 _ _ _ (by omega) hI hF (by first | assumption | omega) (by first | assumption | omega) hP hD hS (lv_sub hl [2, 3, 4, 0] rfl)
                · refine lv_iconst (v := 0) hx hb dX4_readSequence_71 (by decide) ?_
                  have hz_29 : (0 : Int32).toInt = 0 := by decide
                  exact g_zret ((0 : Int32), f_26) hx hb hr hlocks hS (by first | exact Or.inl rfl | exact Or.inr rfl) rfl (⟨hI, hF, show TK g cI f_26 from (by first | assumption | omega), show (0 : Int32).toInt = 0 ∨ (0 : Int32).toInt = 1 from (by first | assumption | omega)⟩) hP hD hQ (Nat.le_of_ble_eq_true rfl) (Nat.le_of_ble_eq_true rfl) dX4_readSequence_72
            · refine lv_aload_n hx hb dX4_readSequence_40 rfl (lv_at hl 0 rfl) ?_
              obtain ⟨fa_30, pl_30, fg_30⟩ := op_13 hI (gm_13 hG) (gs_13 hG)
              refine roP (va_runV (As := []) (rest := []) ⟨hx, hb, hml, hown, hts⟩ (t_X4_beginsOne l D cI cR cM _  hj hG hI  ) (cwV 0 hts gX4_readSequence_X4_beginsOne rfl rfl rfl (by decide +kernel) ⟨Nat.le_of_ble_eq_true rfl, Nat.le_of_ble_eq_true rfl⟩) (pre_T hK hP hD (gm_13 hG) fg_30 rfl) rfl rfl hl.1 rfl (lv_room (Nat.le_of_ble_eq_true rfl)) dX4_readSequence_41 ⟨Nat.le_of_ble_eq_true rfl, Nat.le_of_ble_eq_true rfl⟩) hS hA hP (fun r_31 H locs hw hP hS => ?_)
              have h01_31 : (r_31.toInt = 0 ∨ r_31.toInt = 1) := hw
              refine a_if_eq (u := r_31.toInt) (tgt := 79) hx hb dX4_readSequence_44 (by decide) (rfl) (fun c_32 => ?_) (fun c_32 => ?_)
              · refine lv_iconst (v := 1) hx hb dX4_readSequence_79 (by decide) ?_
                have hz_33 : (1 : Int32).toInt = 1 := by decide
                exact g_zret ((1 : Int32), f_14) hx hb hr hlocks hS (by first | exact Or.inl rfl | exact Or.inr rfl) rfl (⟨hI, hF, show TK g cI f_14 from (by first | assumption | omega), show (1 : Int32).toInt = 0 ∨ (1 : Int32).toInt = 1 from (by first | assumption | omega)⟩) hP hD hQ (Nat.le_of_ble_eq_true rfl) (Nat.le_of_ble_eq_true rfl) dX4_readSequence_80
              · refine lv_aload_n hx hb dX4_readSequence_47 rfl (lv_at hl 2 rfl) ?_
                obtain ⟨len_34, fg_34, v1_34, v2_34, v3_34, mp_34, sp_34⟩ := op_0 hI m_8 s_8
                obtain ⟨w1_34, w2_34, w3_34, w4_34, w5_34⟩ := lenw hj v1_34 v2_34 v3_34
                refine t_getN (D := D) (L := L) (f := f_14) (ci := 5) (v := .int len_34) (C := RX5) (T := TX5) (N := 4) (host := "JugglingHall") hx hb hts (by decide +kernel) hown hK.1 hP m_8 fg_34 rfl 3 (by decide) (hK.nw (.fieldLinkNest RX4 62 "JugglingHall$Row" "length" "I" "JugglingHall") (by decide +kernel) rfl) (fun _ h9 => h9) rfl dX4_readSequence_48 ?_
                refine lv_istore (lv' := [(4, .int len_34), (0, .ref (g 13)), (1, .int x), (2, .ref r_8), (3, .int ii)]) hx hb dX4_readSequence_51 hl (by decide) rfl (fun ls hl => ?_)
                refine lv_aload_n hx hb dX4_readSequence_53 rfl (lv_at hl 1 rfl) ?_
                refine lv_iload_n hx hb dX4_readSequence_54 rfl (lv_at hl 2 rfl) ?_
                refine call_p (va_runV (As := [.int x]) (rest := []) ⟨hx, hb, hml, hown, hts⟩ (t_X4_readOne_2 l D cI cR cM _  hj hG hI  (by first | assumption | omega) (by first | assumption | omega) (by first | assumption | omega)) (cwV 1 hts gX4_readSequence_X4_readOne rfl rfl rfl (by decide +kernel) ⟨Nat.le_of_ble_eq_true rfl, Nat.le_of_ble_eq_true rfl⟩) (pre_T hK hP hD (gm_13 hG) fg_30 rfl) rfl rfl hl.1 rfl (lv_room (Nat.le_of_ble_eq_true rfl)) dX4_readSequence_55 ⟨Nat.le_of_ble_eq_true rfl, Nat.le_of_ble_eq_true rfl⟩) hD hS hA (fun u_35 H locs hw hP hD hS => ?_)
                obtain ⟨r_35, f_35⟩ := u_35
                obtain ⟨hI, hF_35, hTK_35, h01_35⟩ : IN jn cI cR cM g L S f_35 ∧ FR S [0, 1, 13, 14, 34] f_14 f_35 ∧ (TK g cI f_35) ∧ (r_35.toInt = 0 ∨ r_35.toInt = 1) := hw
                have hP : va_P D vwCl (va_pl L f_35) H := hP
                have hD : va_D A (va_pl L f_35) := hD
                have hF := FR_tr hF hF_35 (by decide)
                refine a_if_eq (u := r_35.toInt) (tgt := 71) hx hb dX4_readSequence_58 (by decide) (rfl) (fun c_36 => ?_) (fun c_36 => ?_)
                · refine lv_iconst (v := 0) hx hb dX4_readSequence_71 (by decide) ?_
                  have hz_37 : (0 : Int32).toInt = 0 := by decide
                  exact g_zret ((0 : Int32), f_35) hx hb hr hlocks hS (by first | exact Or.inl rfl | exact Or.inr rfl) rfl (⟨hI, hF, show TK g cI f_35 from (by first | assumption | omega), show (0 : Int32).toInt = 0 ∨ (0 : Int32).toInt = 1 from (by first | assumption | omega)⟩) hP hD hQ (Nat.le_of_ble_eq_true rfl) (Nat.le_of_ble_eq_true rfl) dX4_readSequence_72
                · refine lv_aload_n hx hb dX4_readSequence_61 rfl (lv_at hl 1 rfl) ?_
                  refine lv_aload_n hx hb dX4_readSequence_62 rfl (lv_at hl 3 rfl) ?_
                  refine lv_iload hx hb dX4_readSequence_63 (lv_at hl 0 rfl) ?_
                  obtain ⟨fa_38, pl_38, fg_38⟩ := op_13 hI (gm_13 hG) (gs_13 hG)
                  obtain ⟨len_39, fg_39, v1_39, v2_39, v3_39, mp_39, sp_39⟩ := op_0 hI m_8 s_8
                  obtain ⟨w1_39, w2_39, w3_39, w4_39, w5_39⟩ := lenw hj v1_39 v2_39 v3_39
                  obtain ⟨c_40, fg_40, iv0_40⟩ := op_1 hI mp_9 sp_9
                  refine call_p (va_runV (As := [.ref r_8, .int len_34]) (rest := []) ⟨hx, hb, hml, hown, hts⟩ (t_X4_readTimes l D cI cR cM _  hj hG hI m_8 s_8 fg_39 fg_40 (by first | assumption | omega) (by first | assumption | omega)) (cwV 2 hts gX4_readSequence_X4_readTimes rfl rfl rfl (by decide +kernel) ⟨Nat.le_of_ble_eq_true rfl, Nat.le_of_ble_eq_true rfl⟩) (pre_T hK hP hD (gm_13 hG) fg_38 rfl) rfl rfl hl.1 rfl (lv_room (Nat.le_of_ble_eq_true rfl)) dX4_readSequence_65 ⟨Nat.le_of_ble_eq_true rfl, Nat.le_of_ble_eq_true rfl⟩) hD hS hA (fun u_41 H locs hw hP hD hS => ?_)
                  obtain ⟨r_41, f_41⟩ := u_41
                  obtain ⟨hI, hF_41, hTK_41, h01_41⟩ : IN jn cI cR cM g L S f_41 ∧ FR S [0, 1, 13, 14] f_35 f_41 ∧ (TK g cI f_41) ∧ (r_41.toInt = 0 ∨ r_41.toInt = 1) := hw
                  have hP : va_P D vwCl (va_pl L f_41) H := hP
                  have hD : va_D A (va_pl L f_41) := hD
                  have hF := FR_tr hF hF_41 (by decide)
                  refine a_if_ne (u := r_41.toInt) (tgt := 73) hx hb dX4_readSequence_68 (by decide) (rfl) (fun c_42 => ?_) (fun c_42 => ?_)
                  · obtain ⟨z_43, q_43, e_43⟩ := i_inc (a := ii.toInt) (1) (rfl) (by decide) (by omega) (by omega)
                    refine lv_iinc (v := z_43) (lv' := [(3, .int z_43), (4, .int len_34), (0, .ref (g 13)), (1, .int x), (2, .ref r_8)]) hx hb dX4_readSequence_73 hl (k := 4) rfl q_43 (by decide) rfl (fun ls hl => ?_)
                    refine lv_goto (tgt := 29) hx hb dX4_readSequence_76 (by decide) ?_
                    exact ih29 z_43 f_41 _ _ _ (by omega) hI hF (by first | assumption | omega) (by first | assumption | omega) hP hD hS (lv_sub hl [2, 3, 4, 0] rfl)
                  · refine lv_iconst (v := 0) hx hb dX4_readSequence_71 (by decide) ?_
                    have hz_44 : (0 : Int32).toInt = 0 := by decide
                    exact g_zret ((0 : Int32), f_41) hx hb hr hlocks hS (by first | exact Or.inl rfl | exact Or.inr rfl) rfl (⟨hI, hF, show TK g cI f_41 from (by first | assumption | omega), show (0 : Int32).toInt = 0 ∨ (0 : Int32).toInt = 1 from (by first | assumption | omega)⟩) hP hD hQ (Nat.le_of_ble_eq_true rfl) (Nat.le_of_ble_eq_true rfl) dX4_readSequence_72
      have hz_45 : (0 : Int32).toInt = 0 := by decide
      exact loop29 ((400 - (0 : Int32).toInt).toNat + 1) (0 : Int32) f_10 _ _ _ (by omega) hI hF (by first | assumption | omega) (by first | assumption | omega) hP hD hS (lv_sub hl [2, 3, 1, 0] rfl)
    · refine lv_aload_n hx hb dX4_readSequence_9 rfl (lv_at hl 0 rfl) ?_
      refine lv_iconst (v := 3) hx hb dX4_readSequence_10 (by decide) ?_
      have hz_46 : (3 : Int32).toInt = 3 := by decide
      obtain ⟨fa_47, pl_47, fg_47⟩ := op_13 hI (gm_13 hG) (gs_13 hG)
      refine call_p (va_runV (As := [.int 3]) (rest := []) ⟨hx, hb, hml, hown, hts⟩ (t_X4_fail l D cI cR cM _  hj hG hI  ) (cwV 1 hts gX4_readSequence_X4_fail rfl rfl rfl (by decide +kernel) ⟨Nat.le_of_ble_eq_true rfl, Nat.le_of_ble_eq_true rfl⟩) (pre_T hK hP hD (gm_13 hG) fg_47 rfl) rfl rfl hl.1 rfl (lv_room (Nat.le_of_ble_eq_true rfl)) dX4_readSequence_11 ⟨Nat.le_of_ble_eq_true rfl, Nat.le_of_ble_eq_true rfl⟩) hD hS hA (fun u_48 H locs hw hP hD hS => ?_)
      obtain ⟨r_48, f_48⟩ := u_48
      obtain ⟨hI, hF_48, h0_48, h01_48⟩ : IN jn cI cR cM g L S f_48 ∧ FR S [13] f f_48 ∧ (r_48.toInt = 0) ∧ (r_48.toInt = 0 ∨ r_48.toInt = 1) := hw
      have hP : va_P D vwCl (va_pl L f_48) H := hP
      have hD : va_D A (va_pl L f_48) := hD
      have hF := FR_tr hF hF_48 (by decide)
      have hTK_48 : TK g cI f_48 := TK_fr (f := f) (by assumption) hG hF_48 (by decide)
      exact g_zret (r_48, f_48) hx hb hr hlocks hS (b01 (by omega)) rfl (⟨hI, hF, show TK g cI f_48 from (by first | assumption | omega), show r_48.toInt = 0 ∨ r_48.toInt = 1 from (by first | assumption | omega)⟩) hP hD hQ (Nat.le_of_ble_eq_true rfl) (Nat.le_of_ble_eq_true rfl) dX4_readSequence_14
set_option maxRecDepth 100000 in
set_option maxHeartbeats 4000000 in
theorem t_X4_readOne_3 (l : Launch) (D : va_G) (cI cR cM : ClassId) (sz : Nat) {jn : Nat} {g : Nat → Nat} {L : List Nat} {S : Sg} {f : Nat → va_E} {x : Int32}  (hj : 1 ≤ jn ∧ jn ≤ 3) (hG : SG g L S) (hI : IN jn cI cR cM g L S f) (hx0 : 0 ≤ x.toInt ∧ x.toInt ≤ 5) (hd : 3 ≤ x.toInt) (hTK : TK g cI f) : Met l yX4_readOne wsX4_readOne ({ frames := 8, cells := 0, slots := 0, locals := 228 }) (P0 D cI cR cM [.ref (g 13), .int x] sz (va_pl L f)) (QG (S := Int32 × (Nat → va_E)) (fun u => some (.int u.1)) (fun u => va_pl L u.2) (fun u => IN jn cI cR cM g L S u.2 ∧ FR S [0, 1, 13, 14, 34] f u.2 ∧ (TK g cI u.2) ∧ (u.1.toInt = 0 ∨ u.1.toInt = 1)) D (va_A (va_pl L f) sz)) 0 0 (va_A (va_pl L f) sz) := by
  refine go (cc := cX4_readOne) (maxL := 3) (ret := (some .boolean)) (by decide +kernel) rfl (Nat.le_of_ble_eq_true rfl) ?_
  intro p e s m below meth c ls args Q hQ hsz hx hb hr hml hts hown hlocks hnm hP hK hD hl
  subst hsz
  have hD := hD.self (sz := s.heap.size)
  generalize hAe : va_A (va_pl L f) s.heap.size = A at hD hQ
  have hA : ∀ q, s.heap.size ≤ q → A q := fun q h => by rw [← hAe]; exact Or.inr h
  have hS : va_S A s.heap s.heap [] := va_S.rf
  have hF : FR S [0, 1, 13, 14, 34] f f := FR_rf
  have hl : lv_has ls 3 [(0, .ref (g 13)), (1, .int x)] := hl
  refine lv_aload_n hx hb dX4_readOne_0 rfl (lv_at hl 0 rfl) ?_
  obtain ⟨fa_1, pl_1, fg_1⟩ := op_13 hI (gm_13 hG) (gs_13 hG)
  refine roP (va_runV (As := []) (rest := []) ⟨hx, hb, hml, hown, hts⟩ (t_X4_beginsOne l D cI cR cM _  hj hG hI  ) (cwV 0 hts gX4_readOne_X4_beginsOne rfl rfl rfl (by decide +kernel) ⟨Nat.le_of_ble_eq_true rfl, Nat.le_of_ble_eq_true rfl⟩) (pre_T hK hP hD (gm_13 hG) fg_1 rfl) rfl rfl hl.1 rfl (lv_room (Nat.le_of_ble_eq_true rfl)) dX4_readOne_1 ⟨Nat.le_of_ble_eq_true rfl, Nat.le_of_ble_eq_true rfl⟩) hS hA hP (fun r_2 H locs hw hP hS => ?_)
  have h01_2 : (r_2.toInt = 0 ∨ r_2.toInt = 1) := hw
  refine a_if_ne (u := r_2.toInt) (tgt := 13) hx hb dX4_readOne_4 (by decide) (rfl) (fun c_3 => ?_) (fun c_3 => ?_)
  · refine lv_aload_n hx hb dX4_readOne_13 rfl (lv_at hl 0 rfl) ?_
    refine t_get (D := D) (L := L) (f := f) (ci := 4) (v := .ref (g 14)) (C := RX4) (T := TX4) (N := 11) hx hb hts (by decide +kernel) hown hK.1 hP (gm_13 hG) fg_1 rfl 1 (by decide) (hts (.fieldLink RX4 41 "JugglingHall$Reader" "tokens" "LJugglingHall$Tokens;") (by decide +kernel)) (fun _ h9 => h9) rfl dX4_readOne_14 ?_
    obtain ⟨cnt_4, nx_4, kd_4, vl_4, st_4, ls_4, fg_4, iv0_4, iv1_4, iv2_4⟩ := op_14 hI (gm_14 hG) (gs_14 hG)
    refine t_getN (D := D) (L := L) (f := f) (ci := 8) (v := .int kd_4) (C := RX8) (T := TX8) (N := 10) (host := "JugglingHall") hx hb hts (by decide +kernel) hown hK.1 hP (gm_14 hG) fg_4 rfl 6 (by decide) (hK.nw (.fieldLinkNest RX4 70 "JugglingHall$Tokens" "kind" "I" "JugglingHall") (by decide +kernel) rfl) (fun _ h9 => h9) rfl dX4_readOne_17 ?_
    refine lv_istore_n (lv' := [(2, .int kd_4), (0, .ref (g 13)), (1, .int x)]) hx hb dX4_readOne_20 rfl hl (by decide) rfl (fun ls hl => ?_)
    refine lv_iload_n hx hb dX4_readOne_21 rfl (lv_at hl 0 rfl) ?_
    have hu_5 : kd_4.toInt = kd_4.toInt := rfl
    rcases (show (kd_4.toInt = 2) ∨ (kd_4.toInt = 3) ∨ (kd_4.toInt = 60) ∨ (kd_4.toInt = 91) ∨ (kd_4.toInt ≠ 2 ∧ kd_4.toInt ≠ 3 ∧ kd_4.toInt ≠ 60 ∧ kd_4.toInt ≠ 91) by omega) with c_5 | c_5 | c_5 | c_5 | c_5
    · refine lv_lookup (off := 53) (tgt := 75) hx hb dX4_readOne_22 (by decide) (by rw [hu_5, c_5]; decide) (by decide) ?_
      refine lv_aload_n hx hb dX4_readOne_75 rfl (lv_at hl 1 rfl) ?_
      refine lv_aload_n hx hb dX4_readOne_76 rfl (lv_at hl 1 rfl) ?_
      refine t_get (D := D) (L := L) (f := f) (ci := 4) (v := .ref (g 22)) (C := RX4) (T := TX4) (N := 11) hx hb hts (by decide +kernel) hown hK.1 hP (gm_13 hG) fg_1 rfl 3 (by decide) (hts (.fieldLink RX4 13 "JugglingHall$Reader" "levels" "[LJugglingHall$Row;") (by decide +kernel)) (fun _ h9 => h9) rfl dX4_readOne_77 ?_
      refine lv_iload_n hx hb dX4_readOne_80 rfl (lv_at hl 2 rfl) ?_
      obtain ⟨c_6, fg_6, iv0_6⟩ := op_22 hI (gm_22 hG) (gs_22 hG)
      refine t_aald (L := L) (f := f) (y := c_6) (u := x.toInt) hx hb hK.1 hP (gm_22 hG) 1 fg_6 rfl dX4_readOne_81 (rfl) (by omega) (fun w_7 q_7 => ?_)
      obtain ⟨r_7, p_7, n_7, er_7, m_7, s_7⟩ := iv0_6 x.toInt (by omega) (by omega)
      have q_7 := q_7.trans er_7
      subst q_7
      refine W.eq (g2 := F0 m 82 ls [.ref r_7, .ref (g 13)]) rfl ?_
      obtain ⟨len_8, fg_8, v1_8, v2_8, v3_8, mp_8, sp_8⟩ := op_0 hI m_7 s_7
      obtain ⟨w1_8, w2_8, w3_8, w4_8, w5_8⟩ := lenw hj v1_8 v2_8 v3_8
      obtain ⟨c_9, fg_9, iv0_9⟩ := op_1 hI mp_8 sp_8
      refine call_p (va_runV (As := [.ref r_7]) (rest := []) ⟨hx, hb, hml, hown, hts⟩ (t_X4_readBeat l D cI cR cM _  hj hG hI m_7 s_7 fg_8 fg_9 (by first | assumption | omega)) (cwV 1 hts gX4_readOne_X4_readBeat rfl rfl rfl (by decide +kernel) ⟨Nat.le_of_ble_eq_true rfl, Nat.le_of_ble_eq_true rfl⟩) (pre_T hK hP hD (gm_13 hG) fg_1 rfl) rfl rfl hl.1 rfl (lv_room (Nat.le_of_ble_eq_true rfl)) dX4_readOne_82 ⟨Nat.le_of_ble_eq_true rfl, Nat.le_of_ble_eq_true rfl⟩) hD hS hA (fun u_10 H locs hw hP hD hS => ?_)
      obtain ⟨r_10, f_10⟩ := u_10
      obtain ⟨hI, hF_10, hTK_10, h01_10⟩ : IN jn cI cR cM g L S f_10 ∧ FR S [0, 1, 13, 14] f f_10 ∧ (TK g cI f_10) ∧ (r_10.toInt = 0 ∨ r_10.toInt = 1) := hw
      have hP : va_P D vwCl (va_pl L f_10) H := hP
      have hD : va_D A (va_pl L f_10) := hD
      have hF := FR_tr hF hF_10 (by decide)
      have fb_11 : f_10 (g 22) = .inl (cR, 6, .inr (.inr (.inr (.inr c_6)))) := FR_at hF_10 (gs_22 hG) (show (22 : Nat) ∉ ([0, 1, 13, 14] : List Nat) by decide) fg_6
      exact g_zret (r_10, f_10) hx hb hr hlocks hS (b01 (by omega)) rfl (⟨hI, hF, show TK g cI f_10 from (by first | assumption | omega), show r_10.toInt = 0 ∨ r_10.toInt = 1 from (by first | assumption | omega)⟩) hP hD hQ (Nat.le_of_ble_eq_true rfl) (Nat.le_of_ble_eq_true rfl) dX4_readOne_85
    · refine lv_lookup (off := 42) (tgt := 64) hx hb dX4_readOne_22 (by decide) (by rw [hu_5, c_5]; decide) (by decide) ?_
      refine lv_aload_n hx hb dX4_readOne_64 rfl (lv_at hl 1 rfl) ?_
      refine lv_aload_n hx hb dX4_readOne_65 rfl (lv_at hl 1 rfl) ?_
      refine t_get (D := D) (L := L) (f := f) (ci := 4) (v := .ref (g 22)) (C := RX4) (T := TX4) (N := 11) hx hb hts (by decide +kernel) hown hK.1 hP (gm_13 hG) fg_1 rfl 3 (by decide) (hts (.fieldLink RX4 13 "JugglingHall$Reader" "levels" "[LJugglingHall$Row;") (by decide +kernel)) (fun _ h9 => h9) rfl dX4_readOne_66 ?_
      refine lv_iload_n hx hb dX4_readOne_69 rfl (lv_at hl 2 rfl) ?_
      obtain ⟨c_12, fg_12, iv0_12⟩ := op_22 hI (gm_22 hG) (gs_22 hG)
      refine t_aald (L := L) (f := f) (y := c_12) (u := x.toInt) hx hb hK.1 hP (gm_22 hG) 1 fg_12 rfl dX4_readOne_70 (rfl) (by omega) (fun w_13 q_13 => ?_)
      obtain ⟨r_13, p_13, n_13, er_13, m_13, s_13⟩ := iv0_12 x.toInt (by omega) (by omega)
      have q_13 := q_13.trans er_13
      subst q_13
      refine W.eq (g2 := F0 m 71 ls [.ref r_13, .ref (g 13)]) rfl ?_
      obtain ⟨len_14, fg_14, v1_14, v2_14, v3_14, mp_14, sp_14⟩ := op_0 hI m_13 s_13
      obtain ⟨w1_14, w2_14, w3_14, w4_14, w5_14⟩ := lenw hj v1_14 v2_14 v3_14
      obtain ⟨c_15, fg_15, iv0_15⟩ := op_1 hI mp_14 sp_14
      refine call_p (va_runV (As := [.ref r_13]) (rest := []) ⟨hx, hb, hml, hown, hts⟩ (t_X4_readLetter l D cI cR cM _  hj hG hI m_13 s_13 fg_14 fg_15 (by first | assumption | omega)) (cwV 1 hts gX4_readOne_X4_readLetter rfl rfl rfl (by decide +kernel) ⟨Nat.le_of_ble_eq_true rfl, Nat.le_of_ble_eq_true rfl⟩) (pre_T hK hP hD (gm_13 hG) fg_1 rfl) rfl rfl hl.1 rfl (lv_room (Nat.le_of_ble_eq_true rfl)) dX4_readOne_71 ⟨Nat.le_of_ble_eq_true rfl, Nat.le_of_ble_eq_true rfl⟩) hD hS hA (fun u_16 H locs hw hP hD hS => ?_)
      obtain ⟨r_16, f_16⟩ := u_16
      obtain ⟨hI, hF_16, hTK_16, h01_16⟩ : IN jn cI cR cM g L S f_16 ∧ FR S [0, 1, 13, 14] f f_16 ∧ (TK g cI f_16) ∧ (r_16.toInt = 0 ∨ r_16.toInt = 1) := hw
      have hP : va_P D vwCl (va_pl L f_16) H := hP
      have hD : va_D A (va_pl L f_16) := hD
      have hF := FR_tr hF hF_16 (by decide)
      have fb_17 : f_16 (g 22) = .inl (cR, 6, .inr (.inr (.inr (.inr c_12)))) := FR_at hF_16 (gs_22 hG) (show (22 : Nat) ∉ ([0, 1, 13, 14] : List Nat) by decide) fg_12
      exact g_zret (r_16, f_16) hx hb hr hlocks hS (b01 (by omega)) rfl (⟨hI, hF, show TK g cI f_16 from (by first | assumption | omega), show r_16.toInt = 0 ∨ r_16.toInt = 1 from (by first | assumption | omega)⟩) hP hD hQ (Nat.le_of_ble_eq_true rfl) (Nat.le_of_ble_eq_true rfl) dX4_readOne_74
    · refine lv_lookup (off := 53) (tgt := 75) hx hb dX4_readOne_22 (by decide) (by rw [hu_5, c_5]; decide) (by decide) ?_
      refine lv_aload_n hx hb dX4_readOne_75 rfl (lv_at hl 1 rfl) ?_
      refine lv_aload_n hx hb dX4_readOne_76 rfl (lv_at hl 1 rfl) ?_
      refine t_get (D := D) (L := L) (f := f) (ci := 4) (v := .ref (g 22)) (C := RX4) (T := TX4) (N := 11) hx hb hts (by decide +kernel) hown hK.1 hP (gm_13 hG) fg_1 rfl 3 (by decide) (hts (.fieldLink RX4 13 "JugglingHall$Reader" "levels" "[LJugglingHall$Row;") (by decide +kernel)) (fun _ h9 => h9) rfl dX4_readOne_77 ?_
      refine lv_iload_n hx hb dX4_readOne_80 rfl (lv_at hl 2 rfl) ?_
      obtain ⟨c_18, fg_18, iv0_18⟩ := op_22 hI (gm_22 hG) (gs_22 hG)
      refine t_aald (L := L) (f := f) (y := c_18) (u := x.toInt) hx hb hK.1 hP (gm_22 hG) 1 fg_18 rfl dX4_readOne_81 (rfl) (by omega) (fun w_19 q_19 => ?_)
      obtain ⟨r_19, p_19, n_19, er_19, m_19, s_19⟩ := iv0_18 x.toInt (by omega) (by omega)
      have q_19 := q_19.trans er_19
      subst q_19
      refine W.eq (g2 := F0 m 82 ls [.ref r_19, .ref (g 13)]) rfl ?_
      obtain ⟨len_20, fg_20, v1_20, v2_20, v3_20, mp_20, sp_20⟩ := op_0 hI m_19 s_19
      obtain ⟨w1_20, w2_20, w3_20, w4_20, w5_20⟩ := lenw hj v1_20 v2_20 v3_20
      obtain ⟨c_21, fg_21, iv0_21⟩ := op_1 hI mp_20 sp_20
      refine call_p (va_runV (As := [.ref r_19]) (rest := []) ⟨hx, hb, hml, hown, hts⟩ (t_X4_readBeat l D cI cR cM _  hj hG hI m_19 s_19 fg_20 fg_21 (by first | assumption | omega)) (cwV 1 hts gX4_readOne_X4_readBeat rfl rfl rfl (by decide +kernel) ⟨Nat.le_of_ble_eq_true rfl, Nat.le_of_ble_eq_true rfl⟩) (pre_T hK hP hD (gm_13 hG) fg_1 rfl) rfl rfl hl.1 rfl (lv_room (Nat.le_of_ble_eq_true rfl)) dX4_readOne_82 ⟨Nat.le_of_ble_eq_true rfl, Nat.le_of_ble_eq_true rfl⟩) hD hS hA (fun u_22 H locs hw hP hD hS => ?_)
      obtain ⟨r_22, f_22⟩ := u_22
      obtain ⟨hI, hF_22, hTK_22, h01_22⟩ : IN jn cI cR cM g L S f_22 ∧ FR S [0, 1, 13, 14] f f_22 ∧ (TK g cI f_22) ∧ (r_22.toInt = 0 ∨ r_22.toInt = 1) := hw
      have hP : va_P D vwCl (va_pl L f_22) H := hP
      have hD : va_D A (va_pl L f_22) := hD
      have hF := FR_tr hF hF_22 (by decide)
      have fb_23 : f_22 (g 22) = .inl (cR, 6, .inr (.inr (.inr (.inr c_18)))) := FR_at hF_22 (gs_22 hG) (show (22 : Nat) ∉ ([0, 1, 13, 14] : List Nat) by decide) fg_18
      exact g_zret (r_22, f_22) hx hb hr hlocks hS (b01 (by omega)) rfl (⟨hI, hF, show TK g cI f_22 from (by first | assumption | omega), show r_22.toInt = 0 ∨ r_22.toInt = 1 from (by first | assumption | omega)⟩) hP hD hQ (Nat.le_of_ble_eq_true rfl) (Nat.le_of_ble_eq_true rfl) dX4_readOne_85
    · refine lv_lookup (off := 53) (tgt := 75) hx hb dX4_readOne_22 (by decide) (by rw [hu_5, c_5]; decide) (by decide) ?_
      refine lv_aload_n hx hb dX4_readOne_75 rfl (lv_at hl 1 rfl) ?_
      refine lv_aload_n hx hb dX4_readOne_76 rfl (lv_at hl 1 rfl) ?_
      refine t_get (D := D) (L := L) (f := f) (ci := 4) (v := .ref (g 22)) (C := RX4) (T := TX4) (N := 11) hx hb hts (by decide +kernel) hown hK.1 hP (gm_13 hG) fg_1 rfl 3 (by decide) (hts (.fieldLink RX4 13 "JugglingHall$Reader" "levels" "[LJugglingHall$Row;") (by decide +kernel)) (fun _ h9 => h9) rfl dX4_readOne_77 ?_
      refine lv_iload_n hx hb dX4_readOne_80 rfl (lv_at hl 2 rfl) ?_
      obtain ⟨c_24, fg_24, iv0_24⟩ := op_22 hI (gm_22 hG) (gs_22 hG)
      refine t_aald (L := L) (f := f) (y := c_24) (u := x.toInt) hx hb hK.1 hP (gm_22 hG) 1 fg_24 rfl dX4_readOne_81 (rfl) (by omega) (fun w_25 q_25 => ?_)
      obtain ⟨r_25, p_25, n_25, er_25, m_25, s_25⟩ := iv0_24 x.toInt (by omega) (by omega)
      have q_25 := q_25.trans er_25
      subst q_25
      refine W.eq (g2 := F0 m 82 ls [.ref r_25, .ref (g 13)]) rfl ?_
      obtain ⟨len_26, fg_26, v1_26, v2_26, v3_26, mp_26, sp_26⟩ := op_0 hI m_25 s_25
      obtain ⟨w1_26, w2_26, w3_26, w4_26, w5_26⟩ := lenw hj v1_26 v2_26 v3_26
      obtain ⟨c_27, fg_27, iv0_27⟩ := op_1 hI mp_26 sp_26
      refine call_p (va_runV (As := [.ref r_25]) (rest := []) ⟨hx, hb, hml, hown, hts⟩ (t_X4_readBeat l D cI cR cM _  hj hG hI m_25 s_25 fg_26 fg_27 (by first | assumption | omega)) (cwV 1 hts gX4_readOne_X4_readBeat rfl rfl rfl (by decide +kernel) ⟨Nat.le_of_ble_eq_true rfl, Nat.le_of_ble_eq_true rfl⟩) (pre_T hK hP hD (gm_13 hG) fg_1 rfl) rfl rfl hl.1 rfl (lv_room (Nat.le_of_ble_eq_true rfl)) dX4_readOne_82 ⟨Nat.le_of_ble_eq_true rfl, Nat.le_of_ble_eq_true rfl⟩) hD hS hA (fun u_28 H locs hw hP hD hS => ?_)
      obtain ⟨r_28, f_28⟩ := u_28
      obtain ⟨hI, hF_28, hTK_28, h01_28⟩ : IN jn cI cR cM g L S f_28 ∧ FR S [0, 1, 13, 14] f f_28 ∧ (TK g cI f_28) ∧ (r_28.toInt = 0 ∨ r_28.toInt = 1) := hw
      have hP : va_P D vwCl (va_pl L f_28) H := hP
      have hD : va_D A (va_pl L f_28) := hD
      have hF := FR_tr hF hF_28 (by decide)
      have fb_29 : f_28 (g 22) = .inl (cR, 6, .inr (.inr (.inr (.inr c_24)))) := FR_at hF_28 (gs_22 hG) (show (22 : Nat) ∉ ([0, 1, 13, 14] : List Nat) by decide) fg_24
      exact g_zret (r_28, f_28) hx hb hr hlocks hS (b01 (by omega)) rfl (⟨hI, hF, show TK g cI f_28 from (by first | assumption | omega), show r_28.toInt = 0 ∨ r_28.toInt = 1 from (by first | assumption | omega)⟩) hP hD hQ (Nat.le_of_ble_eq_true rfl) (Nat.le_of_ble_eq_true rfl) dX4_readOne_85
    · refine lv_lookup (off := 64) (tgt := 86) hx hb dX4_readOne_22 (by decide) (by rw [hu_5]; exact (show Op.lookupswitch.offset [(2, 53), (3, 42), (60, 53), (91, 53)] (64) kd_4.toInt = (64) from lkc (by omega) (lkc (by omega) (lkc (by omega) (lkc (by omega) (lkn _ _)))))) (by decide) ?_
      refine lv_aload_n hx hb dX4_readOne_86 rfl (lv_at hl 1 rfl) ?_
      refine lv_iload_n hx hb dX4_readOne_87 rfl (lv_at hl 0 rfl) ?_
      refine lv_iload_n hx hb dX4_readOne_88 rfl (lv_at hl 2 rfl) ?_
      refine call_p (va_runV (As := [.int kd_4, .int x]) (rest := []) ⟨hx, hb, hml, hown, hts⟩ (t_X4_openGroup l D cI cR cM _  hj hG hI  (by first | assumption | omega) (by first | assumption | omega)) (cwV 2 hts gX4_readOne_X4_openGroup rfl rfl rfl (by decide +kernel) ⟨Nat.le_of_ble_eq_true rfl, Nat.le_of_ble_eq_true rfl⟩) (pre_T hK hP hD (gm_13 hG) fg_1 rfl) rfl rfl hl.1 rfl (lv_room (Nat.le_of_ble_eq_true rfl)) dX4_readOne_89 ⟨Nat.le_of_ble_eq_true rfl, Nat.le_of_ble_eq_true rfl⟩) hD hS hA (fun u_30 H locs hw hP hD hS => ?_)
      obtain ⟨r_30, f_30⟩ := u_30
      obtain ⟨hI, hF_30, hd_30, hTK_30, h01_30⟩ : IN jn cI cR cM g L S f_30 ∧ FR S [13, 14, 34] f f_30 ∧ (r_30.toInt = 1 → x.toInt ≤ 4) ∧ (TK g cI f_30) ∧ (r_30.toInt = 0 ∨ r_30.toInt = 1) := hw
      have hP : va_P D vwCl (va_pl L f_30) H := hP
      have hD : va_D A (va_pl L f_30) := hD
      have hF := FR_tr hF hF_30 (by decide)
      refine a_if_eq (u := r_30.toInt) (tgt := 127) hx hb dX4_readOne_92 (by decide) (rfl) (fun c_31 => ?_) (fun c_31 => ?_)
      · refine lv_iconst (v := 0) hx hb dX4_readOne_127 (by decide) ?_
        have hz_32 : (0 : Int32).toInt = 0 := by decide
        exact g_zret ((0 : Int32), f_30) hx hb hr hlocks hS (by first | exact Or.inl rfl | exact Or.inr rfl) rfl (⟨hI, hF, show TK g cI f_30 from (by first | assumption | omega), show (0 : Int32).toInt = 0 ∨ (0 : Int32).toInt = 1 from (by first | assumption | omega)⟩) hP hD hQ (Nat.le_of_ble_eq_true rfl) (Nat.le_of_ble_eq_true rfl) dX4_readOne_128
      · refine lv_aload_n hx hb dX4_readOne_95 rfl (lv_at hl 1 rfl) ?_
        refine lv_iload_n hx hb dX4_readOne_96 rfl (lv_at hl 2 rfl) ?_
        refine lv_iconst (v := 1) hx hb dX4_readOne_97 (by decide) ?_
        refine a_iadd (u := x.toInt) (v := 1) hx hb dX4_readOne_98 (rfl) (by decide) (by omega) (fun z_33 e_33 => ?_)
        obtain ⟨fa_34, pl_34, fg_34⟩ := op_13 hI (gm_13 hG) (gs_13 hG)
        refine call_p (va_runV (As := [.int z_33]) (rest := []) ⟨hx, hb, hml, hown, hts⟩ (t_X4_readSequence_2 l D cI cR cM _  hj hG hI  (by first | assumption | omega) (by first | assumption | omega)) (cwV 1 hts gX4_readOne_X4_readSequence rfl rfl rfl (by decide +kernel) ⟨Nat.le_of_ble_eq_true rfl, Nat.le_of_ble_eq_true rfl⟩) (pre_T hK hP hD (gm_13 hG) fg_34 rfl) rfl rfl hl.1 rfl (lv_room (Nat.le_of_ble_eq_true rfl)) dX4_readOne_99 ⟨Nat.le_of_ble_eq_true rfl, Nat.le_of_ble_eq_true rfl⟩) hD hS hA (fun u_35 H locs hw hP hD hS => ?_)
        obtain ⟨r_35, f_35⟩ := u_35
        obtain ⟨hI, hF_35, hTK_35, h01_35⟩ : IN jn cI cR cM g L S f_35 ∧ FR S [0, 1, 13, 14, 34] f_30 f_35 ∧ (TK g cI f_35) ∧ (r_35.toInt = 0 ∨ r_35.toInt = 1) := hw
        have hP : va_P D vwCl (va_pl L f_35) H := hP
        have hD : va_D A (va_pl L f_35) := hD
        have hF := FR_tr hF hF_35 (by decide)
        refine a_if_eq (u := r_35.toInt) (tgt := 127) hx hb dX4_readOne_102 (by decide) (rfl) (fun c_36 => ?_) (fun c_36 => ?_)
        · refine lv_iconst (v := 0) hx hb dX4_readOne_127 (by decide) ?_
          have hz_37 : (0 : Int32).toInt = 0 := by decide
          exact g_zret ((0 : Int32), f_35) hx hb hr hlocks hS (by first | exact Or.inl rfl | exact Or.inr rfl) rfl (⟨hI, hF, show TK g cI f_35 from (by first | assumption | omega), show (0 : Int32).toInt = 0 ∨ (0 : Int32).toInt = 1 from (by first | assumption | omega)⟩) hP hD hQ (Nat.le_of_ble_eq_true rfl) (Nat.le_of_ble_eq_true rfl) dX4_readOne_128
        · refine lv_aload_n hx hb dX4_readOne_105 rfl (lv_at hl 1 rfl) ?_
          refine lv_bipush (v := 41) hx hb dX4_readOne_106 (by decide) ?_
          have hz_38 : (41 : Int32).toInt = 41 := by decide
          obtain ⟨fa_39, pl_39, fg_39⟩ := op_13 hI (gm_13 hG) (gs_13 hG)
          refine call_p (va_runV (As := [.int 41]) (rest := []) ⟨hx, hb, hml, hown, hts⟩ (t_X4_expect l D cI cR cM _  hj hG hI  (by first | assumption | omega)) (cwV 1 hts gX4_readOne_X4_expect rfl rfl rfl (by decide +kernel) ⟨Nat.le_of_ble_eq_true rfl, Nat.le_of_ble_eq_true rfl⟩) (pre_T hK hP hD (gm_13 hG) fg_39 rfl) rfl rfl hl.1 rfl (lv_room (Nat.le_of_ble_eq_true rfl)) dX4_readOne_108 ⟨Nat.le_of_ble_eq_true rfl, Nat.le_of_ble_eq_true rfl⟩) hD hS hA (fun u_40 H locs hw hP hD hS => ?_)
          obtain ⟨r_40, f_40⟩ := u_40
          obtain ⟨hI, hF_40, he_40, hTK_40, h01_40⟩ : IN jn cI cR cM g L S f_40 ∧ FR S [13, 14] f_35 f_40 ∧ (∀ cnt9 nx9 kd9 vl9 st9 ls9, f_35 (g 14) = .inr (8, [.ref (g 11), .ref (g 31), .ref (g 32), .ref (g 33), .int cnt9, .int nx9, .int kd9, .int vl9, .int st9, .int ls9]) → r_40.toInt = 1 → kd9.toInt = (41 : Int32).toInt) ∧ (TK g cI f_40) ∧ (r_40.toInt = 0 ∨ r_40.toInt = 1) := hw
          have hP : va_P D vwCl (va_pl L f_40) H := hP
          have hD : va_D A (va_pl L f_40) := hD
          have hF := FR_tr hF hF_40 (by decide)
          refine a_if_eq (u := r_40.toInt) (tgt := 127) hx hb dX4_readOne_111 (by decide) (rfl) (fun c_41 => ?_) (fun c_41 => ?_)
          · refine lv_iconst (v := 0) hx hb dX4_readOne_127 (by decide) ?_
            have hz_42 : (0 : Int32).toInt = 0 := by decide
            exact g_zret ((0 : Int32), f_40) hx hb hr hlocks hS (by first | exact Or.inl rfl | exact Or.inr rfl) rfl (⟨hI, hF, show TK g cI f_40 from (by first | assumption | omega), show (0 : Int32).toInt = 0 ∨ (0 : Int32).toInt = 1 from (by first | assumption | omega)⟩) hP hD hQ (Nat.le_of_ble_eq_true rfl) (Nat.le_of_ble_eq_true rfl) dX4_readOne_128
          · refine lv_aload_n hx hb dX4_readOne_114 rfl (lv_at hl 1 rfl) ?_
            refine lv_iload_n hx hb dX4_readOne_115 rfl (lv_at hl 0 rfl) ?_
            refine lv_iload_n hx hb dX4_readOne_116 rfl (lv_at hl 2 rfl) ?_
            obtain ⟨fa_43, pl_43, fg_43⟩ := op_13 hI (gm_13 hG) (gs_13 hG)
            refine call_p (va_runV (As := [.int kd_4, .int x]) (rest := []) ⟨hx, hb, hml, hown, hts⟩ (t_X4_joinGroup l D cI cR cM _  hj hG hI  (by first | assumption | omega) (by first | assumption | omega)) (cwV 2 hts gX4_readOne_X4_joinGroup rfl rfl rfl (by decide +kernel) ⟨Nat.le_of_ble_eq_true rfl, Nat.le_of_ble_eq_true rfl⟩) (pre_T hK hP hD (gm_13 hG) fg_43 rfl) rfl rfl hl.1 rfl (lv_room (Nat.le_of_ble_eq_true rfl)) dX4_readOne_117 ⟨Nat.le_of_ble_eq_true rfl, Nat.le_of_ble_eq_true rfl⟩) hD hS hA (fun u_44 H locs hw hP hD hS => ?_)
            obtain ⟨r_44, f_44⟩ := u_44
            obtain ⟨hI, hF_44, hTK_44, h01_44⟩ : IN jn cI cR cM g L S f_44 ∧ FR S [0, 1, 13] f_40 f_44 ∧ (TK g cI f_44) ∧ (r_44.toInt = 0 ∨ r_44.toInt = 1) := hw
            have hP : va_P D vwCl (va_pl L f_44) H := hP
            have hD : va_D A (va_pl L f_44) := hD
            have hF := FR_tr hF hF_44 (by decide)
            refine a_if_eq (u := r_44.toInt) (tgt := 127) hx hb dX4_readOne_120 (by decide) (rfl) (fun c_45 => ?_) (fun c_45 => ?_)
            · refine lv_iconst (v := 0) hx hb dX4_readOne_127 (by decide) ?_
              have hz_46 : (0 : Int32).toInt = 0 := by decide
              exact g_zret ((0 : Int32), f_44) hx hb hr hlocks hS (by first | exact Or.inl rfl | exact Or.inr rfl) rfl (⟨hI, hF, show TK g cI f_44 from (by first | assumption | omega), show (0 : Int32).toInt = 0 ∨ (0 : Int32).toInt = 1 from (by first | assumption | omega)⟩) hP hD hQ (Nat.le_of_ble_eq_true rfl) (Nat.le_of_ble_eq_true rfl) dX4_readOne_128
            · refine lv_iconst (v := 1) hx hb dX4_readOne_123 (by decide) ?_
              refine lv_goto (tgt := 128) hx hb dX4_readOne_124 (by decide) ?_
              have hz_47 : (1 : Int32).toInt = 1 := by decide
              exact g_zret ((1 : Int32), f_44) hx hb hr hlocks hS (by first | exact Or.inl rfl | exact Or.inr rfl) rfl (⟨hI, hF, show TK g cI f_44 from (by first | assumption | omega), show (1 : Int32).toInt = 0 ∨ (1 : Int32).toInt = 1 from (by first | assumption | omega)⟩) hP hD hQ (Nat.le_of_ble_eq_true rfl) (Nat.le_of_ble_eq_true rfl) dX4_readOne_128
  · refine lv_aload_n hx hb dX4_readOne_7 rfl (lv_at hl 0 rfl) ?_
    refine lv_iconst (v := 1) hx hb dX4_readOne_8 (by decide) ?_
    have hz_48 : (1 : Int32).toInt = 1 := by decide
    refine call_p (va_runV (As := [.int 1]) (rest := []) ⟨hx, hb, hml, hown, hts⟩ (t_X4_fail l D cI cR cM _  hj hG hI  ) (cwV 1 hts gX4_readOne_X4_fail rfl rfl rfl (by decide +kernel) ⟨Nat.le_of_ble_eq_true rfl, Nat.le_of_ble_eq_true rfl⟩) (pre_T hK hP hD (gm_13 hG) fg_1 rfl) rfl rfl hl.1 rfl (lv_room (Nat.le_of_ble_eq_true rfl)) dX4_readOne_9 ⟨Nat.le_of_ble_eq_true rfl, Nat.le_of_ble_eq_true rfl⟩) hD hS hA (fun u_49 H locs hw hP hD hS => ?_)
    obtain ⟨r_49, f_49⟩ := u_49
    obtain ⟨hI, hF_49, h0_49, h01_49⟩ : IN jn cI cR cM g L S f_49 ∧ FR S [13] f f_49 ∧ (r_49.toInt = 0) ∧ (r_49.toInt = 0 ∨ r_49.toInt = 1) := hw
    have hP : va_P D vwCl (va_pl L f_49) H := hP
    have hD : va_D A (va_pl L f_49) := hD
    have hF := FR_tr hF hF_49 (by decide)
    have hTK_49 : TK g cI f_49 := TK_fr (f := f) (by assumption) hG hF_49 (by decide)
    exact g_zret (r_49, f_49) hx hb hr hlocks hS (b01 (by omega)) rfl (⟨hI, hF, show TK g cI f_49 from (by first | assumption | omega), show r_49.toInt = 0 ∨ r_49.toInt = 1 from (by first | assumption | omega)⟩) hP hD hQ (Nat.le_of_ble_eq_true rfl) (Nat.le_of_ble_eq_true rfl) dX4_readOne_12
set_option maxRecDepth 100000 in
set_option maxHeartbeats 4000000 in
theorem t_X4_readSequence_3 (l : Launch) (D : va_G) (cI cR cM : ClassId) (sz : Nat) {jn : Nat} {g : Nat → Nat} {L : List Nat} {S : Sg} {f : Nat → va_E} {x : Int32}  (hj : 1 ≤ jn ∧ jn ≤ 3) (hG : SG g L S) (hI : IN jn cI cR cM g L S f) (hd : 3 ≤ x.toInt) (hTK : TK g cI f) : Met l yX4_readSequence wsX4_readSequence ({ frames := 9, cells := 0, slots := 0, locals := 250 }) (P0 D cI cR cM [.ref (g 13), .int x] sz (va_pl L f)) (QG (S := Int32 × (Nat → va_E)) (fun u => some (.int u.1)) (fun u => va_pl L u.2) (fun u => IN jn cI cR cM g L S u.2 ∧ FR S [0, 1, 13, 14, 34] f u.2 ∧ (TK g cI u.2) ∧ (u.1.toInt = 0 ∨ u.1.toInt = 1)) D (va_A (va_pl L f) sz)) 0 0 (va_A (va_pl L f) sz) := by
  refine go (cc := cX4_readSequence) (maxL := 5) (ret := (some .boolean)) (by decide +kernel) rfl (Nat.le_of_ble_eq_true rfl) ?_
  intro p e s m below meth c ls args Q hQ hsz hx hb hr hml hts hown hlocks hnm hP hK hD hl
  subst hsz
  have hD := hD.self (sz := s.heap.size)
  generalize hAe : va_A (va_pl L f) s.heap.size = A at hD hQ
  have hA : ∀ q, s.heap.size ≤ q → A q := fun q h => by rw [← hAe]; exact Or.inr h
  have hS : va_S A s.heap s.heap [] := va_S.rf
  have hF : FR S [0, 1, 13, 14, 34] f f := FR_rf
  have hl : lv_has ls 5 [(0, .ref (g 13)), (1, .int x)] := hl
  refine lv_iload_n hx hb dX4_readSequence_0 rfl (lv_at hl 1 rfl) ?_
  refine a_if_lt (u := x.toInt) (tgt := 9) hx hb dX4_readSequence_1 (by decide) (rfl) (fun c_1 => ?_) (fun c_1 => ?_)
  · refine lv_aload_n hx hb dX4_readSequence_9 rfl (lv_at hl 0 rfl) ?_
    refine lv_iconst (v := 3) hx hb dX4_readSequence_10 (by decide) ?_
    have hz_2 : (3 : Int32).toInt = 3 := by decide
    obtain ⟨fa_3, pl_3, fg_3⟩ := op_13 hI (gm_13 hG) (gs_13 hG)
    refine call_p (va_runV (As := [.int 3]) (rest := []) ⟨hx, hb, hml, hown, hts⟩ (t_X4_fail l D cI cR cM _  hj hG hI  ) (cwV 1 hts gX4_readSequence_X4_fail rfl rfl rfl (by decide +kernel) ⟨Nat.le_of_ble_eq_true rfl, Nat.le_of_ble_eq_true rfl⟩) (pre_T hK hP hD (gm_13 hG) fg_3 rfl) rfl rfl hl.1 rfl (lv_room (Nat.le_of_ble_eq_true rfl)) dX4_readSequence_11 ⟨Nat.le_of_ble_eq_true rfl, Nat.le_of_ble_eq_true rfl⟩) hD hS hA (fun u_4 H locs hw hP hD hS => ?_)
    obtain ⟨r_4, f_4⟩ := u_4
    obtain ⟨hI, hF_4, h0_4, h01_4⟩ : IN jn cI cR cM g L S f_4 ∧ FR S [13] f f_4 ∧ (r_4.toInt = 0) ∧ (r_4.toInt = 0 ∨ r_4.toInt = 1) := hw
    have hP : va_P D vwCl (va_pl L f_4) H := hP
    have hD : va_D A (va_pl L f_4) := hD
    have hF := FR_tr hF hF_4 (by decide)
    have hTK_4 : TK g cI f_4 := TK_fr (f := f) (by assumption) hG hF_4 (by decide)
    exact g_zret (r_4, f_4) hx hb hr hlocks hS (b01 (by omega)) rfl (⟨hI, hF, show TK g cI f_4 from (by first | assumption | omega), show r_4.toInt = 0 ∨ r_4.toInt = 1 from (by first | assumption | omega)⟩) hP hD hQ (Nat.le_of_ble_eq_true rfl) (Nat.le_of_ble_eq_true rfl) dX4_readSequence_14
  · refine lv_iload_n hx hb dX4_readSequence_4 rfl (lv_at hl 1 rfl) ?_
    refine lv_iconst (v := 5) hx hb dX4_readSequence_5 (by decide) ?_
    refine a_icmp_le (u := x.toInt) (v := 5) (tgt := 15) hx hb dX4_readSequence_6 (by decide) (rfl) (by decide) (fun c_5 => ?_) (fun c_5 => ?_)
    · refine lv_aload_n hx hb dX4_readSequence_15 rfl (lv_at hl 0 rfl) ?_
      obtain ⟨fa_6, pl_6, fg_6⟩ := op_13 hI (gm_13 hG) (gs_13 hG)
      refine t_get (D := D) (L := L) (f := f) (ci := 4) (v := .ref (g 22)) (C := RX4) (T := TX4) (N := 11) hx hb hts (by decide +kernel) hown hK.1 hP (gm_13 hG) fg_6 rfl 3 (by decide) (hts (.fieldLink RX4 13 "JugglingHall$Reader" "levels" "[LJugglingHall$Row;") (by decide +kernel)) (fun _ h9 => h9) rfl dX4_readSequence_16 ?_
      refine lv_iload_n hx hb dX4_readSequence_19 rfl (lv_at hl 1 rfl) ?_
      obtain ⟨c_7, fg_7, iv0_7⟩ := op_22 hI (gm_22 hG) (gs_22 hG)
      refine t_aald (L := L) (f := f) (y := c_7) (u := x.toInt) hx hb hK.1 hP (gm_22 hG) 1 fg_7 rfl dX4_readSequence_20 (rfl) (by omega) (fun w_8 q_8 => ?_)
      obtain ⟨r_8, p_8, n_8, er_8, m_8, s_8⟩ := iv0_7 x.toInt (by omega) (by omega)
      have q_8 := q_8.trans er_8
      subst q_8
      refine W.eq (g2 := F0 m 21 ls [.ref r_8]) rfl ?_
      refine lv_astore_n (lv' := [(2, .ref r_8), (0, .ref (g 13)), (1, .int x)]) hx hb dX4_readSequence_21 rfl hl (by decide) rfl (fun ls hl => ?_)
      refine lv_aload_n hx hb dX4_readSequence_22 rfl (lv_at hl 0 rfl) ?_
      refine lv_iconst (v := 0) hx hb dX4_readSequence_23 (by decide) ?_
      obtain ⟨len_9, fg_9, v1_9, v2_9, v3_9, mp_9, sp_9⟩ := op_0 hI m_8 s_8
      obtain ⟨w1_9, w2_9, w3_9, w4_9, w5_9⟩ := lenw hj v1_9 v2_9 v3_9
      have hz_11 : (0 : Int32).toInt = 0 := by decide
      refine t_putN (D := D) (L := L) (f := f) (ci := 5) (v := .int 0) (ty := .int) (C := RX5) (T := TX5) (N := 4) (host := "JugglingHall") hx hb hts (by decide +kernel) tyX5 tyX5_ok nmX5 hown hK.1 hP hD hS m_8 fg_9 rfl 3 (by decide) (hK.nw (.fieldLinkNest RX4 62 "JugglingHall$Row" "length" "I" "JugglingHall") (by decide +kernel) rfl) (fun _ h9 => h9) rfl (by decide +kernel) rfl rfl (Nat.le_of_ble_eq_true rfl) dX4_readSequence_24 (fun f_10 H locs e9_10 o_10 hP hD hS => ?_)
      have fa_10 : f_10 r_8 = .inr (5, [.int (nI jn), .int (nI (2 * jn)), .ref p_8, .int 0]) := e9_10
      have hI := IN_set (e := .inr (5, [.int (nI jn), .int (nI (2 * jn)), .ref p_8, .int 0])) hI s_8 (mk_0 (by first | assumption | omega) (by rw [show (0 : Int32).toInt = 0 from rfl, Int.zero_mul]; omega) (by first | assumption | omega) (by first | assumption | omega) (by first | assumption | omega)) fa_10 o_10
      have hF := FR_set hF s_8 (show (0 : Nat) ∈ ([0, 1, 13, 14, 34] : List Nat) by decide) o_10
      have hTK_10 : TK g cI f_10 := TK_set (f := f) (by assumption) hG s_8 (show (0 : Nat) ∉ ([14, 31, 32] : List Nat) by decide) o_10
      have fb_12 : f_10 (g 13) = .inr (4, [.int (nI jn), .ref (g 14), .ref (g 12), .ref (g 22), .ref (g 34), .ref (g 23), .ref (g 24), .ref (g 25), .ref (g 26), .int fa_6, .int pl_6]) := f_at o_10 (S_ne (gs_13 hG) s_8 (show (13 : Nat) ≠ 0 by decide)) fg_6
      have fb_13 : f_10 (g 22) = .inl (cR, 6, .inr (.inr (.inr (.inr c_7)))) := f_at o_10 (S_ne (gs_22 hG) s_8 (show (22 : Nat) ≠ 0 by decide)) fg_7
      refine lv_iconst (v := 0) hx hb dX4_readSequence_27 (by decide) ?_
      refine lv_istore_n (lv' := [(3, .int 0), (2, .ref r_8), (0, .ref (g 13)), (1, .int x)]) hx hb dX4_readSequence_28 rfl hl (by decide) rfl (fun ls hl => ?_)
      have loop29 : ∀ (ddloop29 : Nat) (ii : Int32) (f_14 : Nat → va_E) (H : Heap) (locs : List Loc) (ls : Array Slot), (400 - ii.toInt).toNat < ddloop29 → IN jn cI cR cM g L S f_14 → FR S [0, 1, 13, 14, 34] f f_14 → (0 ≤ ii.toInt ∧ ii.toInt ≤ 301) → (TK g cI f_14) → va_P D vwCl (va_pl L f_14) H → va_D A (va_pl L f_14) → va_S A s.heap H locs → lv_has ls 5 [(0, .ref (g 13)), (1, .int x), (2, .ref r_8), (3, .int ii)] → W p l e ({ frames := 9, cells := 0, slots := 0, locals := 250 }) s m args below meth c H locs 0 0 Q (F0 m 29 ls []) := by
        intro ddloop29
        induction ddloop29 with
        | zero =>
          intro ii f_14 H locs ls hdd
          exact absurd hdd (Nat.not_lt_zero _)
        | succ ddloop29 ih29 =>
          intro ii f_14 H locs ls hdd hI hF hi hTK hP hD hS hl
          refine lv_iload_n hx hb dX4_readSequence_29 rfl (lv_at hl 3 rfl) ?_
          refine lv_sipush (v := 300) hx hb dX4_readSequence_30 (by decide) ?_
          refine a_icmp_gt (u := ii.toInt) (v := 300) (tgt := 79) hx hb dX4_readSequence_33 (by decide) (rfl) (by decide) (fun c_15 => ?_) (fun c_15 => ?_)
          · refine lv_iconst (v := 1) hx hb dX4_readSequence_79 (by decide) ?_
            have hz_16 : (1 : Int32).toInt = 1 := by decide
            exact g_zret ((1 : Int32), f_14) hx hb hr hlocks hS (by first | exact Or.inl rfl | exact Or.inr rfl) rfl (⟨hI, hF, show TK g cI f_14 from (by first | assumption | omega), show (1 : Int32).toInt = 0 ∨ (1 : Int32).toInt = 1 from (by first | assumption | omega)⟩) hP hD hQ (Nat.le_of_ble_eq_true rfl) (Nat.le_of_ble_eq_true rfl) dX4_readSequence_80
          · refine lv_iload_n hx hb dX4_readSequence_36 rfl (lv_at hl 3 rfl) ?_
            refine a_if_eq (u := ii.toInt) (tgt := 47) hx hb dX4_readSequence_37 (by decide) (rfl) (fun c_17 => ?_) (fun c_17 => ?_)
            · refine lv_aload_n hx hb dX4_readSequence_47 rfl (lv_at hl 2 rfl) ?_
              obtain ⟨len_18, fg_18, v1_18, v2_18, v3_18, mp_18, sp_18⟩ := op_0 hI m_8 s_8
              obtain ⟨w1_18, w2_18, w3_18, w4_18, w5_18⟩ := lenw hj v1_18 v2_18 v3_18
              refine t_getN (D := D) (L := L) (f := f_14) (ci := 5) (v := .int len_18) (C := RX5) (T := TX5) (N := 4) (host := "JugglingHall") hx hb hts (by decide +kernel) hown hK.1 hP m_8 fg_18 rfl 3 (by decide) (hK.nw (.fieldLinkNest RX4 62 "JugglingHall$Row" "length" "I" "JugglingHall") (by decide +kernel) rfl) (fun _ h9 => h9) rfl dX4_readSequence_48 ?_
              refine lv_istore (lv' := [(4, .int len_18), (0, .ref (g 13)), (1, .int x), (2, .ref r_8), (3, .int ii)]) hx hb dX4_readSequence_51 hl (by decide) rfl (fun ls hl => ?_)
              refine lv_aload_n hx hb dX4_readSequence_53 rfl (lv_at hl 1 rfl) ?_
              refine lv_iload_n hx hb dX4_readSequence_54 rfl (lv_at hl 2 rfl) ?_
              obtain ⟨fa_19, pl_19, fg_19⟩ := op_13 hI (gm_13 hG) (gs_13 hG)
              refine call_p (va_runV (As := [.int x]) (rest := []) ⟨hx, hb, hml, hown, hts⟩ (t_X4_readOne_3 l D cI cR cM _  hj hG hI  (by first | assumption | omega) (by first | assumption | omega) (by first | assumption | omega)) (cwV 1 hts gX4_readSequence_X4_readOne rfl rfl rfl (by decide +kernel) ⟨Nat.le_of_ble_eq_true rfl, Nat.le_of_ble_eq_true rfl⟩) (pre_T hK hP hD (gm_13 hG) fg_19 rfl) rfl rfl hl.1 rfl (lv_room (Nat.le_of_ble_eq_true rfl)) dX4_readSequence_55 ⟨Nat.le_of_ble_eq_true rfl, Nat.le_of_ble_eq_true rfl⟩) hD hS hA (fun u_20 H locs hw hP hD hS => ?_)
              obtain ⟨r_20, f_20⟩ := u_20
              obtain ⟨hI, hF_20, hTK_20, h01_20⟩ : IN jn cI cR cM g L S f_20 ∧ FR S [0, 1, 13, 14, 34] f_14 f_20 ∧ (TK g cI f_20) ∧ (r_20.toInt = 0 ∨ r_20.toInt = 1) := hw
              have hP : va_P D vwCl (va_pl L f_20) H := hP
              have hD : va_D A (va_pl L f_20) := hD
              have hF := FR_tr hF hF_20 (by decide)
              refine a_if_eq (u := r_20.toInt) (tgt := 71) hx hb dX4_readSequence_58 (by decide) (rfl) (fun c_21 => ?_) (fun c_21 => ?_)
              · refine lv_iconst (v := 0) hx hb dX4_readSequence_71 (by decide) ?_
                have hz_22 : (0 : Int32).toInt = 0 := by decide
                exact g_zret ((0 : Int32), f_20) hx hb hr hlocks hS (by first | exact Or.inl rfl | exact Or.inr rfl) rfl (⟨hI, hF, show TK g cI f_20 from (by first | assumption | omega), show (0 : Int32).toInt = 0 ∨ (0 : Int32).toInt = 1 from (by first | assumption | omega)⟩) hP hD hQ (Nat.le_of_ble_eq_true rfl) (Nat.le_of_ble_eq_true rfl) dX4_readSequence_72
              · refine lv_aload_n hx hb dX4_readSequence_61 rfl (lv_at hl 1 rfl) ?_
                refine lv_aload_n hx hb dX4_readSequence_62 rfl (lv_at hl 3 rfl) ?_
                refine lv_iload hx hb dX4_readSequence_63 (lv_at hl 0 rfl) ?_
                obtain ⟨fa_23, pl_23, fg_23⟩ := op_13 hI (gm_13 hG) (gs_13 hG)
                obtain ⟨len_24, fg_24, v1_24, v2_24, v3_24, mp_24, sp_24⟩ := op_0 hI m_8 s_8
                obtain ⟨w1_24, w2_24, w3_24, w4_24, w5_24⟩ := lenw hj v1_24 v2_24 v3_24
                obtain ⟨c_25, fg_25, iv0_25⟩ := op_1 hI mp_9 sp_9
                refine call_p (va_runV (As := [.ref r_8, .int len_18]) (rest := []) ⟨hx, hb, hml, hown, hts⟩ (t_X4_readTimes l D cI cR cM _  hj hG hI m_8 s_8 fg_24 fg_25 (by first | assumption | omega) (by first | assumption | omega)) (cwV 2 hts gX4_readSequence_X4_readTimes rfl rfl rfl (by decide +kernel) ⟨Nat.le_of_ble_eq_true rfl, Nat.le_of_ble_eq_true rfl⟩) (pre_T hK hP hD (gm_13 hG) fg_23 rfl) rfl rfl hl.1 rfl (lv_room (Nat.le_of_ble_eq_true rfl)) dX4_readSequence_65 ⟨Nat.le_of_ble_eq_true rfl, Nat.le_of_ble_eq_true rfl⟩) hD hS hA (fun u_26 H locs hw hP hD hS => ?_)
                obtain ⟨r_26, f_26⟩ := u_26
                obtain ⟨hI, hF_26, hTK_26, h01_26⟩ : IN jn cI cR cM g L S f_26 ∧ FR S [0, 1, 13, 14] f_20 f_26 ∧ (TK g cI f_26) ∧ (r_26.toInt = 0 ∨ r_26.toInt = 1) := hw
                have hP : va_P D vwCl (va_pl L f_26) H := hP
                have hD : va_D A (va_pl L f_26) := hD
                have hF := FR_tr hF hF_26 (by decide)
                refine a_if_ne (u := r_26.toInt) (tgt := 73) hx hb dX4_readSequence_68 (by decide) (rfl) (fun c_27 => ?_) (fun c_27 => ?_)
                · obtain ⟨z_28, q_28, e_28⟩ := i_inc (a := ii.toInt) (1) (rfl) (by decide) (by omega) (by omega)
                  refine lv_iinc (v := z_28) (lv' := [(3, .int z_28), (4, .int len_18), (0, .ref (g 13)), (1, .int x), (2, .ref r_8)]) hx hb dX4_readSequence_73 hl (k := 4) rfl q_28 (by decide) rfl (fun ls hl => ?_)
                  refine lv_goto (tgt := 29) hx hb dX4_readSequence_76 (by decide) ?_
                  exact ih29 z_28 f_26 _ _ _ (by omega) hI hF (by first | assumption | omega) (by first | assumption | omega) hP hD hS (lv_sub hl [2, 3, 4, 0] rfl)
                · refine lv_iconst (v := 0) hx hb dX4_readSequence_71 (by decide) ?_
                  have hz_29 : (0 : Int32).toInt = 0 := by decide
                  exact g_zret ((0 : Int32), f_26) hx hb hr hlocks hS (by first | exact Or.inl rfl | exact Or.inr rfl) rfl (⟨hI, hF, show TK g cI f_26 from (by first | assumption | omega), show (0 : Int32).toInt = 0 ∨ (0 : Int32).toInt = 1 from (by first | assumption | omega)⟩) hP hD hQ (Nat.le_of_ble_eq_true rfl) (Nat.le_of_ble_eq_true rfl) dX4_readSequence_72
            · refine lv_aload_n hx hb dX4_readSequence_40 rfl (lv_at hl 0 rfl) ?_
              obtain ⟨fa_30, pl_30, fg_30⟩ := op_13 hI (gm_13 hG) (gs_13 hG)
              refine roP (va_runV (As := []) (rest := []) ⟨hx, hb, hml, hown, hts⟩ (t_X4_beginsOne l D cI cR cM _  hj hG hI  ) (cwV 0 hts gX4_readSequence_X4_beginsOne rfl rfl rfl (by decide +kernel) ⟨Nat.le_of_ble_eq_true rfl, Nat.le_of_ble_eq_true rfl⟩) (pre_T hK hP hD (gm_13 hG) fg_30 rfl) rfl rfl hl.1 rfl (lv_room (Nat.le_of_ble_eq_true rfl)) dX4_readSequence_41 ⟨Nat.le_of_ble_eq_true rfl, Nat.le_of_ble_eq_true rfl⟩) hS hA hP (fun r_31 H locs hw hP hS => ?_)
              have h01_31 : (r_31.toInt = 0 ∨ r_31.toInt = 1) := hw
              refine a_if_eq (u := r_31.toInt) (tgt := 79) hx hb dX4_readSequence_44 (by decide) (rfl) (fun c_32 => ?_) (fun c_32 => ?_)
              · refine lv_iconst (v := 1) hx hb dX4_readSequence_79 (by decide) ?_
                have hz_33 : (1 : Int32).toInt = 1 := by decide
                exact g_zret ((1 : Int32), f_14) hx hb hr hlocks hS (by first | exact Or.inl rfl | exact Or.inr rfl) rfl (⟨hI, hF, show TK g cI f_14 from (by first | assumption | omega), show (1 : Int32).toInt = 0 ∨ (1 : Int32).toInt = 1 from (by first | assumption | omega)⟩) hP hD hQ (Nat.le_of_ble_eq_true rfl) (Nat.le_of_ble_eq_true rfl) dX4_readSequence_80
              · refine lv_aload_n hx hb dX4_readSequence_47 rfl (lv_at hl 2 rfl) ?_
                obtain ⟨len_34, fg_34, v1_34, v2_34, v3_34, mp_34, sp_34⟩ := op_0 hI m_8 s_8
                obtain ⟨w1_34, w2_34, w3_34, w4_34, w5_34⟩ := lenw hj v1_34 v2_34 v3_34
                refine t_getN (D := D) (L := L) (f := f_14) (ci := 5) (v := .int len_34) (C := RX5) (T := TX5) (N := 4) (host := "JugglingHall") hx hb hts (by decide +kernel) hown hK.1 hP m_8 fg_34 rfl 3 (by decide) (hK.nw (.fieldLinkNest RX4 62 "JugglingHall$Row" "length" "I" "JugglingHall") (by decide +kernel) rfl) (fun _ h9 => h9) rfl dX4_readSequence_48 ?_
                refine lv_istore (lv' := [(4, .int len_34), (0, .ref (g 13)), (1, .int x), (2, .ref r_8), (3, .int ii)]) hx hb dX4_readSequence_51 hl (by decide) rfl (fun ls hl => ?_)
                refine lv_aload_n hx hb dX4_readSequence_53 rfl (lv_at hl 1 rfl) ?_
                refine lv_iload_n hx hb dX4_readSequence_54 rfl (lv_at hl 2 rfl) ?_
                refine call_p (va_runV (As := [.int x]) (rest := []) ⟨hx, hb, hml, hown, hts⟩ (t_X4_readOne_3 l D cI cR cM _  hj hG hI  (by first | assumption | omega) (by first | assumption | omega) (by first | assumption | omega)) (cwV 1 hts gX4_readSequence_X4_readOne rfl rfl rfl (by decide +kernel) ⟨Nat.le_of_ble_eq_true rfl, Nat.le_of_ble_eq_true rfl⟩) (pre_T hK hP hD (gm_13 hG) fg_30 rfl) rfl rfl hl.1 rfl (lv_room (Nat.le_of_ble_eq_true rfl)) dX4_readSequence_55 ⟨Nat.le_of_ble_eq_true rfl, Nat.le_of_ble_eq_true rfl⟩) hD hS hA (fun u_35 H locs hw hP hD hS => ?_)
                obtain ⟨r_35, f_35⟩ := u_35
                obtain ⟨hI, hF_35, hTK_35, h01_35⟩ : IN jn cI cR cM g L S f_35 ∧ FR S [0, 1, 13, 14, 34] f_14 f_35 ∧ (TK g cI f_35) ∧ (r_35.toInt = 0 ∨ r_35.toInt = 1) := hw
                have hP : va_P D vwCl (va_pl L f_35) H := hP
                have hD : va_D A (va_pl L f_35) := hD
                have hF := FR_tr hF hF_35 (by decide)
                refine a_if_eq (u := r_35.toInt) (tgt := 71) hx hb dX4_readSequence_58 (by decide) (rfl) (fun c_36 => ?_) (fun c_36 => ?_)
                · refine lv_iconst (v := 0) hx hb dX4_readSequence_71 (by decide) ?_
                  have hz_37 : (0 : Int32).toInt = 0 := by decide
                  exact g_zret ((0 : Int32), f_35) hx hb hr hlocks hS (by first | exact Or.inl rfl | exact Or.inr rfl) rfl (⟨hI, hF, show TK g cI f_35 from (by first | assumption | omega), show (0 : Int32).toInt = 0 ∨ (0 : Int32).toInt = 1 from (by first | assumption | omega)⟩) hP hD hQ (Nat.le_of_ble_eq_true rfl) (Nat.le_of_ble_eq_true rfl) dX4_readSequence_72
                · refine lv_aload_n hx hb dX4_readSequence_61 rfl (lv_at hl 1 rfl) ?_
                  refine lv_aload_n hx hb dX4_readSequence_62 rfl (lv_at hl 3 rfl) ?_
                  refine lv_iload hx hb dX4_readSequence_63 (lv_at hl 0 rfl) ?_
                  obtain ⟨fa_38, pl_38, fg_38⟩ := op_13 hI (gm_13 hG) (gs_13 hG)
                  obtain ⟨len_39, fg_39, v1_39, v2_39, v3_39, mp_39, sp_39⟩ := op_0 hI m_8 s_8
                  obtain ⟨w1_39, w2_39, w3_39, w4_39, w5_39⟩ := lenw hj v1_39 v2_39 v3_39
                  obtain ⟨c_40, fg_40, iv0_40⟩ := op_1 hI mp_9 sp_9
                  refine call_p (va_runV (As := [.ref r_8, .int len_34]) (rest := []) ⟨hx, hb, hml, hown, hts⟩ (t_X4_readTimes l D cI cR cM _  hj hG hI m_8 s_8 fg_39 fg_40 (by first | assumption | omega) (by first | assumption | omega)) (cwV 2 hts gX4_readSequence_X4_readTimes rfl rfl rfl (by decide +kernel) ⟨Nat.le_of_ble_eq_true rfl, Nat.le_of_ble_eq_true rfl⟩) (pre_T hK hP hD (gm_13 hG) fg_38 rfl) rfl rfl hl.1 rfl (lv_room (Nat.le_of_ble_eq_true rfl)) dX4_readSequence_65 ⟨Nat.le_of_ble_eq_true rfl, Nat.le_of_ble_eq_true rfl⟩) hD hS hA (fun u_41 H locs hw hP hD hS => ?_)
                  obtain ⟨r_41, f_41⟩ := u_41
                  obtain ⟨hI, hF_41, hTK_41, h01_41⟩ : IN jn cI cR cM g L S f_41 ∧ FR S [0, 1, 13, 14] f_35 f_41 ∧ (TK g cI f_41) ∧ (r_41.toInt = 0 ∨ r_41.toInt = 1) := hw
                  have hP : va_P D vwCl (va_pl L f_41) H := hP
                  have hD : va_D A (va_pl L f_41) := hD
                  have hF := FR_tr hF hF_41 (by decide)
                  refine a_if_ne (u := r_41.toInt) (tgt := 73) hx hb dX4_readSequence_68 (by decide) (rfl) (fun c_42 => ?_) (fun c_42 => ?_)
                  · obtain ⟨z_43, q_43, e_43⟩ := i_inc (a := ii.toInt) (1) (rfl) (by decide) (by omega) (by omega)
                    refine lv_iinc (v := z_43) (lv' := [(3, .int z_43), (4, .int len_34), (0, .ref (g 13)), (1, .int x), (2, .ref r_8)]) hx hb dX4_readSequence_73 hl (k := 4) rfl q_43 (by decide) rfl (fun ls hl => ?_)
                    refine lv_goto (tgt := 29) hx hb dX4_readSequence_76 (by decide) ?_
                    exact ih29 z_43 f_41 _ _ _ (by omega) hI hF (by first | assumption | omega) (by first | assumption | omega) hP hD hS (lv_sub hl [2, 3, 4, 0] rfl)
                  · refine lv_iconst (v := 0) hx hb dX4_readSequence_71 (by decide) ?_
                    have hz_44 : (0 : Int32).toInt = 0 := by decide
                    exact g_zret ((0 : Int32), f_41) hx hb hr hlocks hS (by first | exact Or.inl rfl | exact Or.inr rfl) rfl (⟨hI, hF, show TK g cI f_41 from (by first | assumption | omega), show (0 : Int32).toInt = 0 ∨ (0 : Int32).toInt = 1 from (by first | assumption | omega)⟩) hP hD hQ (Nat.le_of_ble_eq_true rfl) (Nat.le_of_ble_eq_true rfl) dX4_readSequence_72
      have hz_45 : (0 : Int32).toInt = 0 := by decide
      exact loop29 ((400 - (0 : Int32).toInt).toNat + 1) (0 : Int32) f_10 _ _ _ (by omega) hI hF (by first | assumption | omega) (by first | assumption | omega) hP hD hS (lv_sub hl [2, 3, 1, 0] rfl)
    · refine lv_aload_n hx hb dX4_readSequence_9 rfl (lv_at hl 0 rfl) ?_
      refine lv_iconst (v := 3) hx hb dX4_readSequence_10 (by decide) ?_
      have hz_46 : (3 : Int32).toInt = 3 := by decide
      obtain ⟨fa_47, pl_47, fg_47⟩ := op_13 hI (gm_13 hG) (gs_13 hG)
      refine call_p (va_runV (As := [.int 3]) (rest := []) ⟨hx, hb, hml, hown, hts⟩ (t_X4_fail l D cI cR cM _  hj hG hI  ) (cwV 1 hts gX4_readSequence_X4_fail rfl rfl rfl (by decide +kernel) ⟨Nat.le_of_ble_eq_true rfl, Nat.le_of_ble_eq_true rfl⟩) (pre_T hK hP hD (gm_13 hG) fg_47 rfl) rfl rfl hl.1 rfl (lv_room (Nat.le_of_ble_eq_true rfl)) dX4_readSequence_11 ⟨Nat.le_of_ble_eq_true rfl, Nat.le_of_ble_eq_true rfl⟩) hD hS hA (fun u_48 H locs hw hP hD hS => ?_)
      obtain ⟨r_48, f_48⟩ := u_48
      obtain ⟨hI, hF_48, h0_48, h01_48⟩ : IN jn cI cR cM g L S f_48 ∧ FR S [13] f f_48 ∧ (r_48.toInt = 0) ∧ (r_48.toInt = 0 ∨ r_48.toInt = 1) := hw
      have hP : va_P D vwCl (va_pl L f_48) H := hP
      have hD : va_D A (va_pl L f_48) := hD
      have hF := FR_tr hF hF_48 (by decide)
      have hTK_48 : TK g cI f_48 := TK_fr (f := f) (by assumption) hG hF_48 (by decide)
      exact g_zret (r_48, f_48) hx hb hr hlocks hS (b01 (by omega)) rfl (⟨hI, hF, show TK g cI f_48 from (by first | assumption | omega), show r_48.toInt = 0 ∨ r_48.toInt = 1 from (by first | assumption | omega)⟩) hP hD hQ (Nat.le_of_ble_eq_true rfl) (Nat.le_of_ble_eq_true rfl) dX4_readSequence_14
set_option maxRecDepth 100000 in
set_option maxHeartbeats 4000000 in
theorem t_X4_readOne_4 (l : Launch) (D : va_G) (cI cR cM : ClassId) (sz : Nat) {jn : Nat} {g : Nat → Nat} {L : List Nat} {S : Sg} {f : Nat → va_E} {x : Int32}  (hj : 1 ≤ jn ∧ jn ≤ 3) (hG : SG g L S) (hI : IN jn cI cR cM g L S f) (hx0 : 0 ≤ x.toInt ∧ x.toInt ≤ 5) (hd : 2 ≤ x.toInt) (hTK : TK g cI f) : Met l yX4_readOne wsX4_readOne ({ frames := 10, cells := 0, slots := 0, locals := 274 }) (P0 D cI cR cM [.ref (g 13), .int x] sz (va_pl L f)) (QG (S := Int32 × (Nat → va_E)) (fun u => some (.int u.1)) (fun u => va_pl L u.2) (fun u => IN jn cI cR cM g L S u.2 ∧ FR S [0, 1, 13, 14, 34] f u.2 ∧ (TK g cI u.2) ∧ (u.1.toInt = 0 ∨ u.1.toInt = 1)) D (va_A (va_pl L f) sz)) 0 0 (va_A (va_pl L f) sz) := by
  refine go (cc := cX4_readOne) (maxL := 3) (ret := (some .boolean)) (by decide +kernel) rfl (Nat.le_of_ble_eq_true rfl) ?_
  intro p e s m below meth c ls args Q hQ hsz hx hb hr hml hts hown hlocks hnm hP hK hD hl
  subst hsz
  have hD := hD.self (sz := s.heap.size)
  generalize hAe : va_A (va_pl L f) s.heap.size = A at hD hQ
  have hA : ∀ q, s.heap.size ≤ q → A q := fun q h => by rw [← hAe]; exact Or.inr h
  have hS : va_S A s.heap s.heap [] := va_S.rf
  have hF : FR S [0, 1, 13, 14, 34] f f := FR_rf
  have hl : lv_has ls 3 [(0, .ref (g 13)), (1, .int x)] := hl
  refine lv_aload_n hx hb dX4_readOne_0 rfl (lv_at hl 0 rfl) ?_
  obtain ⟨fa_1, pl_1, fg_1⟩ := op_13 hI (gm_13 hG) (gs_13 hG)
  refine roP (va_runV (As := []) (rest := []) ⟨hx, hb, hml, hown, hts⟩ (t_X4_beginsOne l D cI cR cM _  hj hG hI  ) (cwV 0 hts gX4_readOne_X4_beginsOne rfl rfl rfl (by decide +kernel) ⟨Nat.le_of_ble_eq_true rfl, Nat.le_of_ble_eq_true rfl⟩) (pre_T hK hP hD (gm_13 hG) fg_1 rfl) rfl rfl hl.1 rfl (lv_room (Nat.le_of_ble_eq_true rfl)) dX4_readOne_1 ⟨Nat.le_of_ble_eq_true rfl, Nat.le_of_ble_eq_true rfl⟩) hS hA hP (fun r_2 H locs hw hP hS => ?_)
  have h01_2 : (r_2.toInt = 0 ∨ r_2.toInt = 1) := hw
  refine a_if_ne (u := r_2.toInt) (tgt := 13) hx hb dX4_readOne_4 (by decide) (rfl) (fun c_3 => ?_) (fun c_3 => ?_)
  · refine lv_aload_n hx hb dX4_readOne_13 rfl (lv_at hl 0 rfl) ?_
    refine t_get (D := D) (L := L) (f := f) (ci := 4) (v := .ref (g 14)) (C := RX4) (T := TX4) (N := 11) hx hb hts (by decide +kernel) hown hK.1 hP (gm_13 hG) fg_1 rfl 1 (by decide) (hts (.fieldLink RX4 41 "JugglingHall$Reader" "tokens" "LJugglingHall$Tokens;") (by decide +kernel)) (fun _ h9 => h9) rfl dX4_readOne_14 ?_
    obtain ⟨cnt_4, nx_4, kd_4, vl_4, st_4, ls_4, fg_4, iv0_4, iv1_4, iv2_4⟩ := op_14 hI (gm_14 hG) (gs_14 hG)
    refine t_getN (D := D) (L := L) (f := f) (ci := 8) (v := .int kd_4) (C := RX8) (T := TX8) (N := 10) (host := "JugglingHall") hx hb hts (by decide +kernel) hown hK.1 hP (gm_14 hG) fg_4 rfl 6 (by decide) (hK.nw (.fieldLinkNest RX4 70 "JugglingHall$Tokens" "kind" "I" "JugglingHall") (by decide +kernel) rfl) (fun _ h9 => h9) rfl dX4_readOne_17 ?_
    refine lv_istore_n (lv' := [(2, .int kd_4), (0, .ref (g 13)), (1, .int x)]) hx hb dX4_readOne_20 rfl hl (by decide) rfl (fun ls hl => ?_)
    refine lv_iload_n hx hb dX4_readOne_21 rfl (lv_at hl 0 rfl) ?_
    have hu_5 : kd_4.toInt = kd_4.toInt := rfl
    rcases (show (kd_4.toInt = 2) ∨ (kd_4.toInt = 3) ∨ (kd_4.toInt = 60) ∨ (kd_4.toInt = 91) ∨ (kd_4.toInt ≠ 2 ∧ kd_4.toInt ≠ 3 ∧ kd_4.toInt ≠ 60 ∧ kd_4.toInt ≠ 91) by omega) with c_5 | c_5 | c_5 | c_5 | c_5
    · refine lv_lookup (off := 53) (tgt := 75) hx hb dX4_readOne_22 (by decide) (by rw [hu_5, c_5]; decide) (by decide) ?_
      refine lv_aload_n hx hb dX4_readOne_75 rfl (lv_at hl 1 rfl) ?_
      refine lv_aload_n hx hb dX4_readOne_76 rfl (lv_at hl 1 rfl) ?_
      refine t_get (D := D) (L := L) (f := f) (ci := 4) (v := .ref (g 22)) (C := RX4) (T := TX4) (N := 11) hx hb hts (by decide +kernel) hown hK.1 hP (gm_13 hG) fg_1 rfl 3 (by decide) (hts (.fieldLink RX4 13 "JugglingHall$Reader" "levels" "[LJugglingHall$Row;") (by decide +kernel)) (fun _ h9 => h9) rfl dX4_readOne_77 ?_
      refine lv_iload_n hx hb dX4_readOne_80 rfl (lv_at hl 2 rfl) ?_
      obtain ⟨c_6, fg_6, iv0_6⟩ := op_22 hI (gm_22 hG) (gs_22 hG)
      refine t_aald (L := L) (f := f) (y := c_6) (u := x.toInt) hx hb hK.1 hP (gm_22 hG) 1 fg_6 rfl dX4_readOne_81 (rfl) (by omega) (fun w_7 q_7 => ?_)
      obtain ⟨r_7, p_7, n_7, er_7, m_7, s_7⟩ := iv0_6 x.toInt (by omega) (by omega)
      have q_7 := q_7.trans er_7
      subst q_7
      refine W.eq (g2 := F0 m 82 ls [.ref r_7, .ref (g 13)]) rfl ?_
      obtain ⟨len_8, fg_8, v1_8, v2_8, v3_8, mp_8, sp_8⟩ := op_0 hI m_7 s_7
      obtain ⟨w1_8, w2_8, w3_8, w4_8, w5_8⟩ := lenw hj v1_8 v2_8 v3_8
      obtain ⟨c_9, fg_9, iv0_9⟩ := op_1 hI mp_8 sp_8
      refine call_p (va_runV (As := [.ref r_7]) (rest := []) ⟨hx, hb, hml, hown, hts⟩ (t_X4_readBeat l D cI cR cM _  hj hG hI m_7 s_7 fg_8 fg_9 (by first | assumption | omega)) (cwV 1 hts gX4_readOne_X4_readBeat rfl rfl rfl (by decide +kernel) ⟨Nat.le_of_ble_eq_true rfl, Nat.le_of_ble_eq_true rfl⟩) (pre_T hK hP hD (gm_13 hG) fg_1 rfl) rfl rfl hl.1 rfl (lv_room (Nat.le_of_ble_eq_true rfl)) dX4_readOne_82 ⟨Nat.le_of_ble_eq_true rfl, Nat.le_of_ble_eq_true rfl⟩) hD hS hA (fun u_10 H locs hw hP hD hS => ?_)
      obtain ⟨r_10, f_10⟩ := u_10
      obtain ⟨hI, hF_10, hTK_10, h01_10⟩ : IN jn cI cR cM g L S f_10 ∧ FR S [0, 1, 13, 14] f f_10 ∧ (TK g cI f_10) ∧ (r_10.toInt = 0 ∨ r_10.toInt = 1) := hw
      have hP : va_P D vwCl (va_pl L f_10) H := hP
      have hD : va_D A (va_pl L f_10) := hD
      have hF := FR_tr hF hF_10 (by decide)
      have fb_11 : f_10 (g 22) = .inl (cR, 6, .inr (.inr (.inr (.inr c_6)))) := FR_at hF_10 (gs_22 hG) (show (22 : Nat) ∉ ([0, 1, 13, 14] : List Nat) by decide) fg_6
      exact g_zret (r_10, f_10) hx hb hr hlocks hS (b01 (by omega)) rfl (⟨hI, hF, show TK g cI f_10 from (by first | assumption | omega), show r_10.toInt = 0 ∨ r_10.toInt = 1 from (by first | assumption | omega)⟩) hP hD hQ (Nat.le_of_ble_eq_true rfl) (Nat.le_of_ble_eq_true rfl) dX4_readOne_85
    · refine lv_lookup (off := 42) (tgt := 64) hx hb dX4_readOne_22 (by decide) (by rw [hu_5, c_5]; decide) (by decide) ?_
      refine lv_aload_n hx hb dX4_readOne_64 rfl (lv_at hl 1 rfl) ?_
      refine lv_aload_n hx hb dX4_readOne_65 rfl (lv_at hl 1 rfl) ?_
      refine t_get (D := D) (L := L) (f := f) (ci := 4) (v := .ref (g 22)) (C := RX4) (T := TX4) (N := 11) hx hb hts (by decide +kernel) hown hK.1 hP (gm_13 hG) fg_1 rfl 3 (by decide) (hts (.fieldLink RX4 13 "JugglingHall$Reader" "levels" "[LJugglingHall$Row;") (by decide +kernel)) (fun _ h9 => h9) rfl dX4_readOne_66 ?_
      refine lv_iload_n hx hb dX4_readOne_69 rfl (lv_at hl 2 rfl) ?_
      obtain ⟨c_12, fg_12, iv0_12⟩ := op_22 hI (gm_22 hG) (gs_22 hG)
      refine t_aald (L := L) (f := f) (y := c_12) (u := x.toInt) hx hb hK.1 hP (gm_22 hG) 1 fg_12 rfl dX4_readOne_70 (rfl) (by omega) (fun w_13 q_13 => ?_)
      obtain ⟨r_13, p_13, n_13, er_13, m_13, s_13⟩ := iv0_12 x.toInt (by omega) (by omega)
      have q_13 := q_13.trans er_13
      subst q_13
      refine W.eq (g2 := F0 m 71 ls [.ref r_13, .ref (g 13)]) rfl ?_
      obtain ⟨len_14, fg_14, v1_14, v2_14, v3_14, mp_14, sp_14⟩ := op_0 hI m_13 s_13
      obtain ⟨w1_14, w2_14, w3_14, w4_14, w5_14⟩ := lenw hj v1_14 v2_14 v3_14
      obtain ⟨c_15, fg_15, iv0_15⟩ := op_1 hI mp_14 sp_14
      refine call_p (va_runV (As := [.ref r_13]) (rest := []) ⟨hx, hb, hml, hown, hts⟩ (t_X4_readLetter l D cI cR cM _  hj hG hI m_13 s_13 fg_14 fg_15 (by first | assumption | omega)) (cwV 1 hts gX4_readOne_X4_readLetter rfl rfl rfl (by decide +kernel) ⟨Nat.le_of_ble_eq_true rfl, Nat.le_of_ble_eq_true rfl⟩) (pre_T hK hP hD (gm_13 hG) fg_1 rfl) rfl rfl hl.1 rfl (lv_room (Nat.le_of_ble_eq_true rfl)) dX4_readOne_71 ⟨Nat.le_of_ble_eq_true rfl, Nat.le_of_ble_eq_true rfl⟩) hD hS hA (fun u_16 H locs hw hP hD hS => ?_)
      obtain ⟨r_16, f_16⟩ := u_16
      obtain ⟨hI, hF_16, hTK_16, h01_16⟩ : IN jn cI cR cM g L S f_16 ∧ FR S [0, 1, 13, 14] f f_16 ∧ (TK g cI f_16) ∧ (r_16.toInt = 0 ∨ r_16.toInt = 1) := hw
      have hP : va_P D vwCl (va_pl L f_16) H := hP
      have hD : va_D A (va_pl L f_16) := hD
      have hF := FR_tr hF hF_16 (by decide)
      have fb_17 : f_16 (g 22) = .inl (cR, 6, .inr (.inr (.inr (.inr c_12)))) := FR_at hF_16 (gs_22 hG) (show (22 : Nat) ∉ ([0, 1, 13, 14] : List Nat) by decide) fg_12
      exact g_zret (r_16, f_16) hx hb hr hlocks hS (b01 (by omega)) rfl (⟨hI, hF, show TK g cI f_16 from (by first | assumption | omega), show r_16.toInt = 0 ∨ r_16.toInt = 1 from (by first | assumption | omega)⟩) hP hD hQ (Nat.le_of_ble_eq_true rfl) (Nat.le_of_ble_eq_true rfl) dX4_readOne_74
    · refine lv_lookup (off := 53) (tgt := 75) hx hb dX4_readOne_22 (by decide) (by rw [hu_5, c_5]; decide) (by decide) ?_
      refine lv_aload_n hx hb dX4_readOne_75 rfl (lv_at hl 1 rfl) ?_
      refine lv_aload_n hx hb dX4_readOne_76 rfl (lv_at hl 1 rfl) ?_
      refine t_get (D := D) (L := L) (f := f) (ci := 4) (v := .ref (g 22)) (C := RX4) (T := TX4) (N := 11) hx hb hts (by decide +kernel) hown hK.1 hP (gm_13 hG) fg_1 rfl 3 (by decide) (hts (.fieldLink RX4 13 "JugglingHall$Reader" "levels" "[LJugglingHall$Row;") (by decide +kernel)) (fun _ h9 => h9) rfl dX4_readOne_77 ?_
      refine lv_iload_n hx hb dX4_readOne_80 rfl (lv_at hl 2 rfl) ?_
      obtain ⟨c_18, fg_18, iv0_18⟩ := op_22 hI (gm_22 hG) (gs_22 hG)
      refine t_aald (L := L) (f := f) (y := c_18) (u := x.toInt) hx hb hK.1 hP (gm_22 hG) 1 fg_18 rfl dX4_readOne_81 (rfl) (by omega) (fun w_19 q_19 => ?_)
      obtain ⟨r_19, p_19, n_19, er_19, m_19, s_19⟩ := iv0_18 x.toInt (by omega) (by omega)
      have q_19 := q_19.trans er_19
      subst q_19
      refine W.eq (g2 := F0 m 82 ls [.ref r_19, .ref (g 13)]) rfl ?_
      obtain ⟨len_20, fg_20, v1_20, v2_20, v3_20, mp_20, sp_20⟩ := op_0 hI m_19 s_19
      obtain ⟨w1_20, w2_20, w3_20, w4_20, w5_20⟩ := lenw hj v1_20 v2_20 v3_20
      obtain ⟨c_21, fg_21, iv0_21⟩ := op_1 hI mp_20 sp_20
      refine call_p (va_runV (As := [.ref r_19]) (rest := []) ⟨hx, hb, hml, hown, hts⟩ (t_X4_readBeat l D cI cR cM _  hj hG hI m_19 s_19 fg_20 fg_21 (by first | assumption | omega)) (cwV 1 hts gX4_readOne_X4_readBeat rfl rfl rfl (by decide +kernel) ⟨Nat.le_of_ble_eq_true rfl, Nat.le_of_ble_eq_true rfl⟩) (pre_T hK hP hD (gm_13 hG) fg_1 rfl) rfl rfl hl.1 rfl (lv_room (Nat.le_of_ble_eq_true rfl)) dX4_readOne_82 ⟨Nat.le_of_ble_eq_true rfl, Nat.le_of_ble_eq_true rfl⟩) hD hS hA (fun u_22 H locs hw hP hD hS => ?_)
      obtain ⟨r_22, f_22⟩ := u_22
      obtain ⟨hI, hF_22, hTK_22, h01_22⟩ : IN jn cI cR cM g L S f_22 ∧ FR S [0, 1, 13, 14] f f_22 ∧ (TK g cI f_22) ∧ (r_22.toInt = 0 ∨ r_22.toInt = 1) := hw
      have hP : va_P D vwCl (va_pl L f_22) H := hP
      have hD : va_D A (va_pl L f_22) := hD
      have hF := FR_tr hF hF_22 (by decide)
      have fb_23 : f_22 (g 22) = .inl (cR, 6, .inr (.inr (.inr (.inr c_18)))) := FR_at hF_22 (gs_22 hG) (show (22 : Nat) ∉ ([0, 1, 13, 14] : List Nat) by decide) fg_18
      exact g_zret (r_22, f_22) hx hb hr hlocks hS (b01 (by omega)) rfl (⟨hI, hF, show TK g cI f_22 from (by first | assumption | omega), show r_22.toInt = 0 ∨ r_22.toInt = 1 from (by first | assumption | omega)⟩) hP hD hQ (Nat.le_of_ble_eq_true rfl) (Nat.le_of_ble_eq_true rfl) dX4_readOne_85
    · refine lv_lookup (off := 53) (tgt := 75) hx hb dX4_readOne_22 (by decide) (by rw [hu_5, c_5]; decide) (by decide) ?_
      refine lv_aload_n hx hb dX4_readOne_75 rfl (lv_at hl 1 rfl) ?_
      refine lv_aload_n hx hb dX4_readOne_76 rfl (lv_at hl 1 rfl) ?_
      refine t_get (D := D) (L := L) (f := f) (ci := 4) (v := .ref (g 22)) (C := RX4) (T := TX4) (N := 11) hx hb hts (by decide +kernel) hown hK.1 hP (gm_13 hG) fg_1 rfl 3 (by decide) (hts (.fieldLink RX4 13 "JugglingHall$Reader" "levels" "[LJugglingHall$Row;") (by decide +kernel)) (fun _ h9 => h9) rfl dX4_readOne_77 ?_
      refine lv_iload_n hx hb dX4_readOne_80 rfl (lv_at hl 2 rfl) ?_
      obtain ⟨c_24, fg_24, iv0_24⟩ := op_22 hI (gm_22 hG) (gs_22 hG)
      refine t_aald (L := L) (f := f) (y := c_24) (u := x.toInt) hx hb hK.1 hP (gm_22 hG) 1 fg_24 rfl dX4_readOne_81 (rfl) (by omega) (fun w_25 q_25 => ?_)
      obtain ⟨r_25, p_25, n_25, er_25, m_25, s_25⟩ := iv0_24 x.toInt (by omega) (by omega)
      have q_25 := q_25.trans er_25
      subst q_25
      refine W.eq (g2 := F0 m 82 ls [.ref r_25, .ref (g 13)]) rfl ?_
      obtain ⟨len_26, fg_26, v1_26, v2_26, v3_26, mp_26, sp_26⟩ := op_0 hI m_25 s_25
      obtain ⟨w1_26, w2_26, w3_26, w4_26, w5_26⟩ := lenw hj v1_26 v2_26 v3_26
      obtain ⟨c_27, fg_27, iv0_27⟩ := op_1 hI mp_26 sp_26
      refine call_p (va_runV (As := [.ref r_25]) (rest := []) ⟨hx, hb, hml, hown, hts⟩ (t_X4_readBeat l D cI cR cM _  hj hG hI m_25 s_25 fg_26 fg_27 (by first | assumption | omega)) (cwV 1 hts gX4_readOne_X4_readBeat rfl rfl rfl (by decide +kernel) ⟨Nat.le_of_ble_eq_true rfl, Nat.le_of_ble_eq_true rfl⟩) (pre_T hK hP hD (gm_13 hG) fg_1 rfl) rfl rfl hl.1 rfl (lv_room (Nat.le_of_ble_eq_true rfl)) dX4_readOne_82 ⟨Nat.le_of_ble_eq_true rfl, Nat.le_of_ble_eq_true rfl⟩) hD hS hA (fun u_28 H locs hw hP hD hS => ?_)
      obtain ⟨r_28, f_28⟩ := u_28
      obtain ⟨hI, hF_28, hTK_28, h01_28⟩ : IN jn cI cR cM g L S f_28 ∧ FR S [0, 1, 13, 14] f f_28 ∧ (TK g cI f_28) ∧ (r_28.toInt = 0 ∨ r_28.toInt = 1) := hw
      have hP : va_P D vwCl (va_pl L f_28) H := hP
      have hD : va_D A (va_pl L f_28) := hD
      have hF := FR_tr hF hF_28 (by decide)
      have fb_29 : f_28 (g 22) = .inl (cR, 6, .inr (.inr (.inr (.inr c_24)))) := FR_at hF_28 (gs_22 hG) (show (22 : Nat) ∉ ([0, 1, 13, 14] : List Nat) by decide) fg_24
      exact g_zret (r_28, f_28) hx hb hr hlocks hS (b01 (by omega)) rfl (⟨hI, hF, show TK g cI f_28 from (by first | assumption | omega), show r_28.toInt = 0 ∨ r_28.toInt = 1 from (by first | assumption | omega)⟩) hP hD hQ (Nat.le_of_ble_eq_true rfl) (Nat.le_of_ble_eq_true rfl) dX4_readOne_85
    · refine lv_lookup (off := 64) (tgt := 86) hx hb dX4_readOne_22 (by decide) (by rw [hu_5]; exact (show Op.lookupswitch.offset [(2, 53), (3, 42), (60, 53), (91, 53)] (64) kd_4.toInt = (64) from lkc (by omega) (lkc (by omega) (lkc (by omega) (lkc (by omega) (lkn _ _)))))) (by decide) ?_
      refine lv_aload_n hx hb dX4_readOne_86 rfl (lv_at hl 1 rfl) ?_
      refine lv_iload_n hx hb dX4_readOne_87 rfl (lv_at hl 0 rfl) ?_
      refine lv_iload_n hx hb dX4_readOne_88 rfl (lv_at hl 2 rfl) ?_
      refine call_p (va_runV (As := [.int kd_4, .int x]) (rest := []) ⟨hx, hb, hml, hown, hts⟩ (t_X4_openGroup l D cI cR cM _  hj hG hI  (by first | assumption | omega) (by first | assumption | omega)) (cwV 2 hts gX4_readOne_X4_openGroup rfl rfl rfl (by decide +kernel) ⟨Nat.le_of_ble_eq_true rfl, Nat.le_of_ble_eq_true rfl⟩) (pre_T hK hP hD (gm_13 hG) fg_1 rfl) rfl rfl hl.1 rfl (lv_room (Nat.le_of_ble_eq_true rfl)) dX4_readOne_89 ⟨Nat.le_of_ble_eq_true rfl, Nat.le_of_ble_eq_true rfl⟩) hD hS hA (fun u_30 H locs hw hP hD hS => ?_)
      obtain ⟨r_30, f_30⟩ := u_30
      obtain ⟨hI, hF_30, hd_30, hTK_30, h01_30⟩ : IN jn cI cR cM g L S f_30 ∧ FR S [13, 14, 34] f f_30 ∧ (r_30.toInt = 1 → x.toInt ≤ 4) ∧ (TK g cI f_30) ∧ (r_30.toInt = 0 ∨ r_30.toInt = 1) := hw
      have hP : va_P D vwCl (va_pl L f_30) H := hP
      have hD : va_D A (va_pl L f_30) := hD
      have hF := FR_tr hF hF_30 (by decide)
      refine a_if_eq (u := r_30.toInt) (tgt := 127) hx hb dX4_readOne_92 (by decide) (rfl) (fun c_31 => ?_) (fun c_31 => ?_)
      · refine lv_iconst (v := 0) hx hb dX4_readOne_127 (by decide) ?_
        have hz_32 : (0 : Int32).toInt = 0 := by decide
        exact g_zret ((0 : Int32), f_30) hx hb hr hlocks hS (by first | exact Or.inl rfl | exact Or.inr rfl) rfl (⟨hI, hF, show TK g cI f_30 from (by first | assumption | omega), show (0 : Int32).toInt = 0 ∨ (0 : Int32).toInt = 1 from (by first | assumption | omega)⟩) hP hD hQ (Nat.le_of_ble_eq_true rfl) (Nat.le_of_ble_eq_true rfl) dX4_readOne_128
      · refine lv_aload_n hx hb dX4_readOne_95 rfl (lv_at hl 1 rfl) ?_
        refine lv_iload_n hx hb dX4_readOne_96 rfl (lv_at hl 2 rfl) ?_
        refine lv_iconst (v := 1) hx hb dX4_readOne_97 (by decide) ?_
        refine a_iadd (u := x.toInt) (v := 1) hx hb dX4_readOne_98 (rfl) (by decide) (by omega) (fun z_33 e_33 => ?_)
        obtain ⟨fa_34, pl_34, fg_34⟩ := op_13 hI (gm_13 hG) (gs_13 hG)
        refine call_p (va_runV (As := [.int z_33]) (rest := []) ⟨hx, hb, hml, hown, hts⟩ (t_X4_readSequence_3 l D cI cR cM _  hj hG hI  (by first | assumption | omega) (by first | assumption | omega)) (cwV 1 hts gX4_readOne_X4_readSequence rfl rfl rfl (by decide +kernel) ⟨Nat.le_of_ble_eq_true rfl, Nat.le_of_ble_eq_true rfl⟩) (pre_T hK hP hD (gm_13 hG) fg_34 rfl) rfl rfl hl.1 rfl (lv_room (Nat.le_of_ble_eq_true rfl)) dX4_readOne_99 ⟨Nat.le_of_ble_eq_true rfl, Nat.le_of_ble_eq_true rfl⟩) hD hS hA (fun u_35 H locs hw hP hD hS => ?_)
        obtain ⟨r_35, f_35⟩ := u_35
        obtain ⟨hI, hF_35, hTK_35, h01_35⟩ : IN jn cI cR cM g L S f_35 ∧ FR S [0, 1, 13, 14, 34] f_30 f_35 ∧ (TK g cI f_35) ∧ (r_35.toInt = 0 ∨ r_35.toInt = 1) := hw
        have hP : va_P D vwCl (va_pl L f_35) H := hP
        have hD : va_D A (va_pl L f_35) := hD
        have hF := FR_tr hF hF_35 (by decide)
        refine a_if_eq (u := r_35.toInt) (tgt := 127) hx hb dX4_readOne_102 (by decide) (rfl) (fun c_36 => ?_) (fun c_36 => ?_)
        · refine lv_iconst (v := 0) hx hb dX4_readOne_127 (by decide) ?_
          have hz_37 : (0 : Int32).toInt = 0 := by decide
          exact g_zret ((0 : Int32), f_35) hx hb hr hlocks hS (by first | exact Or.inl rfl | exact Or.inr rfl) rfl (⟨hI, hF, show TK g cI f_35 from (by first | assumption | omega), show (0 : Int32).toInt = 0 ∨ (0 : Int32).toInt = 1 from (by first | assumption | omega)⟩) hP hD hQ (Nat.le_of_ble_eq_true rfl) (Nat.le_of_ble_eq_true rfl) dX4_readOne_128
        · refine lv_aload_n hx hb dX4_readOne_105 rfl (lv_at hl 1 rfl) ?_
          refine lv_bipush (v := 41) hx hb dX4_readOne_106 (by decide) ?_
          have hz_38 : (41 : Int32).toInt = 41 := by decide
          obtain ⟨fa_39, pl_39, fg_39⟩ := op_13 hI (gm_13 hG) (gs_13 hG)
          refine call_p (va_runV (As := [.int 41]) (rest := []) ⟨hx, hb, hml, hown, hts⟩ (t_X4_expect l D cI cR cM _  hj hG hI  (by first | assumption | omega)) (cwV 1 hts gX4_readOne_X4_expect rfl rfl rfl (by decide +kernel) ⟨Nat.le_of_ble_eq_true rfl, Nat.le_of_ble_eq_true rfl⟩) (pre_T hK hP hD (gm_13 hG) fg_39 rfl) rfl rfl hl.1 rfl (lv_room (Nat.le_of_ble_eq_true rfl)) dX4_readOne_108 ⟨Nat.le_of_ble_eq_true rfl, Nat.le_of_ble_eq_true rfl⟩) hD hS hA (fun u_40 H locs hw hP hD hS => ?_)
          obtain ⟨r_40, f_40⟩ := u_40
          obtain ⟨hI, hF_40, he_40, hTK_40, h01_40⟩ : IN jn cI cR cM g L S f_40 ∧ FR S [13, 14] f_35 f_40 ∧ (∀ cnt9 nx9 kd9 vl9 st9 ls9, f_35 (g 14) = .inr (8, [.ref (g 11), .ref (g 31), .ref (g 32), .ref (g 33), .int cnt9, .int nx9, .int kd9, .int vl9, .int st9, .int ls9]) → r_40.toInt = 1 → kd9.toInt = (41 : Int32).toInt) ∧ (TK g cI f_40) ∧ (r_40.toInt = 0 ∨ r_40.toInt = 1) := hw
          have hP : va_P D vwCl (va_pl L f_40) H := hP
          have hD : va_D A (va_pl L f_40) := hD
          have hF := FR_tr hF hF_40 (by decide)
          refine a_if_eq (u := r_40.toInt) (tgt := 127) hx hb dX4_readOne_111 (by decide) (rfl) (fun c_41 => ?_) (fun c_41 => ?_)
          · refine lv_iconst (v := 0) hx hb dX4_readOne_127 (by decide) ?_
            have hz_42 : (0 : Int32).toInt = 0 := by decide
            exact g_zret ((0 : Int32), f_40) hx hb hr hlocks hS (by first | exact Or.inl rfl | exact Or.inr rfl) rfl (⟨hI, hF, show TK g cI f_40 from (by first | assumption | omega), show (0 : Int32).toInt = 0 ∨ (0 : Int32).toInt = 1 from (by first | assumption | omega)⟩) hP hD hQ (Nat.le_of_ble_eq_true rfl) (Nat.le_of_ble_eq_true rfl) dX4_readOne_128
          · refine lv_aload_n hx hb dX4_readOne_114 rfl (lv_at hl 1 rfl) ?_
            refine lv_iload_n hx hb dX4_readOne_115 rfl (lv_at hl 0 rfl) ?_
            refine lv_iload_n hx hb dX4_readOne_116 rfl (lv_at hl 2 rfl) ?_
            obtain ⟨fa_43, pl_43, fg_43⟩ := op_13 hI (gm_13 hG) (gs_13 hG)
            refine call_p (va_runV (As := [.int kd_4, .int x]) (rest := []) ⟨hx, hb, hml, hown, hts⟩ (t_X4_joinGroup l D cI cR cM _  hj hG hI  (by first | assumption | omega) (by first | assumption | omega)) (cwV 2 hts gX4_readOne_X4_joinGroup rfl rfl rfl (by decide +kernel) ⟨Nat.le_of_ble_eq_true rfl, Nat.le_of_ble_eq_true rfl⟩) (pre_T hK hP hD (gm_13 hG) fg_43 rfl) rfl rfl hl.1 rfl (lv_room (Nat.le_of_ble_eq_true rfl)) dX4_readOne_117 ⟨Nat.le_of_ble_eq_true rfl, Nat.le_of_ble_eq_true rfl⟩) hD hS hA (fun u_44 H locs hw hP hD hS => ?_)
            obtain ⟨r_44, f_44⟩ := u_44
            obtain ⟨hI, hF_44, hTK_44, h01_44⟩ : IN jn cI cR cM g L S f_44 ∧ FR S [0, 1, 13] f_40 f_44 ∧ (TK g cI f_44) ∧ (r_44.toInt = 0 ∨ r_44.toInt = 1) := hw
            have hP : va_P D vwCl (va_pl L f_44) H := hP
            have hD : va_D A (va_pl L f_44) := hD
            have hF := FR_tr hF hF_44 (by decide)
            refine a_if_eq (u := r_44.toInt) (tgt := 127) hx hb dX4_readOne_120 (by decide) (rfl) (fun c_45 => ?_) (fun c_45 => ?_)
            · refine lv_iconst (v := 0) hx hb dX4_readOne_127 (by decide) ?_
              have hz_46 : (0 : Int32).toInt = 0 := by decide
              exact g_zret ((0 : Int32), f_44) hx hb hr hlocks hS (by first | exact Or.inl rfl | exact Or.inr rfl) rfl (⟨hI, hF, show TK g cI f_44 from (by first | assumption | omega), show (0 : Int32).toInt = 0 ∨ (0 : Int32).toInt = 1 from (by first | assumption | omega)⟩) hP hD hQ (Nat.le_of_ble_eq_true rfl) (Nat.le_of_ble_eq_true rfl) dX4_readOne_128
            · refine lv_iconst (v := 1) hx hb dX4_readOne_123 (by decide) ?_
              refine lv_goto (tgt := 128) hx hb dX4_readOne_124 (by decide) ?_
              have hz_47 : (1 : Int32).toInt = 1 := by decide
              exact g_zret ((1 : Int32), f_44) hx hb hr hlocks hS (by first | exact Or.inl rfl | exact Or.inr rfl) rfl (⟨hI, hF, show TK g cI f_44 from (by first | assumption | omega), show (1 : Int32).toInt = 0 ∨ (1 : Int32).toInt = 1 from (by first | assumption | omega)⟩) hP hD hQ (Nat.le_of_ble_eq_true rfl) (Nat.le_of_ble_eq_true rfl) dX4_readOne_128
  · refine lv_aload_n hx hb dX4_readOne_7 rfl (lv_at hl 0 rfl) ?_
    refine lv_iconst (v := 1) hx hb dX4_readOne_8 (by decide) ?_
    have hz_48 : (1 : Int32).toInt = 1 := by decide
    refine call_p (va_runV (As := [.int 1]) (rest := []) ⟨hx, hb, hml, hown, hts⟩ (t_X4_fail l D cI cR cM _  hj hG hI  ) (cwV 1 hts gX4_readOne_X4_fail rfl rfl rfl (by decide +kernel) ⟨Nat.le_of_ble_eq_true rfl, Nat.le_of_ble_eq_true rfl⟩) (pre_T hK hP hD (gm_13 hG) fg_1 rfl) rfl rfl hl.1 rfl (lv_room (Nat.le_of_ble_eq_true rfl)) dX4_readOne_9 ⟨Nat.le_of_ble_eq_true rfl, Nat.le_of_ble_eq_true rfl⟩) hD hS hA (fun u_49 H locs hw hP hD hS => ?_)
    obtain ⟨r_49, f_49⟩ := u_49
    obtain ⟨hI, hF_49, h0_49, h01_49⟩ : IN jn cI cR cM g L S f_49 ∧ FR S [13] f f_49 ∧ (r_49.toInt = 0) ∧ (r_49.toInt = 0 ∨ r_49.toInt = 1) := hw
    have hP : va_P D vwCl (va_pl L f_49) H := hP
    have hD : va_D A (va_pl L f_49) := hD
    have hF := FR_tr hF hF_49 (by decide)
    have hTK_49 : TK g cI f_49 := TK_fr (f := f) (by assumption) hG hF_49 (by decide)
    exact g_zret (r_49, f_49) hx hb hr hlocks hS (b01 (by omega)) rfl (⟨hI, hF, show TK g cI f_49 from (by first | assumption | omega), show r_49.toInt = 0 ∨ r_49.toInt = 1 from (by first | assumption | omega)⟩) hP hD hQ (Nat.le_of_ble_eq_true rfl) (Nat.le_of_ble_eq_true rfl) dX4_readOne_12
set_option maxRecDepth 100000 in
set_option maxHeartbeats 4000000 in
theorem t_X4_readSequence_4 (l : Launch) (D : va_G) (cI cR cM : ClassId) (sz : Nat) {jn : Nat} {g : Nat → Nat} {L : List Nat} {S : Sg} {f : Nat → va_E} {x : Int32}  (hj : 1 ≤ jn ∧ jn ≤ 3) (hG : SG g L S) (hI : IN jn cI cR cM g L S f) (hd : 2 ≤ x.toInt) (hTK : TK g cI f) : Met l yX4_readSequence wsX4_readSequence ({ frames := 11, cells := 0, slots := 0, locals := 296 }) (P0 D cI cR cM [.ref (g 13), .int x] sz (va_pl L f)) (QG (S := Int32 × (Nat → va_E)) (fun u => some (.int u.1)) (fun u => va_pl L u.2) (fun u => IN jn cI cR cM g L S u.2 ∧ FR S [0, 1, 13, 14, 34] f u.2 ∧ (TK g cI u.2) ∧ (u.1.toInt = 0 ∨ u.1.toInt = 1)) D (va_A (va_pl L f) sz)) 0 0 (va_A (va_pl L f) sz) := by
  refine go (cc := cX4_readSequence) (maxL := 5) (ret := (some .boolean)) (by decide +kernel) rfl (Nat.le_of_ble_eq_true rfl) ?_
  intro p e s m below meth c ls args Q hQ hsz hx hb hr hml hts hown hlocks hnm hP hK hD hl
  subst hsz
  have hD := hD.self (sz := s.heap.size)
  generalize hAe : va_A (va_pl L f) s.heap.size = A at hD hQ
  have hA : ∀ q, s.heap.size ≤ q → A q := fun q h => by rw [← hAe]; exact Or.inr h
  have hS : va_S A s.heap s.heap [] := va_S.rf
  have hF : FR S [0, 1, 13, 14, 34] f f := FR_rf
  have hl : lv_has ls 5 [(0, .ref (g 13)), (1, .int x)] := hl
  refine lv_iload_n hx hb dX4_readSequence_0 rfl (lv_at hl 1 rfl) ?_
  refine a_if_lt (u := x.toInt) (tgt := 9) hx hb dX4_readSequence_1 (by decide) (rfl) (fun c_1 => ?_) (fun c_1 => ?_)
  · refine lv_aload_n hx hb dX4_readSequence_9 rfl (lv_at hl 0 rfl) ?_
    refine lv_iconst (v := 3) hx hb dX4_readSequence_10 (by decide) ?_
    have hz_2 : (3 : Int32).toInt = 3 := by decide
    obtain ⟨fa_3, pl_3, fg_3⟩ := op_13 hI (gm_13 hG) (gs_13 hG)
    refine call_p (va_runV (As := [.int 3]) (rest := []) ⟨hx, hb, hml, hown, hts⟩ (t_X4_fail l D cI cR cM _  hj hG hI  ) (cwV 1 hts gX4_readSequence_X4_fail rfl rfl rfl (by decide +kernel) ⟨Nat.le_of_ble_eq_true rfl, Nat.le_of_ble_eq_true rfl⟩) (pre_T hK hP hD (gm_13 hG) fg_3 rfl) rfl rfl hl.1 rfl (lv_room (Nat.le_of_ble_eq_true rfl)) dX4_readSequence_11 ⟨Nat.le_of_ble_eq_true rfl, Nat.le_of_ble_eq_true rfl⟩) hD hS hA (fun u_4 H locs hw hP hD hS => ?_)
    obtain ⟨r_4, f_4⟩ := u_4
    obtain ⟨hI, hF_4, h0_4, h01_4⟩ : IN jn cI cR cM g L S f_4 ∧ FR S [13] f f_4 ∧ (r_4.toInt = 0) ∧ (r_4.toInt = 0 ∨ r_4.toInt = 1) := hw
    have hP : va_P D vwCl (va_pl L f_4) H := hP
    have hD : va_D A (va_pl L f_4) := hD
    have hF := FR_tr hF hF_4 (by decide)
    have hTK_4 : TK g cI f_4 := TK_fr (f := f) (by assumption) hG hF_4 (by decide)
    exact g_zret (r_4, f_4) hx hb hr hlocks hS (b01 (by omega)) rfl (⟨hI, hF, show TK g cI f_4 from (by first | assumption | omega), show r_4.toInt = 0 ∨ r_4.toInt = 1 from (by first | assumption | omega)⟩) hP hD hQ (Nat.le_of_ble_eq_true rfl) (Nat.le_of_ble_eq_true rfl) dX4_readSequence_14
  · refine lv_iload_n hx hb dX4_readSequence_4 rfl (lv_at hl 1 rfl) ?_
    refine lv_iconst (v := 5) hx hb dX4_readSequence_5 (by decide) ?_
    refine a_icmp_le (u := x.toInt) (v := 5) (tgt := 15) hx hb dX4_readSequence_6 (by decide) (rfl) (by decide) (fun c_5 => ?_) (fun c_5 => ?_)
    · refine lv_aload_n hx hb dX4_readSequence_15 rfl (lv_at hl 0 rfl) ?_
      obtain ⟨fa_6, pl_6, fg_6⟩ := op_13 hI (gm_13 hG) (gs_13 hG)
      refine t_get (D := D) (L := L) (f := f) (ci := 4) (v := .ref (g 22)) (C := RX4) (T := TX4) (N := 11) hx hb hts (by decide +kernel) hown hK.1 hP (gm_13 hG) fg_6 rfl 3 (by decide) (hts (.fieldLink RX4 13 "JugglingHall$Reader" "levels" "[LJugglingHall$Row;") (by decide +kernel)) (fun _ h9 => h9) rfl dX4_readSequence_16 ?_
      refine lv_iload_n hx hb dX4_readSequence_19 rfl (lv_at hl 1 rfl) ?_
      obtain ⟨c_7, fg_7, iv0_7⟩ := op_22 hI (gm_22 hG) (gs_22 hG)
      refine t_aald (L := L) (f := f) (y := c_7) (u := x.toInt) hx hb hK.1 hP (gm_22 hG) 1 fg_7 rfl dX4_readSequence_20 (rfl) (by omega) (fun w_8 q_8 => ?_)
      obtain ⟨r_8, p_8, n_8, er_8, m_8, s_8⟩ := iv0_7 x.toInt (by omega) (by omega)
      have q_8 := q_8.trans er_8
      subst q_8
      refine W.eq (g2 := F0 m 21 ls [.ref r_8]) rfl ?_
      refine lv_astore_n (lv' := [(2, .ref r_8), (0, .ref (g 13)), (1, .int x)]) hx hb dX4_readSequence_21 rfl hl (by decide) rfl (fun ls hl => ?_)
      refine lv_aload_n hx hb dX4_readSequence_22 rfl (lv_at hl 0 rfl) ?_
      refine lv_iconst (v := 0) hx hb dX4_readSequence_23 (by decide) ?_
      obtain ⟨len_9, fg_9, v1_9, v2_9, v3_9, mp_9, sp_9⟩ := op_0 hI m_8 s_8
      obtain ⟨w1_9, w2_9, w3_9, w4_9, w5_9⟩ := lenw hj v1_9 v2_9 v3_9
      have hz_11 : (0 : Int32).toInt = 0 := by decide
      refine t_putN (D := D) (L := L) (f := f) (ci := 5) (v := .int 0) (ty := .int) (C := RX5) (T := TX5) (N := 4) (host := "JugglingHall") hx hb hts (by decide +kernel) tyX5 tyX5_ok nmX5 hown hK.1 hP hD hS m_8 fg_9 rfl 3 (by decide) (hK.nw (.fieldLinkNest RX4 62 "JugglingHall$Row" "length" "I" "JugglingHall") (by decide +kernel) rfl) (fun _ h9 => h9) rfl (by decide +kernel) rfl rfl (Nat.le_of_ble_eq_true rfl) dX4_readSequence_24 (fun f_10 H locs e9_10 o_10 hP hD hS => ?_)
      have fa_10 : f_10 r_8 = .inr (5, [.int (nI jn), .int (nI (2 * jn)), .ref p_8, .int 0]) := e9_10
      have hI := IN_set (e := .inr (5, [.int (nI jn), .int (nI (2 * jn)), .ref p_8, .int 0])) hI s_8 (mk_0 (by first | assumption | omega) (by rw [show (0 : Int32).toInt = 0 from rfl, Int.zero_mul]; omega) (by first | assumption | omega) (by first | assumption | omega) (by first | assumption | omega)) fa_10 o_10
      have hF := FR_set hF s_8 (show (0 : Nat) ∈ ([0, 1, 13, 14, 34] : List Nat) by decide) o_10
      have hTK_10 : TK g cI f_10 := TK_set (f := f) (by assumption) hG s_8 (show (0 : Nat) ∉ ([14, 31, 32] : List Nat) by decide) o_10
      have fb_12 : f_10 (g 13) = .inr (4, [.int (nI jn), .ref (g 14), .ref (g 12), .ref (g 22), .ref (g 34), .ref (g 23), .ref (g 24), .ref (g 25), .ref (g 26), .int fa_6, .int pl_6]) := f_at o_10 (S_ne (gs_13 hG) s_8 (show (13 : Nat) ≠ 0 by decide)) fg_6
      have fb_13 : f_10 (g 22) = .inl (cR, 6, .inr (.inr (.inr (.inr c_7)))) := f_at o_10 (S_ne (gs_22 hG) s_8 (show (22 : Nat) ≠ 0 by decide)) fg_7
      refine lv_iconst (v := 0) hx hb dX4_readSequence_27 (by decide) ?_
      refine lv_istore_n (lv' := [(3, .int 0), (2, .ref r_8), (0, .ref (g 13)), (1, .int x)]) hx hb dX4_readSequence_28 rfl hl (by decide) rfl (fun ls hl => ?_)
      have loop29 : ∀ (ddloop29 : Nat) (ii : Int32) (f_14 : Nat → va_E) (H : Heap) (locs : List Loc) (ls : Array Slot), (400 - ii.toInt).toNat < ddloop29 → IN jn cI cR cM g L S f_14 → FR S [0, 1, 13, 14, 34] f f_14 → (0 ≤ ii.toInt ∧ ii.toInt ≤ 301) → (TK g cI f_14) → va_P D vwCl (va_pl L f_14) H → va_D A (va_pl L f_14) → va_S A s.heap H locs → lv_has ls 5 [(0, .ref (g 13)), (1, .int x), (2, .ref r_8), (3, .int ii)] → W p l e ({ frames := 11, cells := 0, slots := 0, locals := 296 }) s m args below meth c H locs 0 0 Q (F0 m 29 ls []) := by
        intro ddloop29
        induction ddloop29 with
        | zero =>
          intro ii f_14 H locs ls hdd
          exact absurd hdd (Nat.not_lt_zero _)
        | succ ddloop29 ih29 =>
          intro ii f_14 H locs ls hdd hI hF hi hTK hP hD hS hl
          refine lv_iload_n hx hb dX4_readSequence_29 rfl (lv_at hl 3 rfl) ?_
          refine lv_sipush (v := 300) hx hb dX4_readSequence_30 (by decide) ?_
          refine a_icmp_gt (u := ii.toInt) (v := 300) (tgt := 79) hx hb dX4_readSequence_33 (by decide) (rfl) (by decide) (fun c_15 => ?_) (fun c_15 => ?_)
          · refine lv_iconst (v := 1) hx hb dX4_readSequence_79 (by decide) ?_
            have hz_16 : (1 : Int32).toInt = 1 := by decide
            exact g_zret ((1 : Int32), f_14) hx hb hr hlocks hS (by first | exact Or.inl rfl | exact Or.inr rfl) rfl (⟨hI, hF, show TK g cI f_14 from (by first | assumption | omega), show (1 : Int32).toInt = 0 ∨ (1 : Int32).toInt = 1 from (by first | assumption | omega)⟩) hP hD hQ (Nat.le_of_ble_eq_true rfl) (Nat.le_of_ble_eq_true rfl) dX4_readSequence_80
          · refine lv_iload_n hx hb dX4_readSequence_36 rfl (lv_at hl 3 rfl) ?_
            refine a_if_eq (u := ii.toInt) (tgt := 47) hx hb dX4_readSequence_37 (by decide) (rfl) (fun c_17 => ?_) (fun c_17 => ?_)
            · refine lv_aload_n hx hb dX4_readSequence_47 rfl (lv_at hl 2 rfl) ?_
              obtain ⟨len_18, fg_18, v1_18, v2_18, v3_18, mp_18, sp_18⟩ := op_0 hI m_8 s_8
              obtain ⟨w1_18, w2_18, w3_18, w4_18, w5_18⟩ := lenw hj v1_18 v2_18 v3_18
              refine t_getN (D := D) (L := L) (f := f_14) (ci := 5) (v := .int len_18) (C := RX5) (T := TX5) (N := 4) (host := "JugglingHall") hx hb hts (by decide +kernel) hown hK.1 hP m_8 fg_18 rfl 3 (by decide) (hK.nw (.fieldLinkNest RX4 62 "JugglingHall$Row" "length" "I" "JugglingHall") (by decide +kernel) rfl) (fun _ h9 => h9) rfl dX4_readSequence_48 ?_
              refine lv_istore (lv' := [(4, .int len_18), (0, .ref (g 13)), (1, .int x), (2, .ref r_8), (3, .int ii)]) hx hb dX4_readSequence_51 hl (by decide) rfl (fun ls hl => ?_)
              refine lv_aload_n hx hb dX4_readSequence_53 rfl (lv_at hl 1 rfl) ?_
              refine lv_iload_n hx hb dX4_readSequence_54 rfl (lv_at hl 2 rfl) ?_
              obtain ⟨fa_19, pl_19, fg_19⟩ := op_13 hI (gm_13 hG) (gs_13 hG)
              refine call_p (va_runV (As := [.int x]) (rest := []) ⟨hx, hb, hml, hown, hts⟩ (t_X4_readOne_4 l D cI cR cM _  hj hG hI  (by first | assumption | omega) (by first | assumption | omega) (by first | assumption | omega)) (cwV 1 hts gX4_readSequence_X4_readOne rfl rfl rfl (by decide +kernel) ⟨Nat.le_of_ble_eq_true rfl, Nat.le_of_ble_eq_true rfl⟩) (pre_T hK hP hD (gm_13 hG) fg_19 rfl) rfl rfl hl.1 rfl (lv_room (Nat.le_of_ble_eq_true rfl)) dX4_readSequence_55 ⟨Nat.le_of_ble_eq_true rfl, Nat.le_of_ble_eq_true rfl⟩) hD hS hA (fun u_20 H locs hw hP hD hS => ?_)
              obtain ⟨r_20, f_20⟩ := u_20
              obtain ⟨hI, hF_20, hTK_20, h01_20⟩ : IN jn cI cR cM g L S f_20 ∧ FR S [0, 1, 13, 14, 34] f_14 f_20 ∧ (TK g cI f_20) ∧ (r_20.toInt = 0 ∨ r_20.toInt = 1) := hw
              have hP : va_P D vwCl (va_pl L f_20) H := hP
              have hD : va_D A (va_pl L f_20) := hD
              have hF := FR_tr hF hF_20 (by decide)
              refine a_if_eq (u := r_20.toInt) (tgt := 71) hx hb dX4_readSequence_58 (by decide) (rfl) (fun c_21 => ?_) (fun c_21 => ?_)
              · refine lv_iconst (v := 0) hx hb dX4_readSequence_71 (by decide) ?_
                have hz_22 : (0 : Int32).toInt = 0 := by decide
                exact g_zret ((0 : Int32), f_20) hx hb hr hlocks hS (by first | exact Or.inl rfl | exact Or.inr rfl) rfl (⟨hI, hF, show TK g cI f_20 from (by first | assumption | omega), show (0 : Int32).toInt = 0 ∨ (0 : Int32).toInt = 1 from (by first | assumption | omega)⟩) hP hD hQ (Nat.le_of_ble_eq_true rfl) (Nat.le_of_ble_eq_true rfl) dX4_readSequence_72
              · refine lv_aload_n hx hb dX4_readSequence_61 rfl (lv_at hl 1 rfl) ?_
                refine lv_aload_n hx hb dX4_readSequence_62 rfl (lv_at hl 3 rfl) ?_
                refine lv_iload hx hb dX4_readSequence_63 (lv_at hl 0 rfl) ?_
                obtain ⟨fa_23, pl_23, fg_23⟩ := op_13 hI (gm_13 hG) (gs_13 hG)
                obtain ⟨len_24, fg_24, v1_24, v2_24, v3_24, mp_24, sp_24⟩ := op_0 hI m_8 s_8
                obtain ⟨w1_24, w2_24, w3_24, w4_24, w5_24⟩ := lenw hj v1_24 v2_24 v3_24
                obtain ⟨c_25, fg_25, iv0_25⟩ := op_1 hI mp_9 sp_9
                refine call_p (va_runV (As := [.ref r_8, .int len_18]) (rest := []) ⟨hx, hb, hml, hown, hts⟩ (t_X4_readTimes l D cI cR cM _  hj hG hI m_8 s_8 fg_24 fg_25 (by first | assumption | omega) (by first | assumption | omega)) (cwV 2 hts gX4_readSequence_X4_readTimes rfl rfl rfl (by decide +kernel) ⟨Nat.le_of_ble_eq_true rfl, Nat.le_of_ble_eq_true rfl⟩) (pre_T hK hP hD (gm_13 hG) fg_23 rfl) rfl rfl hl.1 rfl (lv_room (Nat.le_of_ble_eq_true rfl)) dX4_readSequence_65 ⟨Nat.le_of_ble_eq_true rfl, Nat.le_of_ble_eq_true rfl⟩) hD hS hA (fun u_26 H locs hw hP hD hS => ?_)
                obtain ⟨r_26, f_26⟩ := u_26
                obtain ⟨hI, hF_26, hTK_26, h01_26⟩ : IN jn cI cR cM g L S f_26 ∧ FR S [0, 1, 13, 14] f_20 f_26 ∧ (TK g cI f_26) ∧ (r_26.toInt = 0 ∨ r_26.toInt = 1) := hw
                have hP : va_P D vwCl (va_pl L f_26) H := hP
                have hD : va_D A (va_pl L f_26) := hD
                have hF := FR_tr hF hF_26 (by decide)
                refine a_if_ne (u := r_26.toInt) (tgt := 73) hx hb dX4_readSequence_68 (by decide) (rfl) (fun c_27 => ?_) (fun c_27 => ?_)
                · obtain ⟨z_28, q_28, e_28⟩ := i_inc (a := ii.toInt) (1) (rfl) (by decide) (by omega) (by omega)
                  refine lv_iinc (v := z_28) (lv' := [(3, .int z_28), (4, .int len_18), (0, .ref (g 13)), (1, .int x), (2, .ref r_8)]) hx hb dX4_readSequence_73 hl (k := 4) rfl q_28 (by decide) rfl (fun ls hl => ?_)
                  refine lv_goto (tgt := 29) hx hb dX4_readSequence_76 (by decide) ?_
                  exact ih29 z_28 f_26 _ _ _ (by omega) hI hF (by first | assumption | omega) (by first | assumption | omega) hP hD hS (lv_sub hl [2, 3, 4, 0] rfl)
                · refine lv_iconst (v := 0) hx hb dX4_readSequence_71 (by decide) ?_
                  have hz_29 : (0 : Int32).toInt = 0 := by decide
                  exact g_zret ((0 : Int32), f_26) hx hb hr hlocks hS (by first | exact Or.inl rfl | exact Or.inr rfl) rfl (⟨hI, hF, show TK g cI f_26 from (by first | assumption | omega), show (0 : Int32).toInt = 0 ∨ (0 : Int32).toInt = 1 from (by first | assumption | omega)⟩) hP hD hQ (Nat.le_of_ble_eq_true rfl) (Nat.le_of_ble_eq_true rfl) dX4_readSequence_72
            · refine lv_aload_n hx hb dX4_readSequence_40 rfl (lv_at hl 0 rfl) ?_
              obtain ⟨fa_30, pl_30, fg_30⟩ := op_13 hI (gm_13 hG) (gs_13 hG)
              refine roP (va_runV (As := []) (rest := []) ⟨hx, hb, hml, hown, hts⟩ (t_X4_beginsOne l D cI cR cM _  hj hG hI  ) (cwV 0 hts gX4_readSequence_X4_beginsOne rfl rfl rfl (by decide +kernel) ⟨Nat.le_of_ble_eq_true rfl, Nat.le_of_ble_eq_true rfl⟩) (pre_T hK hP hD (gm_13 hG) fg_30 rfl) rfl rfl hl.1 rfl (lv_room (Nat.le_of_ble_eq_true rfl)) dX4_readSequence_41 ⟨Nat.le_of_ble_eq_true rfl, Nat.le_of_ble_eq_true rfl⟩) hS hA hP (fun r_31 H locs hw hP hS => ?_)
              have h01_31 : (r_31.toInt = 0 ∨ r_31.toInt = 1) := hw
              refine a_if_eq (u := r_31.toInt) (tgt := 79) hx hb dX4_readSequence_44 (by decide) (rfl) (fun c_32 => ?_) (fun c_32 => ?_)
              · refine lv_iconst (v := 1) hx hb dX4_readSequence_79 (by decide) ?_
                have hz_33 : (1 : Int32).toInt = 1 := by decide
                exact g_zret ((1 : Int32), f_14) hx hb hr hlocks hS (by first | exact Or.inl rfl | exact Or.inr rfl) rfl (⟨hI, hF, show TK g cI f_14 from (by first | assumption | omega), show (1 : Int32).toInt = 0 ∨ (1 : Int32).toInt = 1 from (by first | assumption | omega)⟩) hP hD hQ (Nat.le_of_ble_eq_true rfl) (Nat.le_of_ble_eq_true rfl) dX4_readSequence_80
              · refine lv_aload_n hx hb dX4_readSequence_47 rfl (lv_at hl 2 rfl) ?_
                obtain ⟨len_34, fg_34, v1_34, v2_34, v3_34, mp_34, sp_34⟩ := op_0 hI m_8 s_8
                obtain ⟨w1_34, w2_34, w3_34, w4_34, w5_34⟩ := lenw hj v1_34 v2_34 v3_34
                refine t_getN (D := D) (L := L) (f := f_14) (ci := 5) (v := .int len_34) (C := RX5) (T := TX5) (N := 4) (host := "JugglingHall") hx hb hts (by decide +kernel) hown hK.1 hP m_8 fg_34 rfl 3 (by decide) (hK.nw (.fieldLinkNest RX4 62 "JugglingHall$Row" "length" "I" "JugglingHall") (by decide +kernel) rfl) (fun _ h9 => h9) rfl dX4_readSequence_48 ?_
                refine lv_istore (lv' := [(4, .int len_34), (0, .ref (g 13)), (1, .int x), (2, .ref r_8), (3, .int ii)]) hx hb dX4_readSequence_51 hl (by decide) rfl (fun ls hl => ?_)
                refine lv_aload_n hx hb dX4_readSequence_53 rfl (lv_at hl 1 rfl) ?_
                refine lv_iload_n hx hb dX4_readSequence_54 rfl (lv_at hl 2 rfl) ?_
                refine call_p (va_runV (As := [.int x]) (rest := []) ⟨hx, hb, hml, hown, hts⟩ (t_X4_readOne_4 l D cI cR cM _  hj hG hI  (by first | assumption | omega) (by first | assumption | omega) (by first | assumption | omega)) (cwV 1 hts gX4_readSequence_X4_readOne rfl rfl rfl (by decide +kernel) ⟨Nat.le_of_ble_eq_true rfl, Nat.le_of_ble_eq_true rfl⟩) (pre_T hK hP hD (gm_13 hG) fg_30 rfl) rfl rfl hl.1 rfl (lv_room (Nat.le_of_ble_eq_true rfl)) dX4_readSequence_55 ⟨Nat.le_of_ble_eq_true rfl, Nat.le_of_ble_eq_true rfl⟩) hD hS hA (fun u_35 H locs hw hP hD hS => ?_)
                obtain ⟨r_35, f_35⟩ := u_35
                obtain ⟨hI, hF_35, hTK_35, h01_35⟩ : IN jn cI cR cM g L S f_35 ∧ FR S [0, 1, 13, 14, 34] f_14 f_35 ∧ (TK g cI f_35) ∧ (r_35.toInt = 0 ∨ r_35.toInt = 1) := hw
                have hP : va_P D vwCl (va_pl L f_35) H := hP
                have hD : va_D A (va_pl L f_35) := hD
                have hF := FR_tr hF hF_35 (by decide)
                refine a_if_eq (u := r_35.toInt) (tgt := 71) hx hb dX4_readSequence_58 (by decide) (rfl) (fun c_36 => ?_) (fun c_36 => ?_)
                · refine lv_iconst (v := 0) hx hb dX4_readSequence_71 (by decide) ?_
                  have hz_37 : (0 : Int32).toInt = 0 := by decide
                  exact g_zret ((0 : Int32), f_35) hx hb hr hlocks hS (by first | exact Or.inl rfl | exact Or.inr rfl) rfl (⟨hI, hF, show TK g cI f_35 from (by first | assumption | omega), show (0 : Int32).toInt = 0 ∨ (0 : Int32).toInt = 1 from (by first | assumption | omega)⟩) hP hD hQ (Nat.le_of_ble_eq_true rfl) (Nat.le_of_ble_eq_true rfl) dX4_readSequence_72
                · refine lv_aload_n hx hb dX4_readSequence_61 rfl (lv_at hl 1 rfl) ?_
                  refine lv_aload_n hx hb dX4_readSequence_62 rfl (lv_at hl 3 rfl) ?_
                  refine lv_iload hx hb dX4_readSequence_63 (lv_at hl 0 rfl) ?_
                  obtain ⟨fa_38, pl_38, fg_38⟩ := op_13 hI (gm_13 hG) (gs_13 hG)
                  obtain ⟨len_39, fg_39, v1_39, v2_39, v3_39, mp_39, sp_39⟩ := op_0 hI m_8 s_8
                  obtain ⟨w1_39, w2_39, w3_39, w4_39, w5_39⟩ := lenw hj v1_39 v2_39 v3_39
                  obtain ⟨c_40, fg_40, iv0_40⟩ := op_1 hI mp_9 sp_9
                  refine call_p (va_runV (As := [.ref r_8, .int len_34]) (rest := []) ⟨hx, hb, hml, hown, hts⟩ (t_X4_readTimes l D cI cR cM _  hj hG hI m_8 s_8 fg_39 fg_40 (by first | assumption | omega) (by first | assumption | omega)) (cwV 2 hts gX4_readSequence_X4_readTimes rfl rfl rfl (by decide +kernel) ⟨Nat.le_of_ble_eq_true rfl, Nat.le_of_ble_eq_true rfl⟩) (pre_T hK hP hD (gm_13 hG) fg_38 rfl) rfl rfl hl.1 rfl (lv_room (Nat.le_of_ble_eq_true rfl)) dX4_readSequence_65 ⟨Nat.le_of_ble_eq_true rfl, Nat.le_of_ble_eq_true rfl⟩) hD hS hA (fun u_41 H locs hw hP hD hS => ?_)
                  obtain ⟨r_41, f_41⟩ := u_41
                  obtain ⟨hI, hF_41, hTK_41, h01_41⟩ : IN jn cI cR cM g L S f_41 ∧ FR S [0, 1, 13, 14] f_35 f_41 ∧ (TK g cI f_41) ∧ (r_41.toInt = 0 ∨ r_41.toInt = 1) := hw
                  have hP : va_P D vwCl (va_pl L f_41) H := hP
                  have hD : va_D A (va_pl L f_41) := hD
                  have hF := FR_tr hF hF_41 (by decide)
                  refine a_if_ne (u := r_41.toInt) (tgt := 73) hx hb dX4_readSequence_68 (by decide) (rfl) (fun c_42 => ?_) (fun c_42 => ?_)
                  · obtain ⟨z_43, q_43, e_43⟩ := i_inc (a := ii.toInt) (1) (rfl) (by decide) (by omega) (by omega)
                    refine lv_iinc (v := z_43) (lv' := [(3, .int z_43), (4, .int len_34), (0, .ref (g 13)), (1, .int x), (2, .ref r_8)]) hx hb dX4_readSequence_73 hl (k := 4) rfl q_43 (by decide) rfl (fun ls hl => ?_)
                    refine lv_goto (tgt := 29) hx hb dX4_readSequence_76 (by decide) ?_
                    exact ih29 z_43 f_41 _ _ _ (by omega) hI hF (by first | assumption | omega) (by first | assumption | omega) hP hD hS (lv_sub hl [2, 3, 4, 0] rfl)
                  · refine lv_iconst (v := 0) hx hb dX4_readSequence_71 (by decide) ?_
                    have hz_44 : (0 : Int32).toInt = 0 := by decide
                    exact g_zret ((0 : Int32), f_41) hx hb hr hlocks hS (by first | exact Or.inl rfl | exact Or.inr rfl) rfl (⟨hI, hF, show TK g cI f_41 from (by first | assumption | omega), show (0 : Int32).toInt = 0 ∨ (0 : Int32).toInt = 1 from (by first | assumption | omega)⟩) hP hD hQ (Nat.le_of_ble_eq_true rfl) (Nat.le_of_ble_eq_true rfl) dX4_readSequence_72
      have hz_45 : (0 : Int32).toInt = 0 := by decide
      exact loop29 ((400 - (0 : Int32).toInt).toNat + 1) (0 : Int32) f_10 _ _ _ (by omega) hI hF (by first | assumption | omega) (by first | assumption | omega) hP hD hS (lv_sub hl [2, 3, 1, 0] rfl)
    · refine lv_aload_n hx hb dX4_readSequence_9 rfl (lv_at hl 0 rfl) ?_
      refine lv_iconst (v := 3) hx hb dX4_readSequence_10 (by decide) ?_
      have hz_46 : (3 : Int32).toInt = 3 := by decide
      obtain ⟨fa_47, pl_47, fg_47⟩ := op_13 hI (gm_13 hG) (gs_13 hG)
      refine call_p (va_runV (As := [.int 3]) (rest := []) ⟨hx, hb, hml, hown, hts⟩ (t_X4_fail l D cI cR cM _  hj hG hI  ) (cwV 1 hts gX4_readSequence_X4_fail rfl rfl rfl (by decide +kernel) ⟨Nat.le_of_ble_eq_true rfl, Nat.le_of_ble_eq_true rfl⟩) (pre_T hK hP hD (gm_13 hG) fg_47 rfl) rfl rfl hl.1 rfl (lv_room (Nat.le_of_ble_eq_true rfl)) dX4_readSequence_11 ⟨Nat.le_of_ble_eq_true rfl, Nat.le_of_ble_eq_true rfl⟩) hD hS hA (fun u_48 H locs hw hP hD hS => ?_)
      obtain ⟨r_48, f_48⟩ := u_48
      obtain ⟨hI, hF_48, h0_48, h01_48⟩ : IN jn cI cR cM g L S f_48 ∧ FR S [13] f f_48 ∧ (r_48.toInt = 0) ∧ (r_48.toInt = 0 ∨ r_48.toInt = 1) := hw
      have hP : va_P D vwCl (va_pl L f_48) H := hP
      have hD : va_D A (va_pl L f_48) := hD
      have hF := FR_tr hF hF_48 (by decide)
      have hTK_48 : TK g cI f_48 := TK_fr (f := f) (by assumption) hG hF_48 (by decide)
      exact g_zret (r_48, f_48) hx hb hr hlocks hS (b01 (by omega)) rfl (⟨hI, hF, show TK g cI f_48 from (by first | assumption | omega), show r_48.toInt = 0 ∨ r_48.toInt = 1 from (by first | assumption | omega)⟩) hP hD hQ (Nat.le_of_ble_eq_true rfl) (Nat.le_of_ble_eq_true rfl) dX4_readSequence_14
set_option maxRecDepth 100000 in
set_option maxHeartbeats 4000000 in
theorem t_X4_readOne_5 (l : Launch) (D : va_G) (cI cR cM : ClassId) (sz : Nat) {jn : Nat} {g : Nat → Nat} {L : List Nat} {S : Sg} {f : Nat → va_E} {x : Int32}  (hj : 1 ≤ jn ∧ jn ≤ 3) (hG : SG g L S) (hI : IN jn cI cR cM g L S f) (hx0 : 0 ≤ x.toInt ∧ x.toInt ≤ 5) (hd : 1 ≤ x.toInt) (hTK : TK g cI f) : Met l yX4_readOne wsX4_readOne ({ frames := 12, cells := 0, slots := 0, locals := 320 }) (P0 D cI cR cM [.ref (g 13), .int x] sz (va_pl L f)) (QG (S := Int32 × (Nat → va_E)) (fun u => some (.int u.1)) (fun u => va_pl L u.2) (fun u => IN jn cI cR cM g L S u.2 ∧ FR S [0, 1, 13, 14, 34] f u.2 ∧ (TK g cI u.2) ∧ (u.1.toInt = 0 ∨ u.1.toInt = 1)) D (va_A (va_pl L f) sz)) 0 0 (va_A (va_pl L f) sz) := by
  refine go (cc := cX4_readOne) (maxL := 3) (ret := (some .boolean)) (by decide +kernel) rfl (Nat.le_of_ble_eq_true rfl) ?_
  intro p e s m below meth c ls args Q hQ hsz hx hb hr hml hts hown hlocks hnm hP hK hD hl
  subst hsz
  have hD := hD.self (sz := s.heap.size)
  generalize hAe : va_A (va_pl L f) s.heap.size = A at hD hQ
  have hA : ∀ q, s.heap.size ≤ q → A q := fun q h => by rw [← hAe]; exact Or.inr h
  have hS : va_S A s.heap s.heap [] := va_S.rf
  have hF : FR S [0, 1, 13, 14, 34] f f := FR_rf
  have hl : lv_has ls 3 [(0, .ref (g 13)), (1, .int x)] := hl
  refine lv_aload_n hx hb dX4_readOne_0 rfl (lv_at hl 0 rfl) ?_
  obtain ⟨fa_1, pl_1, fg_1⟩ := op_13 hI (gm_13 hG) (gs_13 hG)
  refine roP (va_runV (As := []) (rest := []) ⟨hx, hb, hml, hown, hts⟩ (t_X4_beginsOne l D cI cR cM _  hj hG hI  ) (cwV 0 hts gX4_readOne_X4_beginsOne rfl rfl rfl (by decide +kernel) ⟨Nat.le_of_ble_eq_true rfl, Nat.le_of_ble_eq_true rfl⟩) (pre_T hK hP hD (gm_13 hG) fg_1 rfl) rfl rfl hl.1 rfl (lv_room (Nat.le_of_ble_eq_true rfl)) dX4_readOne_1 ⟨Nat.le_of_ble_eq_true rfl, Nat.le_of_ble_eq_true rfl⟩) hS hA hP (fun r_2 H locs hw hP hS => ?_)
  have h01_2 : (r_2.toInt = 0 ∨ r_2.toInt = 1) := hw
  refine a_if_ne (u := r_2.toInt) (tgt := 13) hx hb dX4_readOne_4 (by decide) (rfl) (fun c_3 => ?_) (fun c_3 => ?_)
  · refine lv_aload_n hx hb dX4_readOne_13 rfl (lv_at hl 0 rfl) ?_
    refine t_get (D := D) (L := L) (f := f) (ci := 4) (v := .ref (g 14)) (C := RX4) (T := TX4) (N := 11) hx hb hts (by decide +kernel) hown hK.1 hP (gm_13 hG) fg_1 rfl 1 (by decide) (hts (.fieldLink RX4 41 "JugglingHall$Reader" "tokens" "LJugglingHall$Tokens;") (by decide +kernel)) (fun _ h9 => h9) rfl dX4_readOne_14 ?_
    obtain ⟨cnt_4, nx_4, kd_4, vl_4, st_4, ls_4, fg_4, iv0_4, iv1_4, iv2_4⟩ := op_14 hI (gm_14 hG) (gs_14 hG)
    refine t_getN (D := D) (L := L) (f := f) (ci := 8) (v := .int kd_4) (C := RX8) (T := TX8) (N := 10) (host := "JugglingHall") hx hb hts (by decide +kernel) hown hK.1 hP (gm_14 hG) fg_4 rfl 6 (by decide) (hK.nw (.fieldLinkNest RX4 70 "JugglingHall$Tokens" "kind" "I" "JugglingHall") (by decide +kernel) rfl) (fun _ h9 => h9) rfl dX4_readOne_17 ?_
    refine lv_istore_n (lv' := [(2, .int kd_4), (0, .ref (g 13)), (1, .int x)]) hx hb dX4_readOne_20 rfl hl (by decide) rfl (fun ls hl => ?_)
    refine lv_iload_n hx hb dX4_readOne_21 rfl (lv_at hl 0 rfl) ?_
    have hu_5 : kd_4.toInt = kd_4.toInt := rfl
    rcases (show (kd_4.toInt = 2) ∨ (kd_4.toInt = 3) ∨ (kd_4.toInt = 60) ∨ (kd_4.toInt = 91) ∨ (kd_4.toInt ≠ 2 ∧ kd_4.toInt ≠ 3 ∧ kd_4.toInt ≠ 60 ∧ kd_4.toInt ≠ 91) by omega) with c_5 | c_5 | c_5 | c_5 | c_5
    · refine lv_lookup (off := 53) (tgt := 75) hx hb dX4_readOne_22 (by decide) (by rw [hu_5, c_5]; decide) (by decide) ?_
      refine lv_aload_n hx hb dX4_readOne_75 rfl (lv_at hl 1 rfl) ?_
      refine lv_aload_n hx hb dX4_readOne_76 rfl (lv_at hl 1 rfl) ?_
      refine t_get (D := D) (L := L) (f := f) (ci := 4) (v := .ref (g 22)) (C := RX4) (T := TX4) (N := 11) hx hb hts (by decide +kernel) hown hK.1 hP (gm_13 hG) fg_1 rfl 3 (by decide) (hts (.fieldLink RX4 13 "JugglingHall$Reader" "levels" "[LJugglingHall$Row;") (by decide +kernel)) (fun _ h9 => h9) rfl dX4_readOne_77 ?_
      refine lv_iload_n hx hb dX4_readOne_80 rfl (lv_at hl 2 rfl) ?_
      obtain ⟨c_6, fg_6, iv0_6⟩ := op_22 hI (gm_22 hG) (gs_22 hG)
      refine t_aald (L := L) (f := f) (y := c_6) (u := x.toInt) hx hb hK.1 hP (gm_22 hG) 1 fg_6 rfl dX4_readOne_81 (rfl) (by omega) (fun w_7 q_7 => ?_)
      obtain ⟨r_7, p_7, n_7, er_7, m_7, s_7⟩ := iv0_6 x.toInt (by omega) (by omega)
      have q_7 := q_7.trans er_7
      subst q_7
      refine W.eq (g2 := F0 m 82 ls [.ref r_7, .ref (g 13)]) rfl ?_
      obtain ⟨len_8, fg_8, v1_8, v2_8, v3_8, mp_8, sp_8⟩ := op_0 hI m_7 s_7
      obtain ⟨w1_8, w2_8, w3_8, w4_8, w5_8⟩ := lenw hj v1_8 v2_8 v3_8
      obtain ⟨c_9, fg_9, iv0_9⟩ := op_1 hI mp_8 sp_8
      refine call_p (va_runV (As := [.ref r_7]) (rest := []) ⟨hx, hb, hml, hown, hts⟩ (t_X4_readBeat l D cI cR cM _  hj hG hI m_7 s_7 fg_8 fg_9 (by first | assumption | omega)) (cwV 1 hts gX4_readOne_X4_readBeat rfl rfl rfl (by decide +kernel) ⟨Nat.le_of_ble_eq_true rfl, Nat.le_of_ble_eq_true rfl⟩) (pre_T hK hP hD (gm_13 hG) fg_1 rfl) rfl rfl hl.1 rfl (lv_room (Nat.le_of_ble_eq_true rfl)) dX4_readOne_82 ⟨Nat.le_of_ble_eq_true rfl, Nat.le_of_ble_eq_true rfl⟩) hD hS hA (fun u_10 H locs hw hP hD hS => ?_)
      obtain ⟨r_10, f_10⟩ := u_10
      obtain ⟨hI, hF_10, hTK_10, h01_10⟩ : IN jn cI cR cM g L S f_10 ∧ FR S [0, 1, 13, 14] f f_10 ∧ (TK g cI f_10) ∧ (r_10.toInt = 0 ∨ r_10.toInt = 1) := hw
      have hP : va_P D vwCl (va_pl L f_10) H := hP
      have hD : va_D A (va_pl L f_10) := hD
      have hF := FR_tr hF hF_10 (by decide)
      have fb_11 : f_10 (g 22) = .inl (cR, 6, .inr (.inr (.inr (.inr c_6)))) := FR_at hF_10 (gs_22 hG) (show (22 : Nat) ∉ ([0, 1, 13, 14] : List Nat) by decide) fg_6
      exact g_zret (r_10, f_10) hx hb hr hlocks hS (b01 (by omega)) rfl (⟨hI, hF, show TK g cI f_10 from (by first | assumption | omega), show r_10.toInt = 0 ∨ r_10.toInt = 1 from (by first | assumption | omega)⟩) hP hD hQ (Nat.le_of_ble_eq_true rfl) (Nat.le_of_ble_eq_true rfl) dX4_readOne_85
    · refine lv_lookup (off := 42) (tgt := 64) hx hb dX4_readOne_22 (by decide) (by rw [hu_5, c_5]; decide) (by decide) ?_
      refine lv_aload_n hx hb dX4_readOne_64 rfl (lv_at hl 1 rfl) ?_
      refine lv_aload_n hx hb dX4_readOne_65 rfl (lv_at hl 1 rfl) ?_
      refine t_get (D := D) (L := L) (f := f) (ci := 4) (v := .ref (g 22)) (C := RX4) (T := TX4) (N := 11) hx hb hts (by decide +kernel) hown hK.1 hP (gm_13 hG) fg_1 rfl 3 (by decide) (hts (.fieldLink RX4 13 "JugglingHall$Reader" "levels" "[LJugglingHall$Row;") (by decide +kernel)) (fun _ h9 => h9) rfl dX4_readOne_66 ?_
      refine lv_iload_n hx hb dX4_readOne_69 rfl (lv_at hl 2 rfl) ?_
      obtain ⟨c_12, fg_12, iv0_12⟩ := op_22 hI (gm_22 hG) (gs_22 hG)
      refine t_aald (L := L) (f := f) (y := c_12) (u := x.toInt) hx hb hK.1 hP (gm_22 hG) 1 fg_12 rfl dX4_readOne_70 (rfl) (by omega) (fun w_13 q_13 => ?_)
      obtain ⟨r_13, p_13, n_13, er_13, m_13, s_13⟩ := iv0_12 x.toInt (by omega) (by omega)
      have q_13 := q_13.trans er_13
      subst q_13
      refine W.eq (g2 := F0 m 71 ls [.ref r_13, .ref (g 13)]) rfl ?_
      obtain ⟨len_14, fg_14, v1_14, v2_14, v3_14, mp_14, sp_14⟩ := op_0 hI m_13 s_13
      obtain ⟨w1_14, w2_14, w3_14, w4_14, w5_14⟩ := lenw hj v1_14 v2_14 v3_14
      obtain ⟨c_15, fg_15, iv0_15⟩ := op_1 hI mp_14 sp_14
      refine call_p (va_runV (As := [.ref r_13]) (rest := []) ⟨hx, hb, hml, hown, hts⟩ (t_X4_readLetter l D cI cR cM _  hj hG hI m_13 s_13 fg_14 fg_15 (by first | assumption | omega)) (cwV 1 hts gX4_readOne_X4_readLetter rfl rfl rfl (by decide +kernel) ⟨Nat.le_of_ble_eq_true rfl, Nat.le_of_ble_eq_true rfl⟩) (pre_T hK hP hD (gm_13 hG) fg_1 rfl) rfl rfl hl.1 rfl (lv_room (Nat.le_of_ble_eq_true rfl)) dX4_readOne_71 ⟨Nat.le_of_ble_eq_true rfl, Nat.le_of_ble_eq_true rfl⟩) hD hS hA (fun u_16 H locs hw hP hD hS => ?_)
      obtain ⟨r_16, f_16⟩ := u_16
      obtain ⟨hI, hF_16, hTK_16, h01_16⟩ : IN jn cI cR cM g L S f_16 ∧ FR S [0, 1, 13, 14] f f_16 ∧ (TK g cI f_16) ∧ (r_16.toInt = 0 ∨ r_16.toInt = 1) := hw
      have hP : va_P D vwCl (va_pl L f_16) H := hP
      have hD : va_D A (va_pl L f_16) := hD
      have hF := FR_tr hF hF_16 (by decide)
      have fb_17 : f_16 (g 22) = .inl (cR, 6, .inr (.inr (.inr (.inr c_12)))) := FR_at hF_16 (gs_22 hG) (show (22 : Nat) ∉ ([0, 1, 13, 14] : List Nat) by decide) fg_12
      exact g_zret (r_16, f_16) hx hb hr hlocks hS (b01 (by omega)) rfl (⟨hI, hF, show TK g cI f_16 from (by first | assumption | omega), show r_16.toInt = 0 ∨ r_16.toInt = 1 from (by first | assumption | omega)⟩) hP hD hQ (Nat.le_of_ble_eq_true rfl) (Nat.le_of_ble_eq_true rfl) dX4_readOne_74
    · refine lv_lookup (off := 53) (tgt := 75) hx hb dX4_readOne_22 (by decide) (by rw [hu_5, c_5]; decide) (by decide) ?_
      refine lv_aload_n hx hb dX4_readOne_75 rfl (lv_at hl 1 rfl) ?_
      refine lv_aload_n hx hb dX4_readOne_76 rfl (lv_at hl 1 rfl) ?_
      refine t_get (D := D) (L := L) (f := f) (ci := 4) (v := .ref (g 22)) (C := RX4) (T := TX4) (N := 11) hx hb hts (by decide +kernel) hown hK.1 hP (gm_13 hG) fg_1 rfl 3 (by decide) (hts (.fieldLink RX4 13 "JugglingHall$Reader" "levels" "[LJugglingHall$Row;") (by decide +kernel)) (fun _ h9 => h9) rfl dX4_readOne_77 ?_
      refine lv_iload_n hx hb dX4_readOne_80 rfl (lv_at hl 2 rfl) ?_
      obtain ⟨c_18, fg_18, iv0_18⟩ := op_22 hI (gm_22 hG) (gs_22 hG)
      refine t_aald (L := L) (f := f) (y := c_18) (u := x.toInt) hx hb hK.1 hP (gm_22 hG) 1 fg_18 rfl dX4_readOne_81 (rfl) (by omega) (fun w_19 q_19 => ?_)
      obtain ⟨r_19, p_19, n_19, er_19, m_19, s_19⟩ := iv0_18 x.toInt (by omega) (by omega)
      have q_19 := q_19.trans er_19
      subst q_19
      refine W.eq (g2 := F0 m 82 ls [.ref r_19, .ref (g 13)]) rfl ?_
      obtain ⟨len_20, fg_20, v1_20, v2_20, v3_20, mp_20, sp_20⟩ := op_0 hI m_19 s_19
      obtain ⟨w1_20, w2_20, w3_20, w4_20, w5_20⟩ := lenw hj v1_20 v2_20 v3_20
      obtain ⟨c_21, fg_21, iv0_21⟩ := op_1 hI mp_20 sp_20
      refine call_p (va_runV (As := [.ref r_19]) (rest := []) ⟨hx, hb, hml, hown, hts⟩ (t_X4_readBeat l D cI cR cM _  hj hG hI m_19 s_19 fg_20 fg_21 (by first | assumption | omega)) (cwV 1 hts gX4_readOne_X4_readBeat rfl rfl rfl (by decide +kernel) ⟨Nat.le_of_ble_eq_true rfl, Nat.le_of_ble_eq_true rfl⟩) (pre_T hK hP hD (gm_13 hG) fg_1 rfl) rfl rfl hl.1 rfl (lv_room (Nat.le_of_ble_eq_true rfl)) dX4_readOne_82 ⟨Nat.le_of_ble_eq_true rfl, Nat.le_of_ble_eq_true rfl⟩) hD hS hA (fun u_22 H locs hw hP hD hS => ?_)
      obtain ⟨r_22, f_22⟩ := u_22
      obtain ⟨hI, hF_22, hTK_22, h01_22⟩ : IN jn cI cR cM g L S f_22 ∧ FR S [0, 1, 13, 14] f f_22 ∧ (TK g cI f_22) ∧ (r_22.toInt = 0 ∨ r_22.toInt = 1) := hw
      have hP : va_P D vwCl (va_pl L f_22) H := hP
      have hD : va_D A (va_pl L f_22) := hD
      have hF := FR_tr hF hF_22 (by decide)
      have fb_23 : f_22 (g 22) = .inl (cR, 6, .inr (.inr (.inr (.inr c_18)))) := FR_at hF_22 (gs_22 hG) (show (22 : Nat) ∉ ([0, 1, 13, 14] : List Nat) by decide) fg_18
      exact g_zret (r_22, f_22) hx hb hr hlocks hS (b01 (by omega)) rfl (⟨hI, hF, show TK g cI f_22 from (by first | assumption | omega), show r_22.toInt = 0 ∨ r_22.toInt = 1 from (by first | assumption | omega)⟩) hP hD hQ (Nat.le_of_ble_eq_true rfl) (Nat.le_of_ble_eq_true rfl) dX4_readOne_85
    · refine lv_lookup (off := 53) (tgt := 75) hx hb dX4_readOne_22 (by decide) (by rw [hu_5, c_5]; decide) (by decide) ?_
      refine lv_aload_n hx hb dX4_readOne_75 rfl (lv_at hl 1 rfl) ?_
      refine lv_aload_n hx hb dX4_readOne_76 rfl (lv_at hl 1 rfl) ?_
      refine t_get (D := D) (L := L) (f := f) (ci := 4) (v := .ref (g 22)) (C := RX4) (T := TX4) (N := 11) hx hb hts (by decide +kernel) hown hK.1 hP (gm_13 hG) fg_1 rfl 3 (by decide) (hts (.fieldLink RX4 13 "JugglingHall$Reader" "levels" "[LJugglingHall$Row;") (by decide +kernel)) (fun _ h9 => h9) rfl dX4_readOne_77 ?_
      refine lv_iload_n hx hb dX4_readOne_80 rfl (lv_at hl 2 rfl) ?_
      obtain ⟨c_24, fg_24, iv0_24⟩ := op_22 hI (gm_22 hG) (gs_22 hG)
      refine t_aald (L := L) (f := f) (y := c_24) (u := x.toInt) hx hb hK.1 hP (gm_22 hG) 1 fg_24 rfl dX4_readOne_81 (rfl) (by omega) (fun w_25 q_25 => ?_)
      obtain ⟨r_25, p_25, n_25, er_25, m_25, s_25⟩ := iv0_24 x.toInt (by omega) (by omega)
      have q_25 := q_25.trans er_25
      subst q_25
      refine W.eq (g2 := F0 m 82 ls [.ref r_25, .ref (g 13)]) rfl ?_
      obtain ⟨len_26, fg_26, v1_26, v2_26, v3_26, mp_26, sp_26⟩ := op_0 hI m_25 s_25
      obtain ⟨w1_26, w2_26, w3_26, w4_26, w5_26⟩ := lenw hj v1_26 v2_26 v3_26
      obtain ⟨c_27, fg_27, iv0_27⟩ := op_1 hI mp_26 sp_26
      refine call_p (va_runV (As := [.ref r_25]) (rest := []) ⟨hx, hb, hml, hown, hts⟩ (t_X4_readBeat l D cI cR cM _  hj hG hI m_25 s_25 fg_26 fg_27 (by first | assumption | omega)) (cwV 1 hts gX4_readOne_X4_readBeat rfl rfl rfl (by decide +kernel) ⟨Nat.le_of_ble_eq_true rfl, Nat.le_of_ble_eq_true rfl⟩) (pre_T hK hP hD (gm_13 hG) fg_1 rfl) rfl rfl hl.1 rfl (lv_room (Nat.le_of_ble_eq_true rfl)) dX4_readOne_82 ⟨Nat.le_of_ble_eq_true rfl, Nat.le_of_ble_eq_true rfl⟩) hD hS hA (fun u_28 H locs hw hP hD hS => ?_)
      obtain ⟨r_28, f_28⟩ := u_28
      obtain ⟨hI, hF_28, hTK_28, h01_28⟩ : IN jn cI cR cM g L S f_28 ∧ FR S [0, 1, 13, 14] f f_28 ∧ (TK g cI f_28) ∧ (r_28.toInt = 0 ∨ r_28.toInt = 1) := hw
      have hP : va_P D vwCl (va_pl L f_28) H := hP
      have hD : va_D A (va_pl L f_28) := hD
      have hF := FR_tr hF hF_28 (by decide)
      have fb_29 : f_28 (g 22) = .inl (cR, 6, .inr (.inr (.inr (.inr c_24)))) := FR_at hF_28 (gs_22 hG) (show (22 : Nat) ∉ ([0, 1, 13, 14] : List Nat) by decide) fg_24
      exact g_zret (r_28, f_28) hx hb hr hlocks hS (b01 (by omega)) rfl (⟨hI, hF, show TK g cI f_28 from (by first | assumption | omega), show r_28.toInt = 0 ∨ r_28.toInt = 1 from (by first | assumption | omega)⟩) hP hD hQ (Nat.le_of_ble_eq_true rfl) (Nat.le_of_ble_eq_true rfl) dX4_readOne_85
    · refine lv_lookup (off := 64) (tgt := 86) hx hb dX4_readOne_22 (by decide) (by rw [hu_5]; exact (show Op.lookupswitch.offset [(2, 53), (3, 42), (60, 53), (91, 53)] (64) kd_4.toInt = (64) from lkc (by omega) (lkc (by omega) (lkc (by omega) (lkc (by omega) (lkn _ _)))))) (by decide) ?_
      refine lv_aload_n hx hb dX4_readOne_86 rfl (lv_at hl 1 rfl) ?_
      refine lv_iload_n hx hb dX4_readOne_87 rfl (lv_at hl 0 rfl) ?_
      refine lv_iload_n hx hb dX4_readOne_88 rfl (lv_at hl 2 rfl) ?_
      refine call_p (va_runV (As := [.int kd_4, .int x]) (rest := []) ⟨hx, hb, hml, hown, hts⟩ (t_X4_openGroup l D cI cR cM _  hj hG hI  (by first | assumption | omega) (by first | assumption | omega)) (cwV 2 hts gX4_readOne_X4_openGroup rfl rfl rfl (by decide +kernel) ⟨Nat.le_of_ble_eq_true rfl, Nat.le_of_ble_eq_true rfl⟩) (pre_T hK hP hD (gm_13 hG) fg_1 rfl) rfl rfl hl.1 rfl (lv_room (Nat.le_of_ble_eq_true rfl)) dX4_readOne_89 ⟨Nat.le_of_ble_eq_true rfl, Nat.le_of_ble_eq_true rfl⟩) hD hS hA (fun u_30 H locs hw hP hD hS => ?_)
      obtain ⟨r_30, f_30⟩ := u_30
      obtain ⟨hI, hF_30, hd_30, hTK_30, h01_30⟩ : IN jn cI cR cM g L S f_30 ∧ FR S [13, 14, 34] f f_30 ∧ (r_30.toInt = 1 → x.toInt ≤ 4) ∧ (TK g cI f_30) ∧ (r_30.toInt = 0 ∨ r_30.toInt = 1) := hw
      have hP : va_P D vwCl (va_pl L f_30) H := hP
      have hD : va_D A (va_pl L f_30) := hD
      have hF := FR_tr hF hF_30 (by decide)
      refine a_if_eq (u := r_30.toInt) (tgt := 127) hx hb dX4_readOne_92 (by decide) (rfl) (fun c_31 => ?_) (fun c_31 => ?_)
      · refine lv_iconst (v := 0) hx hb dX4_readOne_127 (by decide) ?_
        have hz_32 : (0 : Int32).toInt = 0 := by decide
        exact g_zret ((0 : Int32), f_30) hx hb hr hlocks hS (by first | exact Or.inl rfl | exact Or.inr rfl) rfl (⟨hI, hF, show TK g cI f_30 from (by first | assumption | omega), show (0 : Int32).toInt = 0 ∨ (0 : Int32).toInt = 1 from (by first | assumption | omega)⟩) hP hD hQ (Nat.le_of_ble_eq_true rfl) (Nat.le_of_ble_eq_true rfl) dX4_readOne_128
      · refine lv_aload_n hx hb dX4_readOne_95 rfl (lv_at hl 1 rfl) ?_
        refine lv_iload_n hx hb dX4_readOne_96 rfl (lv_at hl 2 rfl) ?_
        refine lv_iconst (v := 1) hx hb dX4_readOne_97 (by decide) ?_
        refine a_iadd (u := x.toInt) (v := 1) hx hb dX4_readOne_98 (rfl) (by decide) (by omega) (fun z_33 e_33 => ?_)
        obtain ⟨fa_34, pl_34, fg_34⟩ := op_13 hI (gm_13 hG) (gs_13 hG)
        refine call_p (va_runV (As := [.int z_33]) (rest := []) ⟨hx, hb, hml, hown, hts⟩ (t_X4_readSequence_4 l D cI cR cM _  hj hG hI  (by first | assumption | omega) (by first | assumption | omega)) (cwV 1 hts gX4_readOne_X4_readSequence rfl rfl rfl (by decide +kernel) ⟨Nat.le_of_ble_eq_true rfl, Nat.le_of_ble_eq_true rfl⟩) (pre_T hK hP hD (gm_13 hG) fg_34 rfl) rfl rfl hl.1 rfl (lv_room (Nat.le_of_ble_eq_true rfl)) dX4_readOne_99 ⟨Nat.le_of_ble_eq_true rfl, Nat.le_of_ble_eq_true rfl⟩) hD hS hA (fun u_35 H locs hw hP hD hS => ?_)
        obtain ⟨r_35, f_35⟩ := u_35
        obtain ⟨hI, hF_35, hTK_35, h01_35⟩ : IN jn cI cR cM g L S f_35 ∧ FR S [0, 1, 13, 14, 34] f_30 f_35 ∧ (TK g cI f_35) ∧ (r_35.toInt = 0 ∨ r_35.toInt = 1) := hw
        have hP : va_P D vwCl (va_pl L f_35) H := hP
        have hD : va_D A (va_pl L f_35) := hD
        have hF := FR_tr hF hF_35 (by decide)
        refine a_if_eq (u := r_35.toInt) (tgt := 127) hx hb dX4_readOne_102 (by decide) (rfl) (fun c_36 => ?_) (fun c_36 => ?_)
        · refine lv_iconst (v := 0) hx hb dX4_readOne_127 (by decide) ?_
          have hz_37 : (0 : Int32).toInt = 0 := by decide
          exact g_zret ((0 : Int32), f_35) hx hb hr hlocks hS (by first | exact Or.inl rfl | exact Or.inr rfl) rfl (⟨hI, hF, show TK g cI f_35 from (by first | assumption | omega), show (0 : Int32).toInt = 0 ∨ (0 : Int32).toInt = 1 from (by first | assumption | omega)⟩) hP hD hQ (Nat.le_of_ble_eq_true rfl) (Nat.le_of_ble_eq_true rfl) dX4_readOne_128
        · refine lv_aload_n hx hb dX4_readOne_105 rfl (lv_at hl 1 rfl) ?_
          refine lv_bipush (v := 41) hx hb dX4_readOne_106 (by decide) ?_
          have hz_38 : (41 : Int32).toInt = 41 := by decide
          obtain ⟨fa_39, pl_39, fg_39⟩ := op_13 hI (gm_13 hG) (gs_13 hG)
          refine call_p (va_runV (As := [.int 41]) (rest := []) ⟨hx, hb, hml, hown, hts⟩ (t_X4_expect l D cI cR cM _  hj hG hI  (by first | assumption | omega)) (cwV 1 hts gX4_readOne_X4_expect rfl rfl rfl (by decide +kernel) ⟨Nat.le_of_ble_eq_true rfl, Nat.le_of_ble_eq_true rfl⟩) (pre_T hK hP hD (gm_13 hG) fg_39 rfl) rfl rfl hl.1 rfl (lv_room (Nat.le_of_ble_eq_true rfl)) dX4_readOne_108 ⟨Nat.le_of_ble_eq_true rfl, Nat.le_of_ble_eq_true rfl⟩) hD hS hA (fun u_40 H locs hw hP hD hS => ?_)
          obtain ⟨r_40, f_40⟩ := u_40
          obtain ⟨hI, hF_40, he_40, hTK_40, h01_40⟩ : IN jn cI cR cM g L S f_40 ∧ FR S [13, 14] f_35 f_40 ∧ (∀ cnt9 nx9 kd9 vl9 st9 ls9, f_35 (g 14) = .inr (8, [.ref (g 11), .ref (g 31), .ref (g 32), .ref (g 33), .int cnt9, .int nx9, .int kd9, .int vl9, .int st9, .int ls9]) → r_40.toInt = 1 → kd9.toInt = (41 : Int32).toInt) ∧ (TK g cI f_40) ∧ (r_40.toInt = 0 ∨ r_40.toInt = 1) := hw
          have hP : va_P D vwCl (va_pl L f_40) H := hP
          have hD : va_D A (va_pl L f_40) := hD
          have hF := FR_tr hF hF_40 (by decide)
          refine a_if_eq (u := r_40.toInt) (tgt := 127) hx hb dX4_readOne_111 (by decide) (rfl) (fun c_41 => ?_) (fun c_41 => ?_)
          · refine lv_iconst (v := 0) hx hb dX4_readOne_127 (by decide) ?_
            have hz_42 : (0 : Int32).toInt = 0 := by decide
            exact g_zret ((0 : Int32), f_40) hx hb hr hlocks hS (by first | exact Or.inl rfl | exact Or.inr rfl) rfl (⟨hI, hF, show TK g cI f_40 from (by first | assumption | omega), show (0 : Int32).toInt = 0 ∨ (0 : Int32).toInt = 1 from (by first | assumption | omega)⟩) hP hD hQ (Nat.le_of_ble_eq_true rfl) (Nat.le_of_ble_eq_true rfl) dX4_readOne_128
          · refine lv_aload_n hx hb dX4_readOne_114 rfl (lv_at hl 1 rfl) ?_
            refine lv_iload_n hx hb dX4_readOne_115 rfl (lv_at hl 0 rfl) ?_
            refine lv_iload_n hx hb dX4_readOne_116 rfl (lv_at hl 2 rfl) ?_
            obtain ⟨fa_43, pl_43, fg_43⟩ := op_13 hI (gm_13 hG) (gs_13 hG)
            refine call_p (va_runV (As := [.int kd_4, .int x]) (rest := []) ⟨hx, hb, hml, hown, hts⟩ (t_X4_joinGroup l D cI cR cM _  hj hG hI  (by first | assumption | omega) (by first | assumption | omega)) (cwV 2 hts gX4_readOne_X4_joinGroup rfl rfl rfl (by decide +kernel) ⟨Nat.le_of_ble_eq_true rfl, Nat.le_of_ble_eq_true rfl⟩) (pre_T hK hP hD (gm_13 hG) fg_43 rfl) rfl rfl hl.1 rfl (lv_room (Nat.le_of_ble_eq_true rfl)) dX4_readOne_117 ⟨Nat.le_of_ble_eq_true rfl, Nat.le_of_ble_eq_true rfl⟩) hD hS hA (fun u_44 H locs hw hP hD hS => ?_)
            obtain ⟨r_44, f_44⟩ := u_44
            obtain ⟨hI, hF_44, hTK_44, h01_44⟩ : IN jn cI cR cM g L S f_44 ∧ FR S [0, 1, 13] f_40 f_44 ∧ (TK g cI f_44) ∧ (r_44.toInt = 0 ∨ r_44.toInt = 1) := hw
            have hP : va_P D vwCl (va_pl L f_44) H := hP
            have hD : va_D A (va_pl L f_44) := hD
            have hF := FR_tr hF hF_44 (by decide)
            refine a_if_eq (u := r_44.toInt) (tgt := 127) hx hb dX4_readOne_120 (by decide) (rfl) (fun c_45 => ?_) (fun c_45 => ?_)
            · refine lv_iconst (v := 0) hx hb dX4_readOne_127 (by decide) ?_
              have hz_46 : (0 : Int32).toInt = 0 := by decide
              exact g_zret ((0 : Int32), f_44) hx hb hr hlocks hS (by first | exact Or.inl rfl | exact Or.inr rfl) rfl (⟨hI, hF, show TK g cI f_44 from (by first | assumption | omega), show (0 : Int32).toInt = 0 ∨ (0 : Int32).toInt = 1 from (by first | assumption | omega)⟩) hP hD hQ (Nat.le_of_ble_eq_true rfl) (Nat.le_of_ble_eq_true rfl) dX4_readOne_128
            · refine lv_iconst (v := 1) hx hb dX4_readOne_123 (by decide) ?_
              refine lv_goto (tgt := 128) hx hb dX4_readOne_124 (by decide) ?_
              have hz_47 : (1 : Int32).toInt = 1 := by decide
              exact g_zret ((1 : Int32), f_44) hx hb hr hlocks hS (by first | exact Or.inl rfl | exact Or.inr rfl) rfl (⟨hI, hF, show TK g cI f_44 from (by first | assumption | omega), show (1 : Int32).toInt = 0 ∨ (1 : Int32).toInt = 1 from (by first | assumption | omega)⟩) hP hD hQ (Nat.le_of_ble_eq_true rfl) (Nat.le_of_ble_eq_true rfl) dX4_readOne_128
  · refine lv_aload_n hx hb dX4_readOne_7 rfl (lv_at hl 0 rfl) ?_
    refine lv_iconst (v := 1) hx hb dX4_readOne_8 (by decide) ?_
    have hz_48 : (1 : Int32).toInt = 1 := by decide
    refine call_p (va_runV (As := [.int 1]) (rest := []) ⟨hx, hb, hml, hown, hts⟩ (t_X4_fail l D cI cR cM _  hj hG hI  ) (cwV 1 hts gX4_readOne_X4_fail rfl rfl rfl (by decide +kernel) ⟨Nat.le_of_ble_eq_true rfl, Nat.le_of_ble_eq_true rfl⟩) (pre_T hK hP hD (gm_13 hG) fg_1 rfl) rfl rfl hl.1 rfl (lv_room (Nat.le_of_ble_eq_true rfl)) dX4_readOne_9 ⟨Nat.le_of_ble_eq_true rfl, Nat.le_of_ble_eq_true rfl⟩) hD hS hA (fun u_49 H locs hw hP hD hS => ?_)
    obtain ⟨r_49, f_49⟩ := u_49
    obtain ⟨hI, hF_49, h0_49, h01_49⟩ : IN jn cI cR cM g L S f_49 ∧ FR S [13] f f_49 ∧ (r_49.toInt = 0) ∧ (r_49.toInt = 0 ∨ r_49.toInt = 1) := hw
    have hP : va_P D vwCl (va_pl L f_49) H := hP
    have hD : va_D A (va_pl L f_49) := hD
    have hF := FR_tr hF hF_49 (by decide)
    have hTK_49 : TK g cI f_49 := TK_fr (f := f) (by assumption) hG hF_49 (by decide)
    exact g_zret (r_49, f_49) hx hb hr hlocks hS (b01 (by omega)) rfl (⟨hI, hF, show TK g cI f_49 from (by first | assumption | omega), show r_49.toInt = 0 ∨ r_49.toInt = 1 from (by first | assumption | omega)⟩) hP hD hQ (Nat.le_of_ble_eq_true rfl) (Nat.le_of_ble_eq_true rfl) dX4_readOne_12
set_option maxRecDepth 100000 in
set_option maxHeartbeats 4000000 in
theorem t_X4_readSequence_5 (l : Launch) (D : va_G) (cI cR cM : ClassId) (sz : Nat) {jn : Nat} {g : Nat → Nat} {L : List Nat} {S : Sg} {f : Nat → va_E} {x : Int32}  (hj : 1 ≤ jn ∧ jn ≤ 3) (hG : SG g L S) (hI : IN jn cI cR cM g L S f) (hd : 1 ≤ x.toInt) (hTK : TK g cI f) : Met l yX4_readSequence wsX4_readSequence ({ frames := 13, cells := 0, slots := 0, locals := 342 }) (P0 D cI cR cM [.ref (g 13), .int x] sz (va_pl L f)) (QG (S := Int32 × (Nat → va_E)) (fun u => some (.int u.1)) (fun u => va_pl L u.2) (fun u => IN jn cI cR cM g L S u.2 ∧ FR S [0, 1, 13, 14, 34] f u.2 ∧ (TK g cI u.2) ∧ (u.1.toInt = 0 ∨ u.1.toInt = 1)) D (va_A (va_pl L f) sz)) 0 0 (va_A (va_pl L f) sz) := by
  refine go (cc := cX4_readSequence) (maxL := 5) (ret := (some .boolean)) (by decide +kernel) rfl (Nat.le_of_ble_eq_true rfl) ?_
  intro p e s m below meth c ls args Q hQ hsz hx hb hr hml hts hown hlocks hnm hP hK hD hl
  subst hsz
  have hD := hD.self (sz := s.heap.size)
  generalize hAe : va_A (va_pl L f) s.heap.size = A at hD hQ
  have hA : ∀ q, s.heap.size ≤ q → A q := fun q h => by rw [← hAe]; exact Or.inr h
  have hS : va_S A s.heap s.heap [] := va_S.rf
  have hF : FR S [0, 1, 13, 14, 34] f f := FR_rf
  have hl : lv_has ls 5 [(0, .ref (g 13)), (1, .int x)] := hl
  refine lv_iload_n hx hb dX4_readSequence_0 rfl (lv_at hl 1 rfl) ?_
  refine a_if_lt (u := x.toInt) (tgt := 9) hx hb dX4_readSequence_1 (by decide) (rfl) (fun c_1 => ?_) (fun c_1 => ?_)
  · refine lv_aload_n hx hb dX4_readSequence_9 rfl (lv_at hl 0 rfl) ?_
    refine lv_iconst (v := 3) hx hb dX4_readSequence_10 (by decide) ?_
    have hz_2 : (3 : Int32).toInt = 3 := by decide
    obtain ⟨fa_3, pl_3, fg_3⟩ := op_13 hI (gm_13 hG) (gs_13 hG)
    refine call_p (va_runV (As := [.int 3]) (rest := []) ⟨hx, hb, hml, hown, hts⟩ (t_X4_fail l D cI cR cM _  hj hG hI  ) (cwV 1 hts gX4_readSequence_X4_fail rfl rfl rfl (by decide +kernel) ⟨Nat.le_of_ble_eq_true rfl, Nat.le_of_ble_eq_true rfl⟩) (pre_T hK hP hD (gm_13 hG) fg_3 rfl) rfl rfl hl.1 rfl (lv_room (Nat.le_of_ble_eq_true rfl)) dX4_readSequence_11 ⟨Nat.le_of_ble_eq_true rfl, Nat.le_of_ble_eq_true rfl⟩) hD hS hA (fun u_4 H locs hw hP hD hS => ?_)
    obtain ⟨r_4, f_4⟩ := u_4
    obtain ⟨hI, hF_4, h0_4, h01_4⟩ : IN jn cI cR cM g L S f_4 ∧ FR S [13] f f_4 ∧ (r_4.toInt = 0) ∧ (r_4.toInt = 0 ∨ r_4.toInt = 1) := hw
    have hP : va_P D vwCl (va_pl L f_4) H := hP
    have hD : va_D A (va_pl L f_4) := hD
    have hF := FR_tr hF hF_4 (by decide)
    have hTK_4 : TK g cI f_4 := TK_fr (f := f) (by assumption) hG hF_4 (by decide)
    exact g_zret (r_4, f_4) hx hb hr hlocks hS (b01 (by omega)) rfl (⟨hI, hF, show TK g cI f_4 from (by first | assumption | omega), show r_4.toInt = 0 ∨ r_4.toInt = 1 from (by first | assumption | omega)⟩) hP hD hQ (Nat.le_of_ble_eq_true rfl) (Nat.le_of_ble_eq_true rfl) dX4_readSequence_14
  · refine lv_iload_n hx hb dX4_readSequence_4 rfl (lv_at hl 1 rfl) ?_
    refine lv_iconst (v := 5) hx hb dX4_readSequence_5 (by decide) ?_
    refine a_icmp_le (u := x.toInt) (v := 5) (tgt := 15) hx hb dX4_readSequence_6 (by decide) (rfl) (by decide) (fun c_5 => ?_) (fun c_5 => ?_)
    · refine lv_aload_n hx hb dX4_readSequence_15 rfl (lv_at hl 0 rfl) ?_
      obtain ⟨fa_6, pl_6, fg_6⟩ := op_13 hI (gm_13 hG) (gs_13 hG)
      refine t_get (D := D) (L := L) (f := f) (ci := 4) (v := .ref (g 22)) (C := RX4) (T := TX4) (N := 11) hx hb hts (by decide +kernel) hown hK.1 hP (gm_13 hG) fg_6 rfl 3 (by decide) (hts (.fieldLink RX4 13 "JugglingHall$Reader" "levels" "[LJugglingHall$Row;") (by decide +kernel)) (fun _ h9 => h9) rfl dX4_readSequence_16 ?_
      refine lv_iload_n hx hb dX4_readSequence_19 rfl (lv_at hl 1 rfl) ?_
      obtain ⟨c_7, fg_7, iv0_7⟩ := op_22 hI (gm_22 hG) (gs_22 hG)
      refine t_aald (L := L) (f := f) (y := c_7) (u := x.toInt) hx hb hK.1 hP (gm_22 hG) 1 fg_7 rfl dX4_readSequence_20 (rfl) (by omega) (fun w_8 q_8 => ?_)
      obtain ⟨r_8, p_8, n_8, er_8, m_8, s_8⟩ := iv0_7 x.toInt (by omega) (by omega)
      have q_8 := q_8.trans er_8
      subst q_8
      refine W.eq (g2 := F0 m 21 ls [.ref r_8]) rfl ?_
      refine lv_astore_n (lv' := [(2, .ref r_8), (0, .ref (g 13)), (1, .int x)]) hx hb dX4_readSequence_21 rfl hl (by decide) rfl (fun ls hl => ?_)
      refine lv_aload_n hx hb dX4_readSequence_22 rfl (lv_at hl 0 rfl) ?_
      refine lv_iconst (v := 0) hx hb dX4_readSequence_23 (by decide) ?_
      obtain ⟨len_9, fg_9, v1_9, v2_9, v3_9, mp_9, sp_9⟩ := op_0 hI m_8 s_8
      obtain ⟨w1_9, w2_9, w3_9, w4_9, w5_9⟩ := lenw hj v1_9 v2_9 v3_9
      have hz_11 : (0 : Int32).toInt = 0 := by decide
      refine t_putN (D := D) (L := L) (f := f) (ci := 5) (v := .int 0) (ty := .int) (C := RX5) (T := TX5) (N := 4) (host := "JugglingHall") hx hb hts (by decide +kernel) tyX5 tyX5_ok nmX5 hown hK.1 hP hD hS m_8 fg_9 rfl 3 (by decide) (hK.nw (.fieldLinkNest RX4 62 "JugglingHall$Row" "length" "I" "JugglingHall") (by decide +kernel) rfl) (fun _ h9 => h9) rfl (by decide +kernel) rfl rfl (Nat.le_of_ble_eq_true rfl) dX4_readSequence_24 (fun f_10 H locs e9_10 o_10 hP hD hS => ?_)
      have fa_10 : f_10 r_8 = .inr (5, [.int (nI jn), .int (nI (2 * jn)), .ref p_8, .int 0]) := e9_10
      have hI := IN_set (e := .inr (5, [.int (nI jn), .int (nI (2 * jn)), .ref p_8, .int 0])) hI s_8 (mk_0 (by first | assumption | omega) (by rw [show (0 : Int32).toInt = 0 from rfl, Int.zero_mul]; omega) (by first | assumption | omega) (by first | assumption | omega) (by first | assumption | omega)) fa_10 o_10
      have hF := FR_set hF s_8 (show (0 : Nat) ∈ ([0, 1, 13, 14, 34] : List Nat) by decide) o_10
      have hTK_10 : TK g cI f_10 := TK_set (f := f) (by assumption) hG s_8 (show (0 : Nat) ∉ ([14, 31, 32] : List Nat) by decide) o_10
      have fb_12 : f_10 (g 13) = .inr (4, [.int (nI jn), .ref (g 14), .ref (g 12), .ref (g 22), .ref (g 34), .ref (g 23), .ref (g 24), .ref (g 25), .ref (g 26), .int fa_6, .int pl_6]) := f_at o_10 (S_ne (gs_13 hG) s_8 (show (13 : Nat) ≠ 0 by decide)) fg_6
      have fb_13 : f_10 (g 22) = .inl (cR, 6, .inr (.inr (.inr (.inr c_7)))) := f_at o_10 (S_ne (gs_22 hG) s_8 (show (22 : Nat) ≠ 0 by decide)) fg_7
      refine lv_iconst (v := 0) hx hb dX4_readSequence_27 (by decide) ?_
      refine lv_istore_n (lv' := [(3, .int 0), (2, .ref r_8), (0, .ref (g 13)), (1, .int x)]) hx hb dX4_readSequence_28 rfl hl (by decide) rfl (fun ls hl => ?_)
      have loop29 : ∀ (ddloop29 : Nat) (ii : Int32) (f_14 : Nat → va_E) (H : Heap) (locs : List Loc) (ls : Array Slot), (400 - ii.toInt).toNat < ddloop29 → IN jn cI cR cM g L S f_14 → FR S [0, 1, 13, 14, 34] f f_14 → (0 ≤ ii.toInt ∧ ii.toInt ≤ 301) → (TK g cI f_14) → va_P D vwCl (va_pl L f_14) H → va_D A (va_pl L f_14) → va_S A s.heap H locs → lv_has ls 5 [(0, .ref (g 13)), (1, .int x), (2, .ref r_8), (3, .int ii)] → W p l e ({ frames := 13, cells := 0, slots := 0, locals := 342 }) s m args below meth c H locs 0 0 Q (F0 m 29 ls []) := by
        intro ddloop29
        induction ddloop29 with
        | zero =>
          intro ii f_14 H locs ls hdd
          exact absurd hdd (Nat.not_lt_zero _)
        | succ ddloop29 ih29 =>
          intro ii f_14 H locs ls hdd hI hF hi hTK hP hD hS hl
          refine lv_iload_n hx hb dX4_readSequence_29 rfl (lv_at hl 3 rfl) ?_
          refine lv_sipush (v := 300) hx hb dX4_readSequence_30 (by decide) ?_
          refine a_icmp_gt (u := ii.toInt) (v := 300) (tgt := 79) hx hb dX4_readSequence_33 (by decide) (rfl) (by decide) (fun c_15 => ?_) (fun c_15 => ?_)
          · refine lv_iconst (v := 1) hx hb dX4_readSequence_79 (by decide) ?_
            have hz_16 : (1 : Int32).toInt = 1 := by decide
            exact g_zret ((1 : Int32), f_14) hx hb hr hlocks hS (by first | exact Or.inl rfl | exact Or.inr rfl) rfl (⟨hI, hF, show TK g cI f_14 from (by first | assumption | omega), show (1 : Int32).toInt = 0 ∨ (1 : Int32).toInt = 1 from (by first | assumption | omega)⟩) hP hD hQ (Nat.le_of_ble_eq_true rfl) (Nat.le_of_ble_eq_true rfl) dX4_readSequence_80
          · refine lv_iload_n hx hb dX4_readSequence_36 rfl (lv_at hl 3 rfl) ?_
            refine a_if_eq (u := ii.toInt) (tgt := 47) hx hb dX4_readSequence_37 (by decide) (rfl) (fun c_17 => ?_) (fun c_17 => ?_)
            · refine lv_aload_n hx hb dX4_readSequence_47 rfl (lv_at hl 2 rfl) ?_
              obtain ⟨len_18, fg_18, v1_18, v2_18, v3_18, mp_18, sp_18⟩ := op_0 hI m_8 s_8
              obtain ⟨w1_18, w2_18, w3_18, w4_18, w5_18⟩ := lenw hj v1_18 v2_18 v3_18
              refine t_getN (D := D) (L := L) (f := f_14) (ci := 5) (v := .int len_18) (C := RX5) (T := TX5) (N := 4) (host := "JugglingHall") hx hb hts (by decide +kernel) hown hK.1 hP m_8 fg_18 rfl 3 (by decide) (hK.nw (.fieldLinkNest RX4 62 "JugglingHall$Row" "length" "I" "JugglingHall") (by decide +kernel) rfl) (fun _ h9 => h9) rfl dX4_readSequence_48 ?_
              refine lv_istore (lv' := [(4, .int len_18), (0, .ref (g 13)), (1, .int x), (2, .ref r_8), (3, .int ii)]) hx hb dX4_readSequence_51 hl (by decide) rfl (fun ls hl => ?_)
              refine lv_aload_n hx hb dX4_readSequence_53 rfl (lv_at hl 1 rfl) ?_
              refine lv_iload_n hx hb dX4_readSequence_54 rfl (lv_at hl 2 rfl) ?_
              obtain ⟨fa_19, pl_19, fg_19⟩ := op_13 hI (gm_13 hG) (gs_13 hG)
              refine call_p (va_runV (As := [.int x]) (rest := []) ⟨hx, hb, hml, hown, hts⟩ (t_X4_readOne_5 l D cI cR cM _  hj hG hI  (by first | assumption | omega) (by first | assumption | omega) (by first | assumption | omega)) (cwV 1 hts gX4_readSequence_X4_readOne rfl rfl rfl (by decide +kernel) ⟨Nat.le_of_ble_eq_true rfl, Nat.le_of_ble_eq_true rfl⟩) (pre_T hK hP hD (gm_13 hG) fg_19 rfl) rfl rfl hl.1 rfl (lv_room (Nat.le_of_ble_eq_true rfl)) dX4_readSequence_55 ⟨Nat.le_of_ble_eq_true rfl, Nat.le_of_ble_eq_true rfl⟩) hD hS hA (fun u_20 H locs hw hP hD hS => ?_)
              obtain ⟨r_20, f_20⟩ := u_20
              obtain ⟨hI, hF_20, hTK_20, h01_20⟩ : IN jn cI cR cM g L S f_20 ∧ FR S [0, 1, 13, 14, 34] f_14 f_20 ∧ (TK g cI f_20) ∧ (r_20.toInt = 0 ∨ r_20.toInt = 1) := hw
              have hP : va_P D vwCl (va_pl L f_20) H := hP
              have hD : va_D A (va_pl L f_20) := hD
              have hF := FR_tr hF hF_20 (by decide)
              refine a_if_eq (u := r_20.toInt) (tgt := 71) hx hb dX4_readSequence_58 (by decide) (rfl) (fun c_21 => ?_) (fun c_21 => ?_)
              · refine lv_iconst (v := 0) hx hb dX4_readSequence_71 (by decide) ?_
                have hz_22 : (0 : Int32).toInt = 0 := by decide
                exact g_zret ((0 : Int32), f_20) hx hb hr hlocks hS (by first | exact Or.inl rfl | exact Or.inr rfl) rfl (⟨hI, hF, show TK g cI f_20 from (by first | assumption | omega), show (0 : Int32).toInt = 0 ∨ (0 : Int32).toInt = 1 from (by first | assumption | omega)⟩) hP hD hQ (Nat.le_of_ble_eq_true rfl) (Nat.le_of_ble_eq_true rfl) dX4_readSequence_72
              · refine lv_aload_n hx hb dX4_readSequence_61 rfl (lv_at hl 1 rfl) ?_
                refine lv_aload_n hx hb dX4_readSequence_62 rfl (lv_at hl 3 rfl) ?_
                refine lv_iload hx hb dX4_readSequence_63 (lv_at hl 0 rfl) ?_
                obtain ⟨fa_23, pl_23, fg_23⟩ := op_13 hI (gm_13 hG) (gs_13 hG)
                obtain ⟨len_24, fg_24, v1_24, v2_24, v3_24, mp_24, sp_24⟩ := op_0 hI m_8 s_8
                obtain ⟨w1_24, w2_24, w3_24, w4_24, w5_24⟩ := lenw hj v1_24 v2_24 v3_24
                obtain ⟨c_25, fg_25, iv0_25⟩ := op_1 hI mp_9 sp_9
                refine call_p (va_runV (As := [.ref r_8, .int len_18]) (rest := []) ⟨hx, hb, hml, hown, hts⟩ (t_X4_readTimes l D cI cR cM _  hj hG hI m_8 s_8 fg_24 fg_25 (by first | assumption | omega) (by first | assumption | omega)) (cwV 2 hts gX4_readSequence_X4_readTimes rfl rfl rfl (by decide +kernel) ⟨Nat.le_of_ble_eq_true rfl, Nat.le_of_ble_eq_true rfl⟩) (pre_T hK hP hD (gm_13 hG) fg_23 rfl) rfl rfl hl.1 rfl (lv_room (Nat.le_of_ble_eq_true rfl)) dX4_readSequence_65 ⟨Nat.le_of_ble_eq_true rfl, Nat.le_of_ble_eq_true rfl⟩) hD hS hA (fun u_26 H locs hw hP hD hS => ?_)
                obtain ⟨r_26, f_26⟩ := u_26
                obtain ⟨hI, hF_26, hTK_26, h01_26⟩ : IN jn cI cR cM g L S f_26 ∧ FR S [0, 1, 13, 14] f_20 f_26 ∧ (TK g cI f_26) ∧ (r_26.toInt = 0 ∨ r_26.toInt = 1) := hw
                have hP : va_P D vwCl (va_pl L f_26) H := hP
                have hD : va_D A (va_pl L f_26) := hD
                have hF := FR_tr hF hF_26 (by decide)
                refine a_if_ne (u := r_26.toInt) (tgt := 73) hx hb dX4_readSequence_68 (by decide) (rfl) (fun c_27 => ?_) (fun c_27 => ?_)
                · obtain ⟨z_28, q_28, e_28⟩ := i_inc (a := ii.toInt) (1) (rfl) (by decide) (by omega) (by omega)
                  refine lv_iinc (v := z_28) (lv' := [(3, .int z_28), (4, .int len_18), (0, .ref (g 13)), (1, .int x), (2, .ref r_8)]) hx hb dX4_readSequence_73 hl (k := 4) rfl q_28 (by decide) rfl (fun ls hl => ?_)
                  refine lv_goto (tgt := 29) hx hb dX4_readSequence_76 (by decide) ?_
                  exact ih29 z_28 f_26 _ _ _ (by omega) hI hF (by first | assumption | omega) (by first | assumption | omega) hP hD hS (lv_sub hl [2, 3, 4, 0] rfl)
                · refine lv_iconst (v := 0) hx hb dX4_readSequence_71 (by decide) ?_
                  have hz_29 : (0 : Int32).toInt = 0 := by decide
                  exact g_zret ((0 : Int32), f_26) hx hb hr hlocks hS (by first | exact Or.inl rfl | exact Or.inr rfl) rfl (⟨hI, hF, show TK g cI f_26 from (by first | assumption | omega), show (0 : Int32).toInt = 0 ∨ (0 : Int32).toInt = 1 from (by first | assumption | omega)⟩) hP hD hQ (Nat.le_of_ble_eq_true rfl) (Nat.le_of_ble_eq_true rfl) dX4_readSequence_72
            · refine lv_aload_n hx hb dX4_readSequence_40 rfl (lv_at hl 0 rfl) ?_
              obtain ⟨fa_30, pl_30, fg_30⟩ := op_13 hI (gm_13 hG) (gs_13 hG)
              refine roP (va_runV (As := []) (rest := []) ⟨hx, hb, hml, hown, hts⟩ (t_X4_beginsOne l D cI cR cM _  hj hG hI  ) (cwV 0 hts gX4_readSequence_X4_beginsOne rfl rfl rfl (by decide +kernel) ⟨Nat.le_of_ble_eq_true rfl, Nat.le_of_ble_eq_true rfl⟩) (pre_T hK hP hD (gm_13 hG) fg_30 rfl) rfl rfl hl.1 rfl (lv_room (Nat.le_of_ble_eq_true rfl)) dX4_readSequence_41 ⟨Nat.le_of_ble_eq_true rfl, Nat.le_of_ble_eq_true rfl⟩) hS hA hP (fun r_31 H locs hw hP hS => ?_)
              have h01_31 : (r_31.toInt = 0 ∨ r_31.toInt = 1) := hw
              refine a_if_eq (u := r_31.toInt) (tgt := 79) hx hb dX4_readSequence_44 (by decide) (rfl) (fun c_32 => ?_) (fun c_32 => ?_)
              · refine lv_iconst (v := 1) hx hb dX4_readSequence_79 (by decide) ?_
                have hz_33 : (1 : Int32).toInt = 1 := by decide
                exact g_zret ((1 : Int32), f_14) hx hb hr hlocks hS (by first | exact Or.inl rfl | exact Or.inr rfl) rfl (⟨hI, hF, show TK g cI f_14 from (by first | assumption | omega), show (1 : Int32).toInt = 0 ∨ (1 : Int32).toInt = 1 from (by first | assumption | omega)⟩) hP hD hQ (Nat.le_of_ble_eq_true rfl) (Nat.le_of_ble_eq_true rfl) dX4_readSequence_80
              · refine lv_aload_n hx hb dX4_readSequence_47 rfl (lv_at hl 2 rfl) ?_
                obtain ⟨len_34, fg_34, v1_34, v2_34, v3_34, mp_34, sp_34⟩ := op_0 hI m_8 s_8
                obtain ⟨w1_34, w2_34, w3_34, w4_34, w5_34⟩ := lenw hj v1_34 v2_34 v3_34
                refine t_getN (D := D) (L := L) (f := f_14) (ci := 5) (v := .int len_34) (C := RX5) (T := TX5) (N := 4) (host := "JugglingHall") hx hb hts (by decide +kernel) hown hK.1 hP m_8 fg_34 rfl 3 (by decide) (hK.nw (.fieldLinkNest RX4 62 "JugglingHall$Row" "length" "I" "JugglingHall") (by decide +kernel) rfl) (fun _ h9 => h9) rfl dX4_readSequence_48 ?_
                refine lv_istore (lv' := [(4, .int len_34), (0, .ref (g 13)), (1, .int x), (2, .ref r_8), (3, .int ii)]) hx hb dX4_readSequence_51 hl (by decide) rfl (fun ls hl => ?_)
                refine lv_aload_n hx hb dX4_readSequence_53 rfl (lv_at hl 1 rfl) ?_
                refine lv_iload_n hx hb dX4_readSequence_54 rfl (lv_at hl 2 rfl) ?_
                refine call_p (va_runV (As := [.int x]) (rest := []) ⟨hx, hb, hml, hown, hts⟩ (t_X4_readOne_5 l D cI cR cM _  hj hG hI  (by first | assumption | omega) (by first | assumption | omega) (by first | assumption | omega)) (cwV 1 hts gX4_readSequence_X4_readOne rfl rfl rfl (by decide +kernel) ⟨Nat.le_of_ble_eq_true rfl, Nat.le_of_ble_eq_true rfl⟩) (pre_T hK hP hD (gm_13 hG) fg_30 rfl) rfl rfl hl.1 rfl (lv_room (Nat.le_of_ble_eq_true rfl)) dX4_readSequence_55 ⟨Nat.le_of_ble_eq_true rfl, Nat.le_of_ble_eq_true rfl⟩) hD hS hA (fun u_35 H locs hw hP hD hS => ?_)
                obtain ⟨r_35, f_35⟩ := u_35
                obtain ⟨hI, hF_35, hTK_35, h01_35⟩ : IN jn cI cR cM g L S f_35 ∧ FR S [0, 1, 13, 14, 34] f_14 f_35 ∧ (TK g cI f_35) ∧ (r_35.toInt = 0 ∨ r_35.toInt = 1) := hw
                have hP : va_P D vwCl (va_pl L f_35) H := hP
                have hD : va_D A (va_pl L f_35) := hD
                have hF := FR_tr hF hF_35 (by decide)
                refine a_if_eq (u := r_35.toInt) (tgt := 71) hx hb dX4_readSequence_58 (by decide) (rfl) (fun c_36 => ?_) (fun c_36 => ?_)
                · refine lv_iconst (v := 0) hx hb dX4_readSequence_71 (by decide) ?_
                  have hz_37 : (0 : Int32).toInt = 0 := by decide
                  exact g_zret ((0 : Int32), f_35) hx hb hr hlocks hS (by first | exact Or.inl rfl | exact Or.inr rfl) rfl (⟨hI, hF, show TK g cI f_35 from (by first | assumption | omega), show (0 : Int32).toInt = 0 ∨ (0 : Int32).toInt = 1 from (by first | assumption | omega)⟩) hP hD hQ (Nat.le_of_ble_eq_true rfl) (Nat.le_of_ble_eq_true rfl) dX4_readSequence_72
                · refine lv_aload_n hx hb dX4_readSequence_61 rfl (lv_at hl 1 rfl) ?_
                  refine lv_aload_n hx hb dX4_readSequence_62 rfl (lv_at hl 3 rfl) ?_
                  refine lv_iload hx hb dX4_readSequence_63 (lv_at hl 0 rfl) ?_
                  obtain ⟨fa_38, pl_38, fg_38⟩ := op_13 hI (gm_13 hG) (gs_13 hG)
                  obtain ⟨len_39, fg_39, v1_39, v2_39, v3_39, mp_39, sp_39⟩ := op_0 hI m_8 s_8
                  obtain ⟨w1_39, w2_39, w3_39, w4_39, w5_39⟩ := lenw hj v1_39 v2_39 v3_39
                  obtain ⟨c_40, fg_40, iv0_40⟩ := op_1 hI mp_9 sp_9
                  refine call_p (va_runV (As := [.ref r_8, .int len_34]) (rest := []) ⟨hx, hb, hml, hown, hts⟩ (t_X4_readTimes l D cI cR cM _  hj hG hI m_8 s_8 fg_39 fg_40 (by first | assumption | omega) (by first | assumption | omega)) (cwV 2 hts gX4_readSequence_X4_readTimes rfl rfl rfl (by decide +kernel) ⟨Nat.le_of_ble_eq_true rfl, Nat.le_of_ble_eq_true rfl⟩) (pre_T hK hP hD (gm_13 hG) fg_38 rfl) rfl rfl hl.1 rfl (lv_room (Nat.le_of_ble_eq_true rfl)) dX4_readSequence_65 ⟨Nat.le_of_ble_eq_true rfl, Nat.le_of_ble_eq_true rfl⟩) hD hS hA (fun u_41 H locs hw hP hD hS => ?_)
                  obtain ⟨r_41, f_41⟩ := u_41
                  obtain ⟨hI, hF_41, hTK_41, h01_41⟩ : IN jn cI cR cM g L S f_41 ∧ FR S [0, 1, 13, 14] f_35 f_41 ∧ (TK g cI f_41) ∧ (r_41.toInt = 0 ∨ r_41.toInt = 1) := hw
                  have hP : va_P D vwCl (va_pl L f_41) H := hP
                  have hD : va_D A (va_pl L f_41) := hD
                  have hF := FR_tr hF hF_41 (by decide)
                  refine a_if_ne (u := r_41.toInt) (tgt := 73) hx hb dX4_readSequence_68 (by decide) (rfl) (fun c_42 => ?_) (fun c_42 => ?_)
                  · obtain ⟨z_43, q_43, e_43⟩ := i_inc (a := ii.toInt) (1) (rfl) (by decide) (by omega) (by omega)
                    refine lv_iinc (v := z_43) (lv' := [(3, .int z_43), (4, .int len_34), (0, .ref (g 13)), (1, .int x), (2, .ref r_8)]) hx hb dX4_readSequence_73 hl (k := 4) rfl q_43 (by decide) rfl (fun ls hl => ?_)
                    refine lv_goto (tgt := 29) hx hb dX4_readSequence_76 (by decide) ?_
                    exact ih29 z_43 f_41 _ _ _ (by omega) hI hF (by first | assumption | omega) (by first | assumption | omega) hP hD hS (lv_sub hl [2, 3, 4, 0] rfl)
                  · refine lv_iconst (v := 0) hx hb dX4_readSequence_71 (by decide) ?_
                    have hz_44 : (0 : Int32).toInt = 0 := by decide
                    exact g_zret ((0 : Int32), f_41) hx hb hr hlocks hS (by first | exact Or.inl rfl | exact Or.inr rfl) rfl (⟨hI, hF, show TK g cI f_41 from (by first | assumption | omega), show (0 : Int32).toInt = 0 ∨ (0 : Int32).toInt = 1 from (by first | assumption | omega)⟩) hP hD hQ (Nat.le_of_ble_eq_true rfl) (Nat.le_of_ble_eq_true rfl) dX4_readSequence_72
      have hz_45 : (0 : Int32).toInt = 0 := by decide
      exact loop29 ((400 - (0 : Int32).toInt).toNat + 1) (0 : Int32) f_10 _ _ _ (by omega) hI hF (by first | assumption | omega) (by first | assumption | omega) hP hD hS (lv_sub hl [2, 3, 1, 0] rfl)
    · refine lv_aload_n hx hb dX4_readSequence_9 rfl (lv_at hl 0 rfl) ?_
      refine lv_iconst (v := 3) hx hb dX4_readSequence_10 (by decide) ?_
      have hz_46 : (3 : Int32).toInt = 3 := by decide
      obtain ⟨fa_47, pl_47, fg_47⟩ := op_13 hI (gm_13 hG) (gs_13 hG)
      refine call_p (va_runV (As := [.int 3]) (rest := []) ⟨hx, hb, hml, hown, hts⟩ (t_X4_fail l D cI cR cM _  hj hG hI  ) (cwV 1 hts gX4_readSequence_X4_fail rfl rfl rfl (by decide +kernel) ⟨Nat.le_of_ble_eq_true rfl, Nat.le_of_ble_eq_true rfl⟩) (pre_T hK hP hD (gm_13 hG) fg_47 rfl) rfl rfl hl.1 rfl (lv_room (Nat.le_of_ble_eq_true rfl)) dX4_readSequence_11 ⟨Nat.le_of_ble_eq_true rfl, Nat.le_of_ble_eq_true rfl⟩) hD hS hA (fun u_48 H locs hw hP hD hS => ?_)
      obtain ⟨r_48, f_48⟩ := u_48
      obtain ⟨hI, hF_48, h0_48, h01_48⟩ : IN jn cI cR cM g L S f_48 ∧ FR S [13] f f_48 ∧ (r_48.toInt = 0) ∧ (r_48.toInt = 0 ∨ r_48.toInt = 1) := hw
      have hP : va_P D vwCl (va_pl L f_48) H := hP
      have hD : va_D A (va_pl L f_48) := hD
      have hF := FR_tr hF hF_48 (by decide)
      have hTK_48 : TK g cI f_48 := TK_fr (f := f) (by assumption) hG hF_48 (by decide)
      exact g_zret (r_48, f_48) hx hb hr hlocks hS (b01 (by omega)) rfl (⟨hI, hF, show TK g cI f_48 from (by first | assumption | omega), show r_48.toInt = 0 ∨ r_48.toInt = 1 from (by first | assumption | omega)⟩) hP hD hQ (Nat.le_of_ble_eq_true rfl) (Nat.le_of_ble_eq_true rfl) dX4_readSequence_14
set_option maxRecDepth 100000 in
set_option maxHeartbeats 4000000 in
theorem t_X4_readOne_6 (l : Launch) (D : va_G) (cI cR cM : ClassId) (sz : Nat) {jn : Nat} {g : Nat → Nat} {L : List Nat} {S : Sg} {f : Nat → va_E} {x : Int32}  (hj : 1 ≤ jn ∧ jn ≤ 3) (hG : SG g L S) (hI : IN jn cI cR cM g L S f) (hx0 : 0 ≤ x.toInt ∧ x.toInt ≤ 5) (hd : 0 ≤ x.toInt) (hTK : TK g cI f) : Met l yX4_readOne wsX4_readOne ({ frames := 14, cells := 0, slots := 0, locals := 366 }) (P0 D cI cR cM [.ref (g 13), .int x] sz (va_pl L f)) (QG (S := Int32 × (Nat → va_E)) (fun u => some (.int u.1)) (fun u => va_pl L u.2) (fun u => IN jn cI cR cM g L S u.2 ∧ FR S [0, 1, 13, 14, 34] f u.2 ∧ (TK g cI u.2) ∧ (u.1.toInt = 0 ∨ u.1.toInt = 1)) D (va_A (va_pl L f) sz)) 0 0 (va_A (va_pl L f) sz) := by
  refine go (cc := cX4_readOne) (maxL := 3) (ret := (some .boolean)) (by decide +kernel) rfl (Nat.le_of_ble_eq_true rfl) ?_
  intro p e s m below meth c ls args Q hQ hsz hx hb hr hml hts hown hlocks hnm hP hK hD hl
  subst hsz
  have hD := hD.self (sz := s.heap.size)
  generalize hAe : va_A (va_pl L f) s.heap.size = A at hD hQ
  have hA : ∀ q, s.heap.size ≤ q → A q := fun q h => by rw [← hAe]; exact Or.inr h
  have hS : va_S A s.heap s.heap [] := va_S.rf
  have hF : FR S [0, 1, 13, 14, 34] f f := FR_rf
  have hl : lv_has ls 3 [(0, .ref (g 13)), (1, .int x)] := hl
  refine lv_aload_n hx hb dX4_readOne_0 rfl (lv_at hl 0 rfl) ?_
  obtain ⟨fa_1, pl_1, fg_1⟩ := op_13 hI (gm_13 hG) (gs_13 hG)
  refine roP (va_runV (As := []) (rest := []) ⟨hx, hb, hml, hown, hts⟩ (t_X4_beginsOne l D cI cR cM _  hj hG hI  ) (cwV 0 hts gX4_readOne_X4_beginsOne rfl rfl rfl (by decide +kernel) ⟨Nat.le_of_ble_eq_true rfl, Nat.le_of_ble_eq_true rfl⟩) (pre_T hK hP hD (gm_13 hG) fg_1 rfl) rfl rfl hl.1 rfl (lv_room (Nat.le_of_ble_eq_true rfl)) dX4_readOne_1 ⟨Nat.le_of_ble_eq_true rfl, Nat.le_of_ble_eq_true rfl⟩) hS hA hP (fun r_2 H locs hw hP hS => ?_)
  have h01_2 : (r_2.toInt = 0 ∨ r_2.toInt = 1) := hw
  refine a_if_ne (u := r_2.toInt) (tgt := 13) hx hb dX4_readOne_4 (by decide) (rfl) (fun c_3 => ?_) (fun c_3 => ?_)
  · refine lv_aload_n hx hb dX4_readOne_13 rfl (lv_at hl 0 rfl) ?_
    refine t_get (D := D) (L := L) (f := f) (ci := 4) (v := .ref (g 14)) (C := RX4) (T := TX4) (N := 11) hx hb hts (by decide +kernel) hown hK.1 hP (gm_13 hG) fg_1 rfl 1 (by decide) (hts (.fieldLink RX4 41 "JugglingHall$Reader" "tokens" "LJugglingHall$Tokens;") (by decide +kernel)) (fun _ h9 => h9) rfl dX4_readOne_14 ?_
    obtain ⟨cnt_4, nx_4, kd_4, vl_4, st_4, ls_4, fg_4, iv0_4, iv1_4, iv2_4⟩ := op_14 hI (gm_14 hG) (gs_14 hG)
    refine t_getN (D := D) (L := L) (f := f) (ci := 8) (v := .int kd_4) (C := RX8) (T := TX8) (N := 10) (host := "JugglingHall") hx hb hts (by decide +kernel) hown hK.1 hP (gm_14 hG) fg_4 rfl 6 (by decide) (hK.nw (.fieldLinkNest RX4 70 "JugglingHall$Tokens" "kind" "I" "JugglingHall") (by decide +kernel) rfl) (fun _ h9 => h9) rfl dX4_readOne_17 ?_
    refine lv_istore_n (lv' := [(2, .int kd_4), (0, .ref (g 13)), (1, .int x)]) hx hb dX4_readOne_20 rfl hl (by decide) rfl (fun ls hl => ?_)
    refine lv_iload_n hx hb dX4_readOne_21 rfl (lv_at hl 0 rfl) ?_
    have hu_5 : kd_4.toInt = kd_4.toInt := rfl
    rcases (show (kd_4.toInt = 2) ∨ (kd_4.toInt = 3) ∨ (kd_4.toInt = 60) ∨ (kd_4.toInt = 91) ∨ (kd_4.toInt ≠ 2 ∧ kd_4.toInt ≠ 3 ∧ kd_4.toInt ≠ 60 ∧ kd_4.toInt ≠ 91) by omega) with c_5 | c_5 | c_5 | c_5 | c_5
    · refine lv_lookup (off := 53) (tgt := 75) hx hb dX4_readOne_22 (by decide) (by rw [hu_5, c_5]; decide) (by decide) ?_
      refine lv_aload_n hx hb dX4_readOne_75 rfl (lv_at hl 1 rfl) ?_
      refine lv_aload_n hx hb dX4_readOne_76 rfl (lv_at hl 1 rfl) ?_
      refine t_get (D := D) (L := L) (f := f) (ci := 4) (v := .ref (g 22)) (C := RX4) (T := TX4) (N := 11) hx hb hts (by decide +kernel) hown hK.1 hP (gm_13 hG) fg_1 rfl 3 (by decide) (hts (.fieldLink RX4 13 "JugglingHall$Reader" "levels" "[LJugglingHall$Row;") (by decide +kernel)) (fun _ h9 => h9) rfl dX4_readOne_77 ?_
      refine lv_iload_n hx hb dX4_readOne_80 rfl (lv_at hl 2 rfl) ?_
      obtain ⟨c_6, fg_6, iv0_6⟩ := op_22 hI (gm_22 hG) (gs_22 hG)
      refine t_aald (L := L) (f := f) (y := c_6) (u := x.toInt) hx hb hK.1 hP (gm_22 hG) 1 fg_6 rfl dX4_readOne_81 (rfl) (by omega) (fun w_7 q_7 => ?_)
      obtain ⟨r_7, p_7, n_7, er_7, m_7, s_7⟩ := iv0_6 x.toInt (by omega) (by omega)
      have q_7 := q_7.trans er_7
      subst q_7
      refine W.eq (g2 := F0 m 82 ls [.ref r_7, .ref (g 13)]) rfl ?_
      obtain ⟨len_8, fg_8, v1_8, v2_8, v3_8, mp_8, sp_8⟩ := op_0 hI m_7 s_7
      obtain ⟨w1_8, w2_8, w3_8, w4_8, w5_8⟩ := lenw hj v1_8 v2_8 v3_8
      obtain ⟨c_9, fg_9, iv0_9⟩ := op_1 hI mp_8 sp_8
      refine call_p (va_runV (As := [.ref r_7]) (rest := []) ⟨hx, hb, hml, hown, hts⟩ (t_X4_readBeat l D cI cR cM _  hj hG hI m_7 s_7 fg_8 fg_9 (by first | assumption | omega)) (cwV 1 hts gX4_readOne_X4_readBeat rfl rfl rfl (by decide +kernel) ⟨Nat.le_of_ble_eq_true rfl, Nat.le_of_ble_eq_true rfl⟩) (pre_T hK hP hD (gm_13 hG) fg_1 rfl) rfl rfl hl.1 rfl (lv_room (Nat.le_of_ble_eq_true rfl)) dX4_readOne_82 ⟨Nat.le_of_ble_eq_true rfl, Nat.le_of_ble_eq_true rfl⟩) hD hS hA (fun u_10 H locs hw hP hD hS => ?_)
      obtain ⟨r_10, f_10⟩ := u_10
      obtain ⟨hI, hF_10, hTK_10, h01_10⟩ : IN jn cI cR cM g L S f_10 ∧ FR S [0, 1, 13, 14] f f_10 ∧ (TK g cI f_10) ∧ (r_10.toInt = 0 ∨ r_10.toInt = 1) := hw
      have hP : va_P D vwCl (va_pl L f_10) H := hP
      have hD : va_D A (va_pl L f_10) := hD
      have hF := FR_tr hF hF_10 (by decide)
      have fb_11 : f_10 (g 22) = .inl (cR, 6, .inr (.inr (.inr (.inr c_6)))) := FR_at hF_10 (gs_22 hG) (show (22 : Nat) ∉ ([0, 1, 13, 14] : List Nat) by decide) fg_6
      exact g_zret (r_10, f_10) hx hb hr hlocks hS (b01 (by omega)) rfl (⟨hI, hF, show TK g cI f_10 from (by first | assumption | omega), show r_10.toInt = 0 ∨ r_10.toInt = 1 from (by first | assumption | omega)⟩) hP hD hQ (Nat.le_of_ble_eq_true rfl) (Nat.le_of_ble_eq_true rfl) dX4_readOne_85
    · refine lv_lookup (off := 42) (tgt := 64) hx hb dX4_readOne_22 (by decide) (by rw [hu_5, c_5]; decide) (by decide) ?_
      refine lv_aload_n hx hb dX4_readOne_64 rfl (lv_at hl 1 rfl) ?_
      refine lv_aload_n hx hb dX4_readOne_65 rfl (lv_at hl 1 rfl) ?_
      refine t_get (D := D) (L := L) (f := f) (ci := 4) (v := .ref (g 22)) (C := RX4) (T := TX4) (N := 11) hx hb hts (by decide +kernel) hown hK.1 hP (gm_13 hG) fg_1 rfl 3 (by decide) (hts (.fieldLink RX4 13 "JugglingHall$Reader" "levels" "[LJugglingHall$Row;") (by decide +kernel)) (fun _ h9 => h9) rfl dX4_readOne_66 ?_
      refine lv_iload_n hx hb dX4_readOne_69 rfl (lv_at hl 2 rfl) ?_
      obtain ⟨c_12, fg_12, iv0_12⟩ := op_22 hI (gm_22 hG) (gs_22 hG)
      refine t_aald (L := L) (f := f) (y := c_12) (u := x.toInt) hx hb hK.1 hP (gm_22 hG) 1 fg_12 rfl dX4_readOne_70 (rfl) (by omega) (fun w_13 q_13 => ?_)
      obtain ⟨r_13, p_13, n_13, er_13, m_13, s_13⟩ := iv0_12 x.toInt (by omega) (by omega)
      have q_13 := q_13.trans er_13
      subst q_13
      refine W.eq (g2 := F0 m 71 ls [.ref r_13, .ref (g 13)]) rfl ?_
      obtain ⟨len_14, fg_14, v1_14, v2_14, v3_14, mp_14, sp_14⟩ := op_0 hI m_13 s_13
      obtain ⟨w1_14, w2_14, w3_14, w4_14, w5_14⟩ := lenw hj v1_14 v2_14 v3_14
      obtain ⟨c_15, fg_15, iv0_15⟩ := op_1 hI mp_14 sp_14
      refine call_p (va_runV (As := [.ref r_13]) (rest := []) ⟨hx, hb, hml, hown, hts⟩ (t_X4_readLetter l D cI cR cM _  hj hG hI m_13 s_13 fg_14 fg_15 (by first | assumption | omega)) (cwV 1 hts gX4_readOne_X4_readLetter rfl rfl rfl (by decide +kernel) ⟨Nat.le_of_ble_eq_true rfl, Nat.le_of_ble_eq_true rfl⟩) (pre_T hK hP hD (gm_13 hG) fg_1 rfl) rfl rfl hl.1 rfl (lv_room (Nat.le_of_ble_eq_true rfl)) dX4_readOne_71 ⟨Nat.le_of_ble_eq_true rfl, Nat.le_of_ble_eq_true rfl⟩) hD hS hA (fun u_16 H locs hw hP hD hS => ?_)
      obtain ⟨r_16, f_16⟩ := u_16
      obtain ⟨hI, hF_16, hTK_16, h01_16⟩ : IN jn cI cR cM g L S f_16 ∧ FR S [0, 1, 13, 14] f f_16 ∧ (TK g cI f_16) ∧ (r_16.toInt = 0 ∨ r_16.toInt = 1) := hw
      have hP : va_P D vwCl (va_pl L f_16) H := hP
      have hD : va_D A (va_pl L f_16) := hD
      have hF := FR_tr hF hF_16 (by decide)
      have fb_17 : f_16 (g 22) = .inl (cR, 6, .inr (.inr (.inr (.inr c_12)))) := FR_at hF_16 (gs_22 hG) (show (22 : Nat) ∉ ([0, 1, 13, 14] : List Nat) by decide) fg_12
      exact g_zret (r_16, f_16) hx hb hr hlocks hS (b01 (by omega)) rfl (⟨hI, hF, show TK g cI f_16 from (by first | assumption | omega), show r_16.toInt = 0 ∨ r_16.toInt = 1 from (by first | assumption | omega)⟩) hP hD hQ (Nat.le_of_ble_eq_true rfl) (Nat.le_of_ble_eq_true rfl) dX4_readOne_74
    · refine lv_lookup (off := 53) (tgt := 75) hx hb dX4_readOne_22 (by decide) (by rw [hu_5, c_5]; decide) (by decide) ?_
      refine lv_aload_n hx hb dX4_readOne_75 rfl (lv_at hl 1 rfl) ?_
      refine lv_aload_n hx hb dX4_readOne_76 rfl (lv_at hl 1 rfl) ?_
      refine t_get (D := D) (L := L) (f := f) (ci := 4) (v := .ref (g 22)) (C := RX4) (T := TX4) (N := 11) hx hb hts (by decide +kernel) hown hK.1 hP (gm_13 hG) fg_1 rfl 3 (by decide) (hts (.fieldLink RX4 13 "JugglingHall$Reader" "levels" "[LJugglingHall$Row;") (by decide +kernel)) (fun _ h9 => h9) rfl dX4_readOne_77 ?_
      refine lv_iload_n hx hb dX4_readOne_80 rfl (lv_at hl 2 rfl) ?_
      obtain ⟨c_18, fg_18, iv0_18⟩ := op_22 hI (gm_22 hG) (gs_22 hG)
      refine t_aald (L := L) (f := f) (y := c_18) (u := x.toInt) hx hb hK.1 hP (gm_22 hG) 1 fg_18 rfl dX4_readOne_81 (rfl) (by omega) (fun w_19 q_19 => ?_)
      obtain ⟨r_19, p_19, n_19, er_19, m_19, s_19⟩ := iv0_18 x.toInt (by omega) (by omega)
      have q_19 := q_19.trans er_19
      subst q_19
      refine W.eq (g2 := F0 m 82 ls [.ref r_19, .ref (g 13)]) rfl ?_
      obtain ⟨len_20, fg_20, v1_20, v2_20, v3_20, mp_20, sp_20⟩ := op_0 hI m_19 s_19
      obtain ⟨w1_20, w2_20, w3_20, w4_20, w5_20⟩ := lenw hj v1_20 v2_20 v3_20
      obtain ⟨c_21, fg_21, iv0_21⟩ := op_1 hI mp_20 sp_20
      refine call_p (va_runV (As := [.ref r_19]) (rest := []) ⟨hx, hb, hml, hown, hts⟩ (t_X4_readBeat l D cI cR cM _  hj hG hI m_19 s_19 fg_20 fg_21 (by first | assumption | omega)) (cwV 1 hts gX4_readOne_X4_readBeat rfl rfl rfl (by decide +kernel) ⟨Nat.le_of_ble_eq_true rfl, Nat.le_of_ble_eq_true rfl⟩) (pre_T hK hP hD (gm_13 hG) fg_1 rfl) rfl rfl hl.1 rfl (lv_room (Nat.le_of_ble_eq_true rfl)) dX4_readOne_82 ⟨Nat.le_of_ble_eq_true rfl, Nat.le_of_ble_eq_true rfl⟩) hD hS hA (fun u_22 H locs hw hP hD hS => ?_)
      obtain ⟨r_22, f_22⟩ := u_22
      obtain ⟨hI, hF_22, hTK_22, h01_22⟩ : IN jn cI cR cM g L S f_22 ∧ FR S [0, 1, 13, 14] f f_22 ∧ (TK g cI f_22) ∧ (r_22.toInt = 0 ∨ r_22.toInt = 1) := hw
      have hP : va_P D vwCl (va_pl L f_22) H := hP
      have hD : va_D A (va_pl L f_22) := hD
      have hF := FR_tr hF hF_22 (by decide)
      have fb_23 : f_22 (g 22) = .inl (cR, 6, .inr (.inr (.inr (.inr c_18)))) := FR_at hF_22 (gs_22 hG) (show (22 : Nat) ∉ ([0, 1, 13, 14] : List Nat) by decide) fg_18
      exact g_zret (r_22, f_22) hx hb hr hlocks hS (b01 (by omega)) rfl (⟨hI, hF, show TK g cI f_22 from (by first | assumption | omega), show r_22.toInt = 0 ∨ r_22.toInt = 1 from (by first | assumption | omega)⟩) hP hD hQ (Nat.le_of_ble_eq_true rfl) (Nat.le_of_ble_eq_true rfl) dX4_readOne_85
    · refine lv_lookup (off := 53) (tgt := 75) hx hb dX4_readOne_22 (by decide) (by rw [hu_5, c_5]; decide) (by decide) ?_
      refine lv_aload_n hx hb dX4_readOne_75 rfl (lv_at hl 1 rfl) ?_
      refine lv_aload_n hx hb dX4_readOne_76 rfl (lv_at hl 1 rfl) ?_
      refine t_get (D := D) (L := L) (f := f) (ci := 4) (v := .ref (g 22)) (C := RX4) (T := TX4) (N := 11) hx hb hts (by decide +kernel) hown hK.1 hP (gm_13 hG) fg_1 rfl 3 (by decide) (hts (.fieldLink RX4 13 "JugglingHall$Reader" "levels" "[LJugglingHall$Row;") (by decide +kernel)) (fun _ h9 => h9) rfl dX4_readOne_77 ?_
      refine lv_iload_n hx hb dX4_readOne_80 rfl (lv_at hl 2 rfl) ?_
      obtain ⟨c_24, fg_24, iv0_24⟩ := op_22 hI (gm_22 hG) (gs_22 hG)
      refine t_aald (L := L) (f := f) (y := c_24) (u := x.toInt) hx hb hK.1 hP (gm_22 hG) 1 fg_24 rfl dX4_readOne_81 (rfl) (by omega) (fun w_25 q_25 => ?_)
      obtain ⟨r_25, p_25, n_25, er_25, m_25, s_25⟩ := iv0_24 x.toInt (by omega) (by omega)
      have q_25 := q_25.trans er_25
      subst q_25
      refine W.eq (g2 := F0 m 82 ls [.ref r_25, .ref (g 13)]) rfl ?_
      obtain ⟨len_26, fg_26, v1_26, v2_26, v3_26, mp_26, sp_26⟩ := op_0 hI m_25 s_25
      obtain ⟨w1_26, w2_26, w3_26, w4_26, w5_26⟩ := lenw hj v1_26 v2_26 v3_26
      obtain ⟨c_27, fg_27, iv0_27⟩ := op_1 hI mp_26 sp_26
      refine call_p (va_runV (As := [.ref r_25]) (rest := []) ⟨hx, hb, hml, hown, hts⟩ (t_X4_readBeat l D cI cR cM _  hj hG hI m_25 s_25 fg_26 fg_27 (by first | assumption | omega)) (cwV 1 hts gX4_readOne_X4_readBeat rfl rfl rfl (by decide +kernel) ⟨Nat.le_of_ble_eq_true rfl, Nat.le_of_ble_eq_true rfl⟩) (pre_T hK hP hD (gm_13 hG) fg_1 rfl) rfl rfl hl.1 rfl (lv_room (Nat.le_of_ble_eq_true rfl)) dX4_readOne_82 ⟨Nat.le_of_ble_eq_true rfl, Nat.le_of_ble_eq_true rfl⟩) hD hS hA (fun u_28 H locs hw hP hD hS => ?_)
      obtain ⟨r_28, f_28⟩ := u_28
      obtain ⟨hI, hF_28, hTK_28, h01_28⟩ : IN jn cI cR cM g L S f_28 ∧ FR S [0, 1, 13, 14] f f_28 ∧ (TK g cI f_28) ∧ (r_28.toInt = 0 ∨ r_28.toInt = 1) := hw
      have hP : va_P D vwCl (va_pl L f_28) H := hP
      have hD : va_D A (va_pl L f_28) := hD
      have hF := FR_tr hF hF_28 (by decide)
      have fb_29 : f_28 (g 22) = .inl (cR, 6, .inr (.inr (.inr (.inr c_24)))) := FR_at hF_28 (gs_22 hG) (show (22 : Nat) ∉ ([0, 1, 13, 14] : List Nat) by decide) fg_24
      exact g_zret (r_28, f_28) hx hb hr hlocks hS (b01 (by omega)) rfl (⟨hI, hF, show TK g cI f_28 from (by first | assumption | omega), show r_28.toInt = 0 ∨ r_28.toInt = 1 from (by first | assumption | omega)⟩) hP hD hQ (Nat.le_of_ble_eq_true rfl) (Nat.le_of_ble_eq_true rfl) dX4_readOne_85
    · refine lv_lookup (off := 64) (tgt := 86) hx hb dX4_readOne_22 (by decide) (by rw [hu_5]; exact (show Op.lookupswitch.offset [(2, 53), (3, 42), (60, 53), (91, 53)] (64) kd_4.toInt = (64) from lkc (by omega) (lkc (by omega) (lkc (by omega) (lkc (by omega) (lkn _ _)))))) (by decide) ?_
      refine lv_aload_n hx hb dX4_readOne_86 rfl (lv_at hl 1 rfl) ?_
      refine lv_iload_n hx hb dX4_readOne_87 rfl (lv_at hl 0 rfl) ?_
      refine lv_iload_n hx hb dX4_readOne_88 rfl (lv_at hl 2 rfl) ?_
      refine call_p (va_runV (As := [.int kd_4, .int x]) (rest := []) ⟨hx, hb, hml, hown, hts⟩ (t_X4_openGroup l D cI cR cM _  hj hG hI  (by first | assumption | omega) (by first | assumption | omega)) (cwV 2 hts gX4_readOne_X4_openGroup rfl rfl rfl (by decide +kernel) ⟨Nat.le_of_ble_eq_true rfl, Nat.le_of_ble_eq_true rfl⟩) (pre_T hK hP hD (gm_13 hG) fg_1 rfl) rfl rfl hl.1 rfl (lv_room (Nat.le_of_ble_eq_true rfl)) dX4_readOne_89 ⟨Nat.le_of_ble_eq_true rfl, Nat.le_of_ble_eq_true rfl⟩) hD hS hA (fun u_30 H locs hw hP hD hS => ?_)
      obtain ⟨r_30, f_30⟩ := u_30
      obtain ⟨hI, hF_30, hd_30, hTK_30, h01_30⟩ : IN jn cI cR cM g L S f_30 ∧ FR S [13, 14, 34] f f_30 ∧ (r_30.toInt = 1 → x.toInt ≤ 4) ∧ (TK g cI f_30) ∧ (r_30.toInt = 0 ∨ r_30.toInt = 1) := hw
      have hP : va_P D vwCl (va_pl L f_30) H := hP
      have hD : va_D A (va_pl L f_30) := hD
      have hF := FR_tr hF hF_30 (by decide)
      refine a_if_eq (u := r_30.toInt) (tgt := 127) hx hb dX4_readOne_92 (by decide) (rfl) (fun c_31 => ?_) (fun c_31 => ?_)
      · refine lv_iconst (v := 0) hx hb dX4_readOne_127 (by decide) ?_
        have hz_32 : (0 : Int32).toInt = 0 := by decide
        exact g_zret ((0 : Int32), f_30) hx hb hr hlocks hS (by first | exact Or.inl rfl | exact Or.inr rfl) rfl (⟨hI, hF, show TK g cI f_30 from (by first | assumption | omega), show (0 : Int32).toInt = 0 ∨ (0 : Int32).toInt = 1 from (by first | assumption | omega)⟩) hP hD hQ (Nat.le_of_ble_eq_true rfl) (Nat.le_of_ble_eq_true rfl) dX4_readOne_128
      · refine lv_aload_n hx hb dX4_readOne_95 rfl (lv_at hl 1 rfl) ?_
        refine lv_iload_n hx hb dX4_readOne_96 rfl (lv_at hl 2 rfl) ?_
        refine lv_iconst (v := 1) hx hb dX4_readOne_97 (by decide) ?_
        refine a_iadd (u := x.toInt) (v := 1) hx hb dX4_readOne_98 (rfl) (by decide) (by omega) (fun z_33 e_33 => ?_)
        obtain ⟨fa_34, pl_34, fg_34⟩ := op_13 hI (gm_13 hG) (gs_13 hG)
        refine call_p (va_runV (As := [.int z_33]) (rest := []) ⟨hx, hb, hml, hown, hts⟩ (t_X4_readSequence_5 l D cI cR cM _  hj hG hI  (by first | assumption | omega) (by first | assumption | omega)) (cwV 1 hts gX4_readOne_X4_readSequence rfl rfl rfl (by decide +kernel) ⟨Nat.le_of_ble_eq_true rfl, Nat.le_of_ble_eq_true rfl⟩) (pre_T hK hP hD (gm_13 hG) fg_34 rfl) rfl rfl hl.1 rfl (lv_room (Nat.le_of_ble_eq_true rfl)) dX4_readOne_99 ⟨Nat.le_of_ble_eq_true rfl, Nat.le_of_ble_eq_true rfl⟩) hD hS hA (fun u_35 H locs hw hP hD hS => ?_)
        obtain ⟨r_35, f_35⟩ := u_35
        obtain ⟨hI, hF_35, hTK_35, h01_35⟩ : IN jn cI cR cM g L S f_35 ∧ FR S [0, 1, 13, 14, 34] f_30 f_35 ∧ (TK g cI f_35) ∧ (r_35.toInt = 0 ∨ r_35.toInt = 1) := hw
        have hP : va_P D vwCl (va_pl L f_35) H := hP
        have hD : va_D A (va_pl L f_35) := hD
        have hF := FR_tr hF hF_35 (by decide)
        refine a_if_eq (u := r_35.toInt) (tgt := 127) hx hb dX4_readOne_102 (by decide) (rfl) (fun c_36 => ?_) (fun c_36 => ?_)
        · refine lv_iconst (v := 0) hx hb dX4_readOne_127 (by decide) ?_
          have hz_37 : (0 : Int32).toInt = 0 := by decide
          exact g_zret ((0 : Int32), f_35) hx hb hr hlocks hS (by first | exact Or.inl rfl | exact Or.inr rfl) rfl (⟨hI, hF, show TK g cI f_35 from (by first | assumption | omega), show (0 : Int32).toInt = 0 ∨ (0 : Int32).toInt = 1 from (by first | assumption | omega)⟩) hP hD hQ (Nat.le_of_ble_eq_true rfl) (Nat.le_of_ble_eq_true rfl) dX4_readOne_128
        · refine lv_aload_n hx hb dX4_readOne_105 rfl (lv_at hl 1 rfl) ?_
          refine lv_bipush (v := 41) hx hb dX4_readOne_106 (by decide) ?_
          have hz_38 : (41 : Int32).toInt = 41 := by decide
          obtain ⟨fa_39, pl_39, fg_39⟩ := op_13 hI (gm_13 hG) (gs_13 hG)
          refine call_p (va_runV (As := [.int 41]) (rest := []) ⟨hx, hb, hml, hown, hts⟩ (t_X4_expect l D cI cR cM _  hj hG hI  (by first | assumption | omega)) (cwV 1 hts gX4_readOne_X4_expect rfl rfl rfl (by decide +kernel) ⟨Nat.le_of_ble_eq_true rfl, Nat.le_of_ble_eq_true rfl⟩) (pre_T hK hP hD (gm_13 hG) fg_39 rfl) rfl rfl hl.1 rfl (lv_room (Nat.le_of_ble_eq_true rfl)) dX4_readOne_108 ⟨Nat.le_of_ble_eq_true rfl, Nat.le_of_ble_eq_true rfl⟩) hD hS hA (fun u_40 H locs hw hP hD hS => ?_)
          obtain ⟨r_40, f_40⟩ := u_40
          obtain ⟨hI, hF_40, he_40, hTK_40, h01_40⟩ : IN jn cI cR cM g L S f_40 ∧ FR S [13, 14] f_35 f_40 ∧ (∀ cnt9 nx9 kd9 vl9 st9 ls9, f_35 (g 14) = .inr (8, [.ref (g 11), .ref (g 31), .ref (g 32), .ref (g 33), .int cnt9, .int nx9, .int kd9, .int vl9, .int st9, .int ls9]) → r_40.toInt = 1 → kd9.toInt = (41 : Int32).toInt) ∧ (TK g cI f_40) ∧ (r_40.toInt = 0 ∨ r_40.toInt = 1) := hw
          have hP : va_P D vwCl (va_pl L f_40) H := hP
          have hD : va_D A (va_pl L f_40) := hD
          have hF := FR_tr hF hF_40 (by decide)
          refine a_if_eq (u := r_40.toInt) (tgt := 127) hx hb dX4_readOne_111 (by decide) (rfl) (fun c_41 => ?_) (fun c_41 => ?_)
          · refine lv_iconst (v := 0) hx hb dX4_readOne_127 (by decide) ?_
            have hz_42 : (0 : Int32).toInt = 0 := by decide
            exact g_zret ((0 : Int32), f_40) hx hb hr hlocks hS (by first | exact Or.inl rfl | exact Or.inr rfl) rfl (⟨hI, hF, show TK g cI f_40 from (by first | assumption | omega), show (0 : Int32).toInt = 0 ∨ (0 : Int32).toInt = 1 from (by first | assumption | omega)⟩) hP hD hQ (Nat.le_of_ble_eq_true rfl) (Nat.le_of_ble_eq_true rfl) dX4_readOne_128
          · refine lv_aload_n hx hb dX4_readOne_114 rfl (lv_at hl 1 rfl) ?_
            refine lv_iload_n hx hb dX4_readOne_115 rfl (lv_at hl 0 rfl) ?_
            refine lv_iload_n hx hb dX4_readOne_116 rfl (lv_at hl 2 rfl) ?_
            obtain ⟨fa_43, pl_43, fg_43⟩ := op_13 hI (gm_13 hG) (gs_13 hG)
            refine call_p (va_runV (As := [.int kd_4, .int x]) (rest := []) ⟨hx, hb, hml, hown, hts⟩ (t_X4_joinGroup l D cI cR cM _  hj hG hI  (by first | assumption | omega) (by first | assumption | omega)) (cwV 2 hts gX4_readOne_X4_joinGroup rfl rfl rfl (by decide +kernel) ⟨Nat.le_of_ble_eq_true rfl, Nat.le_of_ble_eq_true rfl⟩) (pre_T hK hP hD (gm_13 hG) fg_43 rfl) rfl rfl hl.1 rfl (lv_room (Nat.le_of_ble_eq_true rfl)) dX4_readOne_117 ⟨Nat.le_of_ble_eq_true rfl, Nat.le_of_ble_eq_true rfl⟩) hD hS hA (fun u_44 H locs hw hP hD hS => ?_)
            obtain ⟨r_44, f_44⟩ := u_44
            obtain ⟨hI, hF_44, hTK_44, h01_44⟩ : IN jn cI cR cM g L S f_44 ∧ FR S [0, 1, 13] f_40 f_44 ∧ (TK g cI f_44) ∧ (r_44.toInt = 0 ∨ r_44.toInt = 1) := hw
            have hP : va_P D vwCl (va_pl L f_44) H := hP
            have hD : va_D A (va_pl L f_44) := hD
            have hF := FR_tr hF hF_44 (by decide)
            refine a_if_eq (u := r_44.toInt) (tgt := 127) hx hb dX4_readOne_120 (by decide) (rfl) (fun c_45 => ?_) (fun c_45 => ?_)
            · refine lv_iconst (v := 0) hx hb dX4_readOne_127 (by decide) ?_
              have hz_46 : (0 : Int32).toInt = 0 := by decide
              exact g_zret ((0 : Int32), f_44) hx hb hr hlocks hS (by first | exact Or.inl rfl | exact Or.inr rfl) rfl (⟨hI, hF, show TK g cI f_44 from (by first | assumption | omega), show (0 : Int32).toInt = 0 ∨ (0 : Int32).toInt = 1 from (by first | assumption | omega)⟩) hP hD hQ (Nat.le_of_ble_eq_true rfl) (Nat.le_of_ble_eq_true rfl) dX4_readOne_128
            · refine lv_iconst (v := 1) hx hb dX4_readOne_123 (by decide) ?_
              refine lv_goto (tgt := 128) hx hb dX4_readOne_124 (by decide) ?_
              have hz_47 : (1 : Int32).toInt = 1 := by decide
              exact g_zret ((1 : Int32), f_44) hx hb hr hlocks hS (by first | exact Or.inl rfl | exact Or.inr rfl) rfl (⟨hI, hF, show TK g cI f_44 from (by first | assumption | omega), show (1 : Int32).toInt = 0 ∨ (1 : Int32).toInt = 1 from (by first | assumption | omega)⟩) hP hD hQ (Nat.le_of_ble_eq_true rfl) (Nat.le_of_ble_eq_true rfl) dX4_readOne_128
  · refine lv_aload_n hx hb dX4_readOne_7 rfl (lv_at hl 0 rfl) ?_
    refine lv_iconst (v := 1) hx hb dX4_readOne_8 (by decide) ?_
    have hz_48 : (1 : Int32).toInt = 1 := by decide
    refine call_p (va_runV (As := [.int 1]) (rest := []) ⟨hx, hb, hml, hown, hts⟩ (t_X4_fail l D cI cR cM _  hj hG hI  ) (cwV 1 hts gX4_readOne_X4_fail rfl rfl rfl (by decide +kernel) ⟨Nat.le_of_ble_eq_true rfl, Nat.le_of_ble_eq_true rfl⟩) (pre_T hK hP hD (gm_13 hG) fg_1 rfl) rfl rfl hl.1 rfl (lv_room (Nat.le_of_ble_eq_true rfl)) dX4_readOne_9 ⟨Nat.le_of_ble_eq_true rfl, Nat.le_of_ble_eq_true rfl⟩) hD hS hA (fun u_49 H locs hw hP hD hS => ?_)
    obtain ⟨r_49, f_49⟩ := u_49
    obtain ⟨hI, hF_49, h0_49, h01_49⟩ : IN jn cI cR cM g L S f_49 ∧ FR S [13] f f_49 ∧ (r_49.toInt = 0) ∧ (r_49.toInt = 0 ∨ r_49.toInt = 1) := hw
    have hP : va_P D vwCl (va_pl L f_49) H := hP
    have hD : va_D A (va_pl L f_49) := hD
    have hF := FR_tr hF hF_49 (by decide)
    have hTK_49 : TK g cI f_49 := TK_fr (f := f) (by assumption) hG hF_49 (by decide)
    exact g_zret (r_49, f_49) hx hb hr hlocks hS (b01 (by omega)) rfl (⟨hI, hF, show TK g cI f_49 from (by first | assumption | omega), show r_49.toInt = 0 ∨ r_49.toInt = 1 from (by first | assumption | omega)⟩) hP hD hQ (Nat.le_of_ble_eq_true rfl) (Nat.le_of_ble_eq_true rfl) dX4_readOne_12
set_option maxRecDepth 100000 in
set_option maxHeartbeats 4000000 in
theorem t_X4_readSequence_6 (l : Launch) (D : va_G) (cI cR cM : ClassId) (sz : Nat) {jn : Nat} {g : Nat → Nat} {L : List Nat} {S : Sg} {f : Nat → va_E} {x : Int32}  (hj : 1 ≤ jn ∧ jn ≤ 3) (hG : SG g L S) (hI : IN jn cI cR cM g L S f) (hd : 0 ≤ x.toInt) (hTK : TK g cI f) : Met l yX4_readSequence wsX4_readSequence ({ frames := 15, cells := 0, slots := 0, locals := 388 }) (P0 D cI cR cM [.ref (g 13), .int x] sz (va_pl L f)) (QG (S := Int32 × (Nat → va_E)) (fun u => some (.int u.1)) (fun u => va_pl L u.2) (fun u => IN jn cI cR cM g L S u.2 ∧ FR S [0, 1, 13, 14, 34] f u.2 ∧ (TK g cI u.2) ∧ (u.1.toInt = 0 ∨ u.1.toInt = 1)) D (va_A (va_pl L f) sz)) 0 0 (va_A (va_pl L f) sz) := by
  refine go (cc := cX4_readSequence) (maxL := 5) (ret := (some .boolean)) (by decide +kernel) rfl (Nat.le_of_ble_eq_true rfl) ?_
  intro p e s m below meth c ls args Q hQ hsz hx hb hr hml hts hown hlocks hnm hP hK hD hl
  subst hsz
  have hD := hD.self (sz := s.heap.size)
  generalize hAe : va_A (va_pl L f) s.heap.size = A at hD hQ
  have hA : ∀ q, s.heap.size ≤ q → A q := fun q h => by rw [← hAe]; exact Or.inr h
  have hS : va_S A s.heap s.heap [] := va_S.rf
  have hF : FR S [0, 1, 13, 14, 34] f f := FR_rf
  have hl : lv_has ls 5 [(0, .ref (g 13)), (1, .int x)] := hl
  refine lv_iload_n hx hb dX4_readSequence_0 rfl (lv_at hl 1 rfl) ?_
  refine a_if_lt (u := x.toInt) (tgt := 9) hx hb dX4_readSequence_1 (by decide) (rfl) (fun c_1 => ?_) (fun c_1 => ?_)
  · refine lv_aload_n hx hb dX4_readSequence_9 rfl (lv_at hl 0 rfl) ?_
    refine lv_iconst (v := 3) hx hb dX4_readSequence_10 (by decide) ?_
    have hz_2 : (3 : Int32).toInt = 3 := by decide
    obtain ⟨fa_3, pl_3, fg_3⟩ := op_13 hI (gm_13 hG) (gs_13 hG)
    refine call_p (va_runV (As := [.int 3]) (rest := []) ⟨hx, hb, hml, hown, hts⟩ (t_X4_fail l D cI cR cM _  hj hG hI  ) (cwV 1 hts gX4_readSequence_X4_fail rfl rfl rfl (by decide +kernel) ⟨Nat.le_of_ble_eq_true rfl, Nat.le_of_ble_eq_true rfl⟩) (pre_T hK hP hD (gm_13 hG) fg_3 rfl) rfl rfl hl.1 rfl (lv_room (Nat.le_of_ble_eq_true rfl)) dX4_readSequence_11 ⟨Nat.le_of_ble_eq_true rfl, Nat.le_of_ble_eq_true rfl⟩) hD hS hA (fun u_4 H locs hw hP hD hS => ?_)
    obtain ⟨r_4, f_4⟩ := u_4
    obtain ⟨hI, hF_4, h0_4, h01_4⟩ : IN jn cI cR cM g L S f_4 ∧ FR S [13] f f_4 ∧ (r_4.toInt = 0) ∧ (r_4.toInt = 0 ∨ r_4.toInt = 1) := hw
    have hP : va_P D vwCl (va_pl L f_4) H := hP
    have hD : va_D A (va_pl L f_4) := hD
    have hF := FR_tr hF hF_4 (by decide)
    have hTK_4 : TK g cI f_4 := TK_fr (f := f) (by assumption) hG hF_4 (by decide)
    exact g_zret (r_4, f_4) hx hb hr hlocks hS (b01 (by omega)) rfl (⟨hI, hF, show TK g cI f_4 from (by first | assumption | omega), show r_4.toInt = 0 ∨ r_4.toInt = 1 from (by first | assumption | omega)⟩) hP hD hQ (Nat.le_of_ble_eq_true rfl) (Nat.le_of_ble_eq_true rfl) dX4_readSequence_14
  · refine lv_iload_n hx hb dX4_readSequence_4 rfl (lv_at hl 1 rfl) ?_
    refine lv_iconst (v := 5) hx hb dX4_readSequence_5 (by decide) ?_
    refine a_icmp_le (u := x.toInt) (v := 5) (tgt := 15) hx hb dX4_readSequence_6 (by decide) (rfl) (by decide) (fun c_5 => ?_) (fun c_5 => ?_)
    · refine lv_aload_n hx hb dX4_readSequence_15 rfl (lv_at hl 0 rfl) ?_
      obtain ⟨fa_6, pl_6, fg_6⟩ := op_13 hI (gm_13 hG) (gs_13 hG)
      refine t_get (D := D) (L := L) (f := f) (ci := 4) (v := .ref (g 22)) (C := RX4) (T := TX4) (N := 11) hx hb hts (by decide +kernel) hown hK.1 hP (gm_13 hG) fg_6 rfl 3 (by decide) (hts (.fieldLink RX4 13 "JugglingHall$Reader" "levels" "[LJugglingHall$Row;") (by decide +kernel)) (fun _ h9 => h9) rfl dX4_readSequence_16 ?_
      refine lv_iload_n hx hb dX4_readSequence_19 rfl (lv_at hl 1 rfl) ?_
      obtain ⟨c_7, fg_7, iv0_7⟩ := op_22 hI (gm_22 hG) (gs_22 hG)
      refine t_aald (L := L) (f := f) (y := c_7) (u := x.toInt) hx hb hK.1 hP (gm_22 hG) 1 fg_7 rfl dX4_readSequence_20 (rfl) (by omega) (fun w_8 q_8 => ?_)
      obtain ⟨r_8, p_8, n_8, er_8, m_8, s_8⟩ := iv0_7 x.toInt (by omega) (by omega)
      have q_8 := q_8.trans er_8
      subst q_8
      refine W.eq (g2 := F0 m 21 ls [.ref r_8]) rfl ?_
      refine lv_astore_n (lv' := [(2, .ref r_8), (0, .ref (g 13)), (1, .int x)]) hx hb dX4_readSequence_21 rfl hl (by decide) rfl (fun ls hl => ?_)
      refine lv_aload_n hx hb dX4_readSequence_22 rfl (lv_at hl 0 rfl) ?_
      refine lv_iconst (v := 0) hx hb dX4_readSequence_23 (by decide) ?_
      obtain ⟨len_9, fg_9, v1_9, v2_9, v3_9, mp_9, sp_9⟩ := op_0 hI m_8 s_8
      obtain ⟨w1_9, w2_9, w3_9, w4_9, w5_9⟩ := lenw hj v1_9 v2_9 v3_9
      have hz_11 : (0 : Int32).toInt = 0 := by decide
      refine t_putN (D := D) (L := L) (f := f) (ci := 5) (v := .int 0) (ty := .int) (C := RX5) (T := TX5) (N := 4) (host := "JugglingHall") hx hb hts (by decide +kernel) tyX5 tyX5_ok nmX5 hown hK.1 hP hD hS m_8 fg_9 rfl 3 (by decide) (hK.nw (.fieldLinkNest RX4 62 "JugglingHall$Row" "length" "I" "JugglingHall") (by decide +kernel) rfl) (fun _ h9 => h9) rfl (by decide +kernel) rfl rfl (Nat.le_of_ble_eq_true rfl) dX4_readSequence_24 (fun f_10 H locs e9_10 o_10 hP hD hS => ?_)
      have fa_10 : f_10 r_8 = .inr (5, [.int (nI jn), .int (nI (2 * jn)), .ref p_8, .int 0]) := e9_10
      have hI := IN_set (e := .inr (5, [.int (nI jn), .int (nI (2 * jn)), .ref p_8, .int 0])) hI s_8 (mk_0 (by first | assumption | omega) (by rw [show (0 : Int32).toInt = 0 from rfl, Int.zero_mul]; omega) (by first | assumption | omega) (by first | assumption | omega) (by first | assumption | omega)) fa_10 o_10
      have hF := FR_set hF s_8 (show (0 : Nat) ∈ ([0, 1, 13, 14, 34] : List Nat) by decide) o_10
      have hTK_10 : TK g cI f_10 := TK_set (f := f) (by assumption) hG s_8 (show (0 : Nat) ∉ ([14, 31, 32] : List Nat) by decide) o_10
      have fb_12 : f_10 (g 13) = .inr (4, [.int (nI jn), .ref (g 14), .ref (g 12), .ref (g 22), .ref (g 34), .ref (g 23), .ref (g 24), .ref (g 25), .ref (g 26), .int fa_6, .int pl_6]) := f_at o_10 (S_ne (gs_13 hG) s_8 (show (13 : Nat) ≠ 0 by decide)) fg_6
      have fb_13 : f_10 (g 22) = .inl (cR, 6, .inr (.inr (.inr (.inr c_7)))) := f_at o_10 (S_ne (gs_22 hG) s_8 (show (22 : Nat) ≠ 0 by decide)) fg_7
      refine lv_iconst (v := 0) hx hb dX4_readSequence_27 (by decide) ?_
      refine lv_istore_n (lv' := [(3, .int 0), (2, .ref r_8), (0, .ref (g 13)), (1, .int x)]) hx hb dX4_readSequence_28 rfl hl (by decide) rfl (fun ls hl => ?_)
      have loop29 : ∀ (ddloop29 : Nat) (ii : Int32) (f_14 : Nat → va_E) (H : Heap) (locs : List Loc) (ls : Array Slot), (400 - ii.toInt).toNat < ddloop29 → IN jn cI cR cM g L S f_14 → FR S [0, 1, 13, 14, 34] f f_14 → (0 ≤ ii.toInt ∧ ii.toInt ≤ 301) → (TK g cI f_14) → va_P D vwCl (va_pl L f_14) H → va_D A (va_pl L f_14) → va_S A s.heap H locs → lv_has ls 5 [(0, .ref (g 13)), (1, .int x), (2, .ref r_8), (3, .int ii)] → W p l e ({ frames := 15, cells := 0, slots := 0, locals := 388 }) s m args below meth c H locs 0 0 Q (F0 m 29 ls []) := by
        intro ddloop29
        induction ddloop29 with
        | zero =>
          intro ii f_14 H locs ls hdd
          exact absurd hdd (Nat.not_lt_zero _)
        | succ ddloop29 ih29 =>
          intro ii f_14 H locs ls hdd hI hF hi hTK hP hD hS hl
          refine lv_iload_n hx hb dX4_readSequence_29 rfl (lv_at hl 3 rfl) ?_
          refine lv_sipush (v := 300) hx hb dX4_readSequence_30 (by decide) ?_
          refine a_icmp_gt (u := ii.toInt) (v := 300) (tgt := 79) hx hb dX4_readSequence_33 (by decide) (rfl) (by decide) (fun c_15 => ?_) (fun c_15 => ?_)
          · refine lv_iconst (v := 1) hx hb dX4_readSequence_79 (by decide) ?_
            have hz_16 : (1 : Int32).toInt = 1 := by decide
            exact g_zret ((1 : Int32), f_14) hx hb hr hlocks hS (by first | exact Or.inl rfl | exact Or.inr rfl) rfl (⟨hI, hF, show TK g cI f_14 from (by first | assumption | omega), show (1 : Int32).toInt = 0 ∨ (1 : Int32).toInt = 1 from (by first | assumption | omega)⟩) hP hD hQ (Nat.le_of_ble_eq_true rfl) (Nat.le_of_ble_eq_true rfl) dX4_readSequence_80
          · refine lv_iload_n hx hb dX4_readSequence_36 rfl (lv_at hl 3 rfl) ?_
            refine a_if_eq (u := ii.toInt) (tgt := 47) hx hb dX4_readSequence_37 (by decide) (rfl) (fun c_17 => ?_) (fun c_17 => ?_)
            · refine lv_aload_n hx hb dX4_readSequence_47 rfl (lv_at hl 2 rfl) ?_
              obtain ⟨len_18, fg_18, v1_18, v2_18, v3_18, mp_18, sp_18⟩ := op_0 hI m_8 s_8
              obtain ⟨w1_18, w2_18, w3_18, w4_18, w5_18⟩ := lenw hj v1_18 v2_18 v3_18
              refine t_getN (D := D) (L := L) (f := f_14) (ci := 5) (v := .int len_18) (C := RX5) (T := TX5) (N := 4) (host := "JugglingHall") hx hb hts (by decide +kernel) hown hK.1 hP m_8 fg_18 rfl 3 (by decide) (hK.nw (.fieldLinkNest RX4 62 "JugglingHall$Row" "length" "I" "JugglingHall") (by decide +kernel) rfl) (fun _ h9 => h9) rfl dX4_readSequence_48 ?_
              refine lv_istore (lv' := [(4, .int len_18), (0, .ref (g 13)), (1, .int x), (2, .ref r_8), (3, .int ii)]) hx hb dX4_readSequence_51 hl (by decide) rfl (fun ls hl => ?_)
              refine lv_aload_n hx hb dX4_readSequence_53 rfl (lv_at hl 1 rfl) ?_
              refine lv_iload_n hx hb dX4_readSequence_54 rfl (lv_at hl 2 rfl) ?_
              obtain ⟨fa_19, pl_19, fg_19⟩ := op_13 hI (gm_13 hG) (gs_13 hG)
              refine call_p (va_runV (As := [.int x]) (rest := []) ⟨hx, hb, hml, hown, hts⟩ (t_X4_readOne_6 l D cI cR cM _  hj hG hI  (by first | assumption | omega) (by first | assumption | omega) (by first | assumption | omega)) (cwV 1 hts gX4_readSequence_X4_readOne rfl rfl rfl (by decide +kernel) ⟨Nat.le_of_ble_eq_true rfl, Nat.le_of_ble_eq_true rfl⟩) (pre_T hK hP hD (gm_13 hG) fg_19 rfl) rfl rfl hl.1 rfl (lv_room (Nat.le_of_ble_eq_true rfl)) dX4_readSequence_55 ⟨Nat.le_of_ble_eq_true rfl, Nat.le_of_ble_eq_true rfl⟩) hD hS hA (fun u_20 H locs hw hP hD hS => ?_)
              obtain ⟨r_20, f_20⟩ := u_20
              obtain ⟨hI, hF_20, hTK_20, h01_20⟩ : IN jn cI cR cM g L S f_20 ∧ FR S [0, 1, 13, 14, 34] f_14 f_20 ∧ (TK g cI f_20) ∧ (r_20.toInt = 0 ∨ r_20.toInt = 1) := hw
              have hP : va_P D vwCl (va_pl L f_20) H := hP
              have hD : va_D A (va_pl L f_20) := hD
              have hF := FR_tr hF hF_20 (by decide)
              refine a_if_eq (u := r_20.toInt) (tgt := 71) hx hb dX4_readSequence_58 (by decide) (rfl) (fun c_21 => ?_) (fun c_21 => ?_)
              · refine lv_iconst (v := 0) hx hb dX4_readSequence_71 (by decide) ?_
                have hz_22 : (0 : Int32).toInt = 0 := by decide
                exact g_zret ((0 : Int32), f_20) hx hb hr hlocks hS (by first | exact Or.inl rfl | exact Or.inr rfl) rfl (⟨hI, hF, show TK g cI f_20 from (by first | assumption | omega), show (0 : Int32).toInt = 0 ∨ (0 : Int32).toInt = 1 from (by first | assumption | omega)⟩) hP hD hQ (Nat.le_of_ble_eq_true rfl) (Nat.le_of_ble_eq_true rfl) dX4_readSequence_72
              · refine lv_aload_n hx hb dX4_readSequence_61 rfl (lv_at hl 1 rfl) ?_
                refine lv_aload_n hx hb dX4_readSequence_62 rfl (lv_at hl 3 rfl) ?_
                refine lv_iload hx hb dX4_readSequence_63 (lv_at hl 0 rfl) ?_
                obtain ⟨fa_23, pl_23, fg_23⟩ := op_13 hI (gm_13 hG) (gs_13 hG)
                obtain ⟨len_24, fg_24, v1_24, v2_24, v3_24, mp_24, sp_24⟩ := op_0 hI m_8 s_8
                obtain ⟨w1_24, w2_24, w3_24, w4_24, w5_24⟩ := lenw hj v1_24 v2_24 v3_24
                obtain ⟨c_25, fg_25, iv0_25⟩ := op_1 hI mp_9 sp_9
                refine call_p (va_runV (As := [.ref r_8, .int len_18]) (rest := []) ⟨hx, hb, hml, hown, hts⟩ (t_X4_readTimes l D cI cR cM _  hj hG hI m_8 s_8 fg_24 fg_25 (by first | assumption | omega) (by first | assumption | omega)) (cwV 2 hts gX4_readSequence_X4_readTimes rfl rfl rfl (by decide +kernel) ⟨Nat.le_of_ble_eq_true rfl, Nat.le_of_ble_eq_true rfl⟩) (pre_T hK hP hD (gm_13 hG) fg_23 rfl) rfl rfl hl.1 rfl (lv_room (Nat.le_of_ble_eq_true rfl)) dX4_readSequence_65 ⟨Nat.le_of_ble_eq_true rfl, Nat.le_of_ble_eq_true rfl⟩) hD hS hA (fun u_26 H locs hw hP hD hS => ?_)
                obtain ⟨r_26, f_26⟩ := u_26
                obtain ⟨hI, hF_26, hTK_26, h01_26⟩ : IN jn cI cR cM g L S f_26 ∧ FR S [0, 1, 13, 14] f_20 f_26 ∧ (TK g cI f_26) ∧ (r_26.toInt = 0 ∨ r_26.toInt = 1) := hw
                have hP : va_P D vwCl (va_pl L f_26) H := hP
                have hD : va_D A (va_pl L f_26) := hD
                have hF := FR_tr hF hF_26 (by decide)
                refine a_if_ne (u := r_26.toInt) (tgt := 73) hx hb dX4_readSequence_68 (by decide) (rfl) (fun c_27 => ?_) (fun c_27 => ?_)
                · obtain ⟨z_28, q_28, e_28⟩ := i_inc (a := ii.toInt) (1) (rfl) (by decide) (by omega) (by omega)
                  refine lv_iinc (v := z_28) (lv' := [(3, .int z_28), (4, .int len_18), (0, .ref (g 13)), (1, .int x), (2, .ref r_8)]) hx hb dX4_readSequence_73 hl (k := 4) rfl q_28 (by decide) rfl (fun ls hl => ?_)
                  refine lv_goto (tgt := 29) hx hb dX4_readSequence_76 (by decide) ?_
                  exact ih29 z_28 f_26 _ _ _ (by omega) hI hF (by first | assumption | omega) (by first | assumption | omega) hP hD hS (lv_sub hl [2, 3, 4, 0] rfl)
                · refine lv_iconst (v := 0) hx hb dX4_readSequence_71 (by decide) ?_
                  have hz_29 : (0 : Int32).toInt = 0 := by decide
                  exact g_zret ((0 : Int32), f_26) hx hb hr hlocks hS (by first | exact Or.inl rfl | exact Or.inr rfl) rfl (⟨hI, hF, show TK g cI f_26 from (by first | assumption | omega), show (0 : Int32).toInt = 0 ∨ (0 : Int32).toInt = 1 from (by first | assumption | omega)⟩) hP hD hQ (Nat.le_of_ble_eq_true rfl) (Nat.le_of_ble_eq_true rfl) dX4_readSequence_72
            · refine lv_aload_n hx hb dX4_readSequence_40 rfl (lv_at hl 0 rfl) ?_
              obtain ⟨fa_30, pl_30, fg_30⟩ := op_13 hI (gm_13 hG) (gs_13 hG)
              refine roP (va_runV (As := []) (rest := []) ⟨hx, hb, hml, hown, hts⟩ (t_X4_beginsOne l D cI cR cM _  hj hG hI  ) (cwV 0 hts gX4_readSequence_X4_beginsOne rfl rfl rfl (by decide +kernel) ⟨Nat.le_of_ble_eq_true rfl, Nat.le_of_ble_eq_true rfl⟩) (pre_T hK hP hD (gm_13 hG) fg_30 rfl) rfl rfl hl.1 rfl (lv_room (Nat.le_of_ble_eq_true rfl)) dX4_readSequence_41 ⟨Nat.le_of_ble_eq_true rfl, Nat.le_of_ble_eq_true rfl⟩) hS hA hP (fun r_31 H locs hw hP hS => ?_)
              have h01_31 : (r_31.toInt = 0 ∨ r_31.toInt = 1) := hw
              refine a_if_eq (u := r_31.toInt) (tgt := 79) hx hb dX4_readSequence_44 (by decide) (rfl) (fun c_32 => ?_) (fun c_32 => ?_)
              · refine lv_iconst (v := 1) hx hb dX4_readSequence_79 (by decide) ?_
                have hz_33 : (1 : Int32).toInt = 1 := by decide
                exact g_zret ((1 : Int32), f_14) hx hb hr hlocks hS (by first | exact Or.inl rfl | exact Or.inr rfl) rfl (⟨hI, hF, show TK g cI f_14 from (by first | assumption | omega), show (1 : Int32).toInt = 0 ∨ (1 : Int32).toInt = 1 from (by first | assumption | omega)⟩) hP hD hQ (Nat.le_of_ble_eq_true rfl) (Nat.le_of_ble_eq_true rfl) dX4_readSequence_80
              · refine lv_aload_n hx hb dX4_readSequence_47 rfl (lv_at hl 2 rfl) ?_
                obtain ⟨len_34, fg_34, v1_34, v2_34, v3_34, mp_34, sp_34⟩ := op_0 hI m_8 s_8
                obtain ⟨w1_34, w2_34, w3_34, w4_34, w5_34⟩ := lenw hj v1_34 v2_34 v3_34
                refine t_getN (D := D) (L := L) (f := f_14) (ci := 5) (v := .int len_34) (C := RX5) (T := TX5) (N := 4) (host := "JugglingHall") hx hb hts (by decide +kernel) hown hK.1 hP m_8 fg_34 rfl 3 (by decide) (hK.nw (.fieldLinkNest RX4 62 "JugglingHall$Row" "length" "I" "JugglingHall") (by decide +kernel) rfl) (fun _ h9 => h9) rfl dX4_readSequence_48 ?_
                refine lv_istore (lv' := [(4, .int len_34), (0, .ref (g 13)), (1, .int x), (2, .ref r_8), (3, .int ii)]) hx hb dX4_readSequence_51 hl (by decide) rfl (fun ls hl => ?_)
                refine lv_aload_n hx hb dX4_readSequence_53 rfl (lv_at hl 1 rfl) ?_
                refine lv_iload_n hx hb dX4_readSequence_54 rfl (lv_at hl 2 rfl) ?_
                refine call_p (va_runV (As := [.int x]) (rest := []) ⟨hx, hb, hml, hown, hts⟩ (t_X4_readOne_6 l D cI cR cM _  hj hG hI  (by first | assumption | omega) (by first | assumption | omega) (by first | assumption | omega)) (cwV 1 hts gX4_readSequence_X4_readOne rfl rfl rfl (by decide +kernel) ⟨Nat.le_of_ble_eq_true rfl, Nat.le_of_ble_eq_true rfl⟩) (pre_T hK hP hD (gm_13 hG) fg_30 rfl) rfl rfl hl.1 rfl (lv_room (Nat.le_of_ble_eq_true rfl)) dX4_readSequence_55 ⟨Nat.le_of_ble_eq_true rfl, Nat.le_of_ble_eq_true rfl⟩) hD hS hA (fun u_35 H locs hw hP hD hS => ?_)
                obtain ⟨r_35, f_35⟩ := u_35
                obtain ⟨hI, hF_35, hTK_35, h01_35⟩ : IN jn cI cR cM g L S f_35 ∧ FR S [0, 1, 13, 14, 34] f_14 f_35 ∧ (TK g cI f_35) ∧ (r_35.toInt = 0 ∨ r_35.toInt = 1) := hw
                have hP : va_P D vwCl (va_pl L f_35) H := hP
                have hD : va_D A (va_pl L f_35) := hD
                have hF := FR_tr hF hF_35 (by decide)
                refine a_if_eq (u := r_35.toInt) (tgt := 71) hx hb dX4_readSequence_58 (by decide) (rfl) (fun c_36 => ?_) (fun c_36 => ?_)
                · refine lv_iconst (v := 0) hx hb dX4_readSequence_71 (by decide) ?_
                  have hz_37 : (0 : Int32).toInt = 0 := by decide
                  exact g_zret ((0 : Int32), f_35) hx hb hr hlocks hS (by first | exact Or.inl rfl | exact Or.inr rfl) rfl (⟨hI, hF, show TK g cI f_35 from (by first | assumption | omega), show (0 : Int32).toInt = 0 ∨ (0 : Int32).toInt = 1 from (by first | assumption | omega)⟩) hP hD hQ (Nat.le_of_ble_eq_true rfl) (Nat.le_of_ble_eq_true rfl) dX4_readSequence_72
                · refine lv_aload_n hx hb dX4_readSequence_61 rfl (lv_at hl 1 rfl) ?_
                  refine lv_aload_n hx hb dX4_readSequence_62 rfl (lv_at hl 3 rfl) ?_
                  refine lv_iload hx hb dX4_readSequence_63 (lv_at hl 0 rfl) ?_
                  obtain ⟨fa_38, pl_38, fg_38⟩ := op_13 hI (gm_13 hG) (gs_13 hG)
                  obtain ⟨len_39, fg_39, v1_39, v2_39, v3_39, mp_39, sp_39⟩ := op_0 hI m_8 s_8
                  obtain ⟨w1_39, w2_39, w3_39, w4_39, w5_39⟩ := lenw hj v1_39 v2_39 v3_39
                  obtain ⟨c_40, fg_40, iv0_40⟩ := op_1 hI mp_9 sp_9
                  refine call_p (va_runV (As := [.ref r_8, .int len_34]) (rest := []) ⟨hx, hb, hml, hown, hts⟩ (t_X4_readTimes l D cI cR cM _  hj hG hI m_8 s_8 fg_39 fg_40 (by first | assumption | omega) (by first | assumption | omega)) (cwV 2 hts gX4_readSequence_X4_readTimes rfl rfl rfl (by decide +kernel) ⟨Nat.le_of_ble_eq_true rfl, Nat.le_of_ble_eq_true rfl⟩) (pre_T hK hP hD (gm_13 hG) fg_38 rfl) rfl rfl hl.1 rfl (lv_room (Nat.le_of_ble_eq_true rfl)) dX4_readSequence_65 ⟨Nat.le_of_ble_eq_true rfl, Nat.le_of_ble_eq_true rfl⟩) hD hS hA (fun u_41 H locs hw hP hD hS => ?_)
                  obtain ⟨r_41, f_41⟩ := u_41
                  obtain ⟨hI, hF_41, hTK_41, h01_41⟩ : IN jn cI cR cM g L S f_41 ∧ FR S [0, 1, 13, 14] f_35 f_41 ∧ (TK g cI f_41) ∧ (r_41.toInt = 0 ∨ r_41.toInt = 1) := hw
                  have hP : va_P D vwCl (va_pl L f_41) H := hP
                  have hD : va_D A (va_pl L f_41) := hD
                  have hF := FR_tr hF hF_41 (by decide)
                  refine a_if_ne (u := r_41.toInt) (tgt := 73) hx hb dX4_readSequence_68 (by decide) (rfl) (fun c_42 => ?_) (fun c_42 => ?_)
                  · obtain ⟨z_43, q_43, e_43⟩ := i_inc (a := ii.toInt) (1) (rfl) (by decide) (by omega) (by omega)
                    refine lv_iinc (v := z_43) (lv' := [(3, .int z_43), (4, .int len_34), (0, .ref (g 13)), (1, .int x), (2, .ref r_8)]) hx hb dX4_readSequence_73 hl (k := 4) rfl q_43 (by decide) rfl (fun ls hl => ?_)
                    refine lv_goto (tgt := 29) hx hb dX4_readSequence_76 (by decide) ?_
                    exact ih29 z_43 f_41 _ _ _ (by omega) hI hF (by first | assumption | omega) (by first | assumption | omega) hP hD hS (lv_sub hl [2, 3, 4, 0] rfl)
                  · refine lv_iconst (v := 0) hx hb dX4_readSequence_71 (by decide) ?_
                    have hz_44 : (0 : Int32).toInt = 0 := by decide
                    exact g_zret ((0 : Int32), f_41) hx hb hr hlocks hS (by first | exact Or.inl rfl | exact Or.inr rfl) rfl (⟨hI, hF, show TK g cI f_41 from (by first | assumption | omega), show (0 : Int32).toInt = 0 ∨ (0 : Int32).toInt = 1 from (by first | assumption | omega)⟩) hP hD hQ (Nat.le_of_ble_eq_true rfl) (Nat.le_of_ble_eq_true rfl) dX4_readSequence_72
      have hz_45 : (0 : Int32).toInt = 0 := by decide
      exact loop29 ((400 - (0 : Int32).toInt).toNat + 1) (0 : Int32) f_10 _ _ _ (by omega) hI hF (by first | assumption | omega) (by first | assumption | omega) hP hD hS (lv_sub hl [2, 3, 1, 0] rfl)
    · refine lv_aload_n hx hb dX4_readSequence_9 rfl (lv_at hl 0 rfl) ?_
      refine lv_iconst (v := 3) hx hb dX4_readSequence_10 (by decide) ?_
      have hz_46 : (3 : Int32).toInt = 3 := by decide
      obtain ⟨fa_47, pl_47, fg_47⟩ := op_13 hI (gm_13 hG) (gs_13 hG)
      refine call_p (va_runV (As := [.int 3]) (rest := []) ⟨hx, hb, hml, hown, hts⟩ (t_X4_fail l D cI cR cM _  hj hG hI  ) (cwV 1 hts gX4_readSequence_X4_fail rfl rfl rfl (by decide +kernel) ⟨Nat.le_of_ble_eq_true rfl, Nat.le_of_ble_eq_true rfl⟩) (pre_T hK hP hD (gm_13 hG) fg_47 rfl) rfl rfl hl.1 rfl (lv_room (Nat.le_of_ble_eq_true rfl)) dX4_readSequence_11 ⟨Nat.le_of_ble_eq_true rfl, Nat.le_of_ble_eq_true rfl⟩) hD hS hA (fun u_48 H locs hw hP hD hS => ?_)
      obtain ⟨r_48, f_48⟩ := u_48
      obtain ⟨hI, hF_48, h0_48, h01_48⟩ : IN jn cI cR cM g L S f_48 ∧ FR S [13] f f_48 ∧ (r_48.toInt = 0) ∧ (r_48.toInt = 0 ∨ r_48.toInt = 1) := hw
      have hP : va_P D vwCl (va_pl L f_48) H := hP
      have hD : va_D A (va_pl L f_48) := hD
      have hF := FR_tr hF hF_48 (by decide)
      have hTK_48 : TK g cI f_48 := TK_fr (f := f) (by assumption) hG hF_48 (by decide)
      exact g_zret (r_48, f_48) hx hb hr hlocks hS (b01 (by omega)) rfl (⟨hI, hF, show TK g cI f_48 from (by first | assumption | omega), show r_48.toInt = 0 ∨ r_48.toInt = 1 from (by first | assumption | omega)⟩) hP hD hQ (Nat.le_of_ble_eq_true rfl) (Nat.le_of_ble_eq_true rfl) dX4_readSequence_14
set_option maxRecDepth 100000 in
set_option maxHeartbeats 4000000 in
theorem t_X4_readRow (l : Launch) (D : va_G) (cI cR cM : ClassId) (sz : Nat) {jn : Nat} {g : Nat → Nat} {L : List Nat} {S : Sg} {f : Nat → va_E}  (hj : 1 ≤ jn ∧ jn ≤ 3) (hG : SG g L S) (hI : IN jn cI cR cM g L S f) (hTK : TK g cI f) : Met l yX4_readRow wsX4_readRow ({ frames := 16, cells := 0, slots := 0, locals := 412 }) (P0 D cI cR cM [.ref (g 13)] sz (va_pl L f)) (QG (S := Int32 × (Nat → va_E)) (fun u => some (.int u.1)) (fun u => va_pl L u.2) (fun u => IN jn cI cR cM g L S u.2 ∧ FR S [0, 1, 13, 14, 34] f u.2 ∧ (TK g cI u.2) ∧ (u.1.toInt = 0 ∨ u.1.toInt = 1)) D (va_A (va_pl L f) sz)) 0 0 (va_A (va_pl L f) sz) := by
  refine go (cc := cX4_readRow) (maxL := 2) (ret := (some .boolean)) (by decide +kernel) rfl (Nat.le_of_ble_eq_true rfl) ?_
  intro p e s m below meth c ls args Q hQ hsz hx hb hr hml hts hown hlocks hnm hP hK hD hl
  subst hsz
  have hD := hD.self (sz := s.heap.size)
  generalize hAe : va_A (va_pl L f) s.heap.size = A at hD hQ
  have hA : ∀ q, s.heap.size ≤ q → A q := fun q h => by rw [← hAe]; exact Or.inr h
  have hS : va_S A s.heap s.heap [] := va_S.rf
  have hF : FR S [0, 1, 13, 14, 34] f f := FR_rf
  have hl : lv_has ls 2 [(0, .ref (g 13))] := hl
  refine lv_aload_n hx hb dX4_readRow_0 rfl (lv_at hl 0 rfl) ?_
  obtain ⟨fa_1, pl_1, fg_1⟩ := op_13 hI (gm_13 hG) (gs_13 hG)
  refine t_get (D := D) (L := L) (f := f) (ci := 4) (v := .ref (g 14)) (C := RX4) (T := TX4) (N := 11) hx hb hts (by decide +kernel) hown hK.1 hP (gm_13 hG) fg_1 rfl 1 (by decide) (hts (.fieldLink RX4 41 "JugglingHall$Reader" "tokens" "LJugglingHall$Tokens;") (by decide +kernel)) (fun _ h9 => h9) rfl dX4_readRow_1 ?_
  obtain ⟨cnt_2, nx_2, kd_2, vl_2, st_2, ls_2, fg_2, iv0_2, iv1_2, iv2_2⟩ := op_14 hI (gm_14 hG) (gs_14 hG)
  refine call_p (va_runV (As := []) (rest := []) ⟨hx, hb, hml, hown, hts⟩ (t_X8_advance l D cI cR cM _  hj hG hI  (by first | assumption | omega)) (cwV 0 hts gX4_readRow_X8_advance rfl rfl rfl (by decide +kernel) ⟨Nat.le_of_ble_eq_true rfl, Nat.le_of_ble_eq_true rfl⟩) (pre_T hK hP hD (gm_14 hG) fg_2 rfl) rfl rfl hl.1 rfl (lv_room (Nat.le_of_ble_eq_true rfl)) dX4_readRow_4 ⟨Nat.le_of_ble_eq_true rfl, Nat.le_of_ble_eq_true rfl⟩) hD hS hA (fun u_3 H locs hw hP hD hS => ?_)
  obtain ⟨f_3, e0_3⟩ : ∃ x, x = u_3 := ⟨_, rfl⟩
  subst e0_3
  obtain ⟨hI, hF_3, hTK_3⟩ : IN jn cI cR cM g L S f_3 ∧ FR S [14] f f_3 ∧ (TK g cI f_3) := hw
  have hP : va_P D vwCl (va_pl L f_3) H := hP
  have hD : va_D A (va_pl L f_3) := hD
  have hF := FR_tr hF hF_3 (by decide)
  have fb_4 : f_3 (g 13) = .inr (4, [.int (nI jn), .ref (g 14), .ref (g 12), .ref (g 22), .ref (g 34), .ref (g 23), .ref (g 24), .ref (g 25), .ref (g 26), .int fa_1, .int pl_1]) := FR_at hF_3 (gs_13 hG) (show (13 : Nat) ∉ ([14] : List Nat) by decide) fg_1
  refine lv_aload_n hx hb dX4_readRow_7 rfl (lv_at hl 0 rfl) ?_
  refine t_get (D := D) (L := L) (f := f_3) (ci := 4) (v := .ref (g 14)) (C := RX4) (T := TX4) (N := 11) hx hb hts (by decide +kernel) hown hK.1 hP (gm_13 hG) fb_4 rfl 1 (by decide) (hts (.fieldLink RX4 41 "JugglingHall$Reader" "tokens" "LJugglingHall$Tokens;") (by decide +kernel)) (fun _ h9 => h9) rfl dX4_readRow_8 ?_
  obtain ⟨cnt_5, nx_5, kd_5, vl_5, st_5, ls_5, fg_5, iv0_5, iv1_5, iv2_5⟩ := op_14 hI (gm_14 hG) (gs_14 hG)
  refine t_getN (D := D) (L := L) (f := f_3) (ci := 8) (v := .int vl_5) (C := RX8) (T := TX8) (N := 10) (host := "JugglingHall") hx hb hts (by decide +kernel) hown hK.1 hP (gm_14 hG) fg_5 rfl 7 (by decide) (hK.nw (.fieldLinkNest RX4 113 "JugglingHall$Tokens" "value" "I" "JugglingHall") (by decide +kernel) rfl) (fun _ h9 => h9) rfl dX4_readRow_11 ?_
  refine lv_istore_n (lv' := [(1, .int vl_5), (0, .ref (g 13))]) hx hb dX4_readRow_14 rfl hl (by decide) rfl (fun ls hl => ?_)
  refine lv_aload_n hx hb dX4_readRow_15 rfl (lv_at hl 1 rfl) ?_
  refine lv_iconst (v := 3) hx hb dX4_readRow_16 (by decide) ?_
  have hz_6 : (3 : Int32).toInt = 3 := by decide
  refine call_p (va_runV (As := [.int 3]) (rest := []) ⟨hx, hb, hml, hown, hts⟩ (t_X4_expect l D cI cR cM _  hj hG hI  (by first | assumption | omega)) (cwV 1 hts gX4_readRow_X4_expect rfl rfl rfl (by decide +kernel) ⟨Nat.le_of_ble_eq_true rfl, Nat.le_of_ble_eq_true rfl⟩) (pre_T hK hP hD (gm_13 hG) fb_4 rfl) rfl rfl hl.1 rfl (lv_room (Nat.le_of_ble_eq_true rfl)) dX4_readRow_17 ⟨Nat.le_of_ble_eq_true rfl, Nat.le_of_ble_eq_true rfl⟩) hD hS hA (fun u_7 H locs hw hP hD hS => ?_)
  obtain ⟨r_7, f_7⟩ := u_7
  obtain ⟨hI, hF_7, he_7, hTK_7, h01_7⟩ : IN jn cI cR cM g L S f_7 ∧ FR S [13, 14] f_3 f_7 ∧ (∀ cnt9 nx9 kd9 vl9 st9 ls9, f_3 (g 14) = .inr (8, [.ref (g 11), .ref (g 31), .ref (g 32), .ref (g 33), .int cnt9, .int nx9, .int kd9, .int vl9, .int st9, .int ls9]) → r_7.toInt = 1 → kd9.toInt = (3 : Int32).toInt) ∧ (TK g cI f_7) ∧ (r_7.toInt = 0 ∨ r_7.toInt = 1) := hw
  have hP : va_P D vwCl (va_pl L f_7) H := hP
  have hD : va_D A (va_pl L f_7) := hD
  have hF := FR_tr hF hF_7 (by decide)
  refine a_if_eq (u := r_7.toInt) (tgt := 49) hx hb dX4_readRow_20 (by decide) (rfl) (fun c_8 => ?_) (fun c_8 => ?_)
  · refine lv_iconst (v := 0) hx hb dX4_readRow_49 (by decide) ?_
    have hz_9 : (0 : Int32).toInt = 0 := by decide
    exact g_zret ((0 : Int32), f_7) hx hb hr hlocks hS (by first | exact Or.inl rfl | exact Or.inr rfl) rfl (⟨hI, hF, show TK g cI f_7 from (by first | assumption | omega), show (0 : Int32).toInt = 0 ∨ (0 : Int32).toInt = 1 from (by first | assumption | omega)⟩) hP hD hQ (Nat.le_of_ble_eq_true rfl) (Nat.le_of_ble_eq_true rfl) dX4_readRow_50
  · refine lv_aload_n hx hb dX4_readRow_23 rfl (lv_at hl 1 rfl) ?_
    refine lv_bipush (v := 61) hx hb dX4_readRow_24 (by decide) ?_
    have hz_10 : (61 : Int32).toInt = 61 := by decide
    obtain ⟨fa_11, pl_11, fg_11⟩ := op_13 hI (gm_13 hG) (gs_13 hG)
    refine call_p (va_runV (As := [.int 61]) (rest := []) ⟨hx, hb, hml, hown, hts⟩ (t_X4_expect l D cI cR cM _  hj hG hI  (by first | assumption | omega)) (cwV 1 hts gX4_readRow_X4_expect rfl rfl rfl (by decide +kernel) ⟨Nat.le_of_ble_eq_true rfl, Nat.le_of_ble_eq_true rfl⟩) (pre_T hK hP hD (gm_13 hG) fg_11 rfl) rfl rfl hl.1 rfl (lv_room (Nat.le_of_ble_eq_true rfl)) dX4_readRow_26 ⟨Nat.le_of_ble_eq_true rfl, Nat.le_of_ble_eq_true rfl⟩) hD hS hA (fun u_12 H locs hw hP hD hS => ?_)
    obtain ⟨r_12, f_12⟩ := u_12
    obtain ⟨hI, hF_12, he_12, hTK_12, h01_12⟩ : IN jn cI cR cM g L S f_12 ∧ FR S [13, 14] f_7 f_12 ∧ (∀ cnt9 nx9 kd9 vl9 st9 ls9, f_7 (g 14) = .inr (8, [.ref (g 11), .ref (g 31), .ref (g 32), .ref (g 33), .int cnt9, .int nx9, .int kd9, .int vl9, .int st9, .int ls9]) → r_12.toInt = 1 → kd9.toInt = (61 : Int32).toInt) ∧ (TK g cI f_12) ∧ (r_12.toInt = 0 ∨ r_12.toInt = 1) := hw
    have hP : va_P D vwCl (va_pl L f_12) H := hP
    have hD : va_D A (va_pl L f_12) := hD
    have hF := FR_tr hF hF_12 (by decide)
    refine a_if_eq (u := r_12.toInt) (tgt := 49) hx hb dX4_readRow_29 (by decide) (rfl) (fun c_13 => ?_) (fun c_13 => ?_)
    · refine lv_iconst (v := 0) hx hb dX4_readRow_49 (by decide) ?_
      have hz_14 : (0 : Int32).toInt = 0 := by decide
      exact g_zret ((0 : Int32), f_12) hx hb hr hlocks hS (by first | exact Or.inl rfl | exact Or.inr rfl) rfl (⟨hI, hF, show TK g cI f_12 from (by first | assumption | omega), show (0 : Int32).toInt = 0 ∨ (0 : Int32).toInt = 1 from (by first | assumption | omega)⟩) hP hD hQ (Nat.le_of_ble_eq_true rfl) (Nat.le_of_ble_eq_true rfl) dX4_readRow_50
    · refine lv_aload_n hx hb dX4_readRow_32 rfl (lv_at hl 1 rfl) ?_
      refine lv_iconst (v := 0) hx hb dX4_readRow_33 (by decide) ?_
      have hz_15 : (0 : Int32).toInt = 0 := by decide
      obtain ⟨fa_16, pl_16, fg_16⟩ := op_13 hI (gm_13 hG) (gs_13 hG)
      refine call_p (va_runV (As := [.int 0]) (rest := []) ⟨hx, hb, hml, hown, hts⟩ (t_X4_readSequence_6 l D cI cR cM _  hj hG hI  (by first | assumption | omega) (by first | assumption | omega)) (cwV 1 hts gX4_readRow_X4_readSequence rfl rfl rfl (by decide +kernel) ⟨Nat.le_of_ble_eq_true rfl, Nat.le_of_ble_eq_true rfl⟩) (pre_T hK hP hD (gm_13 hG) fg_16 rfl) rfl rfl hl.1 rfl (lv_room (Nat.le_of_ble_eq_true rfl)) dX4_readRow_34 ⟨Nat.le_of_ble_eq_true rfl, Nat.le_of_ble_eq_true rfl⟩) hD hS hA (fun u_17 H locs hw hP hD hS => ?_)
      obtain ⟨r_17, f_17⟩ := u_17
      obtain ⟨hI, hF_17, hTK_17, h01_17⟩ : IN jn cI cR cM g L S f_17 ∧ FR S [0, 1, 13, 14, 34] f_12 f_17 ∧ (TK g cI f_17) ∧ (r_17.toInt = 0 ∨ r_17.toInt = 1) := hw
      have hP : va_P D vwCl (va_pl L f_17) H := hP
      have hD : va_D A (va_pl L f_17) := hD
      have hF := FR_tr hF hF_17 (by decide)
      refine a_if_eq (u := r_17.toInt) (tgt := 49) hx hb dX4_readRow_37 (by decide) (rfl) (fun c_18 => ?_) (fun c_18 => ?_)
      · refine lv_iconst (v := 0) hx hb dX4_readRow_49 (by decide) ?_
        have hz_19 : (0 : Int32).toInt = 0 := by decide
        exact g_zret ((0 : Int32), f_17) hx hb hr hlocks hS (by first | exact Or.inl rfl | exact Or.inr rfl) rfl (⟨hI, hF, show TK g cI f_17 from (by first | assumption | omega), show (0 : Int32).toInt = 0 ∨ (0 : Int32).toInt = 1 from (by first | assumption | omega)⟩) hP hD hQ (Nat.le_of_ble_eq_true rfl) (Nat.le_of_ble_eq_true rfl) dX4_readRow_50
      · refine lv_aload_n hx hb dX4_readRow_40 rfl (lv_at hl 1 rfl) ?_
        refine lv_bipush (v := 59) hx hb dX4_readRow_41 (by decide) ?_
        have hz_20 : (59 : Int32).toInt = 59 := by decide
        obtain ⟨fa_21, pl_21, fg_21⟩ := op_13 hI (gm_13 hG) (gs_13 hG)
        refine call_p (va_runV (As := [.int 59]) (rest := []) ⟨hx, hb, hml, hown, hts⟩ (t_X4_expect l D cI cR cM _  hj hG hI  (by first | assumption | omega)) (cwV 1 hts gX4_readRow_X4_expect rfl rfl rfl (by decide +kernel) ⟨Nat.le_of_ble_eq_true rfl, Nat.le_of_ble_eq_true rfl⟩) (pre_T hK hP hD (gm_13 hG) fg_21 rfl) rfl rfl hl.1 rfl (lv_room (Nat.le_of_ble_eq_true rfl)) dX4_readRow_43 ⟨Nat.le_of_ble_eq_true rfl, Nat.le_of_ble_eq_true rfl⟩) hD hS hA (fun u_22 H locs hw hP hD hS => ?_)
        obtain ⟨r_22, f_22⟩ := u_22
        obtain ⟨hI, hF_22, he_22, hTK_22, h01_22⟩ : IN jn cI cR cM g L S f_22 ∧ FR S [13, 14] f_17 f_22 ∧ (∀ cnt9 nx9 kd9 vl9 st9 ls9, f_17 (g 14) = .inr (8, [.ref (g 11), .ref (g 31), .ref (g 32), .ref (g 33), .int cnt9, .int nx9, .int kd9, .int vl9, .int st9, .int ls9]) → r_22.toInt = 1 → kd9.toInt = (59 : Int32).toInt) ∧ (TK g cI f_22) ∧ (r_22.toInt = 0 ∨ r_22.toInt = 1) := hw
        have hP : va_P D vwCl (va_pl L f_22) H := hP
        have hD : va_D A (va_pl L f_22) := hD
        have hF := FR_tr hF hF_22 (by decide)
        refine a_if_ne (u := r_22.toInt) (tgt := 51) hx hb dX4_readRow_46 (by decide) (rfl) (fun c_23 => ?_) (fun c_23 => ?_)
        · refine lv_iload_n hx hb dX4_readRow_51 rfl (lv_at hl 0 rfl) ?_
          refine a_if_lt (u := vl_5.toInt) (tgt := 83) hx hb dX4_readRow_52 (by decide) (rfl) (fun c_24 => ?_) (fun c_24 => ?_)
          · refine lv_iconst (v := 0) hx hb dX4_readRow_83 (by decide) ?_
            have hz_25 : (0 : Int32).toInt = 0 := by decide
            exact g_zret ((0 : Int32), f_22) hx hb hr hlocks hS (by first | exact Or.inl rfl | exact Or.inr rfl) rfl (⟨hI, hF, show TK g cI f_22 from (by first | assumption | omega), show (0 : Int32).toInt = 0 ∨ (0 : Int32).toInt = 1 from (by first | assumption | omega)⟩) hP hD hQ (Nat.le_of_ble_eq_true rfl) (Nat.le_of_ble_eq_true rfl) dX4_readRow_84
          · refine lv_iload_n hx hb dX4_readRow_55 rfl (lv_at hl 0 rfl) ?_
            refine lv_bipush (v := 8) hx hb dX4_readRow_56 (by decide) ?_
            refine a_icmp_ge (u := vl_5.toInt) (v := 8) (tgt := 83) hx hb dX4_readRow_58 (by decide) (rfl) (by decide) (fun c_26 => ?_) (fun c_26 => ?_)
            · refine lv_iconst (v := 0) hx hb dX4_readRow_83 (by decide) ?_
              have hz_27 : (0 : Int32).toInt = 0 := by decide
              exact g_zret ((0 : Int32), f_22) hx hb hr hlocks hS (by first | exact Or.inl rfl | exact Or.inr rfl) rfl (⟨hI, hF, show TK g cI f_22 from (by first | assumption | omega), show (0 : Int32).toInt = 0 ∨ (0 : Int32).toInt = 1 from (by first | assumption | omega)⟩) hP hD hQ (Nat.le_of_ble_eq_true rfl) (Nat.le_of_ble_eq_true rfl) dX4_readRow_84
            · refine lv_aload_n hx hb dX4_readRow_61 rfl (lv_at hl 1 rfl) ?_
              obtain ⟨fa_28, pl_28, fg_28⟩ := op_13 hI (gm_13 hG) (gs_13 hG)
              refine t_get (D := D) (L := L) (f := f_22) (ci := 4) (v := .ref (g 23)) (C := RX4) (T := TX4) (N := 11) hx hb hts (by decide +kernel) hown hK.1 hP (gm_13 hG) fg_28 rfl 5 (by decide) (hts (.fieldLink RX4 21 "JugglingHall$Reader" "here" "[LJugglingHall$Row;") (by decide +kernel)) (fun _ h9 => h9) rfl dX4_readRow_62 ?_
              refine lv_iload_n hx hb dX4_readRow_65 rfl (lv_at hl 0 rfl) ?_
              obtain ⟨c_29, fg_29, iv0_29⟩ := op_23 hI (gm_23 hG) (gs_23 hG)
              refine t_aald (L := L) (f := f_22) (y := c_29) (u := vl_5.toInt) hx hb hK.1 hP (gm_23 hG) 1 fg_29 rfl dX4_readRow_66 (rfl) (by omega) (fun w_30 q_30 => ?_)
              obtain ⟨r_30, p_30, n_30, er_30, m_30, s_30⟩ := iv0_29 vl_5.toInt (by omega) (by omega)
              have q_30 := q_30.trans er_30
              subst q_30
              refine W.eq (g2 := F0 m 67 ls [.ref r_30]) rfl ?_
              refine lv_aload_n hx hb dX4_readRow_67 rfl (lv_at hl 1 rfl) ?_
              refine t_get (D := D) (L := L) (f := f_22) (ci := 4) (v := .ref (g 22)) (C := RX4) (T := TX4) (N := 11) hx hb hts (by decide +kernel) hown hK.1 hP (gm_13 hG) fg_28 rfl 3 (by decide) (hts (.fieldLink RX4 13 "JugglingHall$Reader" "levels" "[LJugglingHall$Row;") (by decide +kernel)) (fun _ h9 => h9) rfl dX4_readRow_68 ?_
              refine lv_iconst (v := 0) hx hb dX4_readRow_71 (by decide) ?_
              obtain ⟨c_31, fg_31, iv0_31⟩ := op_22 hI (gm_22 hG) (gs_22 hG)
              refine t_aald (L := L) (f := f_22) (y := c_31) (u := 0) hx hb hK.1 hP (gm_22 hG) 1 fg_31 rfl dX4_readRow_72 (by decide) (by omega) (fun w_32 q_32 => ?_)
              obtain ⟨r_32, p_32, n_32, er_32, m_32, s_32⟩ := iv0_31 0 (by omega) (by omega)
              have q_32 := q_32.trans er_32
              subst q_32
              refine W.eq (g2 := F0 m 73 ls [.ref r_32, .ref r_30]) rfl ?_
              obtain ⟨len_33, fg_33, v1_33, v2_33, v3_33, mp_33, sp_33⟩ := op_0 hI m_30 s_30
              obtain ⟨w1_33, w2_33, w3_33, w4_33, w5_33⟩ := lenw hj v1_33 v2_33 v3_33
              obtain ⟨c_34, fg_34, iv0_34⟩ := op_1 hI mp_33 sp_33
              obtain ⟨len_35, fg_35, v1_35, v2_35, v3_35, mp_35, sp_35⟩ := op_0 hI m_32 s_32
              obtain ⟨w1_35, w2_35, w3_35, w4_35, w5_35⟩ := lenw hj v1_35 v2_35 v3_35
              obtain ⟨c_36, fg_36, iv0_36⟩ := op_1 hI mp_35 sp_35
              refine call_p (va_runV (As := [.ref r_32]) (rest := []) ⟨hx, hb, hml, hown, hts⟩ (t_X5_takeFrom l D cI cR cM _  hj hG hI m_30 s_30 fg_33 fg_34 m_32 s_32 fg_35 fg_36 ) (cwV 1 hts gX4_readRow_X5_takeFrom rfl rfl rfl (by decide +kernel) ⟨Nat.le_of_ble_eq_true rfl, Nat.le_of_ble_eq_true rfl⟩) (pre_T hK hP hD m_30 fg_33 rfl) rfl rfl hl.1 rfl (lv_room (Nat.le_of_ble_eq_true rfl)) dX4_readRow_73 ⟨Nat.le_of_ble_eq_true rfl, Nat.le_of_ble_eq_true rfl⟩) hD hS hA (fun u_37 H locs hw hP hD hS => ?_)
              obtain ⟨r_37, f_37⟩ := u_37
              obtain ⟨hI, hF_37, h01_37⟩ : IN jn cI cR cM g L S f_37 ∧ FR S [0, 1] f_22 f_37 ∧ (r_37.toInt = 0 ∨ r_37.toInt = 1) := hw
              have hP : va_P D vwCl (va_pl L f_37) H := hP
              have hD : va_D A (va_pl L f_37) := hD
              have hF := FR_tr hF hF_37 (by decide)
              have hTK_37 : TK g cI f_37 := TK_fr (f := f_22) (by assumption) hG hF_37 (by decide)
              have fb_38 : f_37 (g 13) = .inr (4, [.int (nI jn), .ref (g 14), .ref (g 12), .ref (g 22), .ref (g 34), .ref (g 23), .ref (g 24), .ref (g 25), .ref (g 26), .int fa_28, .int pl_28]) := FR_at hF_37 (gs_13 hG) (show (13 : Nat) ∉ ([0, 1] : List Nat) by decide) fg_28
              have fb_39 : f_37 (g 23) = .inl (cR, 8, .inr (.inr (.inr (.inr c_29)))) := FR_at hF_37 (gs_23 hG) (show (23 : Nat) ∉ ([0, 1] : List Nat) by decide) fg_29
              have fb_40 : f_37 (g 22) = .inl (cR, 6, .inr (.inr (.inr (.inr c_31)))) := FR_at hF_37 (gs_22 hG) (show (22 : Nat) ∉ ([0, 1] : List Nat) by decide) fg_31
              refine a_if_eq (u := r_37.toInt) (tgt := 83) hx hb dX4_readRow_76 (by decide) (rfl) (fun c_41 => ?_) (fun c_41 => ?_)
              · refine lv_iconst (v := 0) hx hb dX4_readRow_83 (by decide) ?_
                have hz_42 : (0 : Int32).toInt = 0 := by decide
                exact g_zret ((0 : Int32), f_37) hx hb hr hlocks hS (by first | exact Or.inl rfl | exact Or.inr rfl) rfl (⟨hI, hF, show TK g cI f_37 from (by first | assumption | omega), show (0 : Int32).toInt = 0 ∨ (0 : Int32).toInt = 1 from (by first | assumption | omega)⟩) hP hD hQ (Nat.le_of_ble_eq_true rfl) (Nat.le_of_ble_eq_true rfl) dX4_readRow_84
              · refine lv_iconst (v := 1) hx hb dX4_readRow_79 (by decide) ?_
                refine lv_goto (tgt := 84) hx hb dX4_readRow_80 (by decide) ?_
                have hz_43 : (1 : Int32).toInt = 1 := by decide
                exact g_zret ((1 : Int32), f_37) hx hb hr hlocks hS (by first | exact Or.inl rfl | exact Or.inr rfl) rfl (⟨hI, hF, show TK g cI f_37 from (by first | assumption | omega), show (1 : Int32).toInt = 0 ∨ (1 : Int32).toInt = 1 from (by first | assumption | omega)⟩) hP hD hQ (Nat.le_of_ble_eq_true rfl) (Nat.le_of_ble_eq_true rfl) dX4_readRow_84
        · refine lv_iconst (v := 0) hx hb dX4_readRow_49 (by decide) ?_
          have hz_44 : (0 : Int32).toInt = 0 := by decide
          exact g_zret ((0 : Int32), f_22) hx hb hr hlocks hS (by first | exact Or.inl rfl | exact Or.inr rfl) rfl (⟨hI, hF, show TK g cI f_22 from (by first | assumption | omega), show (0 : Int32).toInt = 0 ∨ (0 : Int32).toInt = 1 from (by first | assumption | omega)⟩) hP hD hQ (Nat.le_of_ble_eq_true rfl) (Nat.le_of_ble_eq_true rfl) dX4_readRow_50
