theorem dX0_turnPage_0 : decode cX0_turnPage 0 = .ok (.aload_n 0, 1) := by decide +kernel
theorem dX0_turnPage_1 : decode cX0_turnPage 1 = .ok (.invokevirtual 27, 3) := by decide +kernel
theorem dX0_turnPage_4 : decode cX0_turnPage 4 = .ok (.ifCond .eq 4, 3) := by decide +kernel
theorem dX0_turnPage_8 : decode cX0_turnPage 8 = .ok (.iconst 0, 1) := by decide +kernel
theorem dX0_turnPage_9 : decode cX0_turnPage 9 = .ok (.istore_n 1, 1) := by decide +kernel
theorem dX0_turnPage_10 : decode cX0_turnPage 10 = .ok (.iload_n 1, 1) := by decide +kernel
theorem dX0_turnPage_11 : decode cX0_turnPage 11 = .ok (.bipush 8, 2) := by decide +kernel
theorem dX0_turnPage_13 : decode cX0_turnPage 13 = .ok (.if_icmp .ge 39, 3) := by decide +kernel
theorem dX0_turnPage_16 : decode cX0_turnPage 16 = .ok (.aload_n 0, 1) := by decide +kernel
theorem dX0_turnPage_17 : decode cX0_turnPage 17 = .ok (.getfield 11, 3) := by decide +kernel
theorem dX0_turnPage_20 : decode cX0_turnPage 20 = .ok (.aload_n 0, 1) := by decide +kernel
theorem dX0_turnPage_21 : decode cX0_turnPage 21 = .ok (.getfield 23, 3) := by decide +kernel
theorem dX0_turnPage_24 : decode cX0_turnPage 24 = .ok (.iconst 1, 1) := by decide +kernel
theorem dX0_turnPage_25 : decode cX0_turnPage 25 = .ok (.iadd, 1) := by decide +kernel
theorem dX0_turnPage_26 : decode cX0_turnPage 26 = .ok (.bipush 8, 2) := by decide +kernel
theorem dX0_turnPage_28 : decode cX0_turnPage 28 = .ok (.imul, 1) := by decide +kernel
theorem dX0_turnPage_29 : decode cX0_turnPage 29 = .ok (.iload_n 1, 1) := by decide +kernel
theorem dX0_turnPage_30 : decode cX0_turnPage 30 = .ok (.iadd, 1) := by decide +kernel
theorem dX0_turnPage_31 : decode cX0_turnPage 31 = .ok (.aload_n 0, 1) := by decide +kernel
theorem dX0_turnPage_32 : decode cX0_turnPage 32 = .ok (.getfield 11, 3) := by decide +kernel
theorem dX0_turnPage_35 : decode cX0_turnPage 35 = .ok (.aload_n 0, 1) := by decide +kernel
theorem dX0_turnPage_36 : decode cX0_turnPage 36 = .ok (.getfield 23, 3) := by decide +kernel
theorem dX0_turnPage_39 : decode cX0_turnPage 39 = .ok (.bipush 8, 2) := by decide +kernel
theorem dX0_turnPage_41 : decode cX0_turnPage 41 = .ok (.imul, 1) := by decide +kernel
theorem dX0_turnPage_42 : decode cX0_turnPage 42 = .ok (.iload_n 1, 1) := by decide +kernel
theorem dX0_turnPage_43 : decode cX0_turnPage 43 = .ok (.iadd, 1) := by decide +kernel
theorem dX0_turnPage_44 : decode cX0_turnPage 44 = .ok (.aaload, 1) := by decide +kernel
theorem dX0_turnPage_45 : decode cX0_turnPage 45 = .ok (.aastore, 1) := by decide +kernel
theorem dX0_turnPage_46 : decode cX0_turnPage 46 = .ok (.iinc 1 1, 3) := by decide +kernel
theorem dX0_turnPage_49 : decode cX0_turnPage 49 = .ok (.goto (-39), 3) := by decide +kernel
theorem dX0_turnPage_52 : decode cX0_turnPage 52 = .ok (.aload_n 0, 1) := by decide +kernel
theorem dX0_turnPage_53 : decode cX0_turnPage 53 = .ok (.getfield 19, 3) := by decide +kernel
theorem dX0_turnPage_56 : decode cX0_turnPage 56 = .ok (.aload_n 0, 1) := by decide +kernel
theorem dX0_turnPage_57 : decode cX0_turnPage 57 = .ok (.getfield 23, 3) := by decide +kernel
theorem dX0_turnPage_60 : decode cX0_turnPage 60 = .ok (.iconst 1, 1) := by decide +kernel
theorem dX0_turnPage_61 : decode cX0_turnPage 61 = .ok (.iadd, 1) := by decide +kernel
theorem dX0_turnPage_62 : decode cX0_turnPage 62 = .ok (.aload_n 0, 1) := by decide +kernel
theorem dX0_turnPage_63 : decode cX0_turnPage 63 = .ok (.getfield 19, 3) := by decide +kernel
theorem dX0_turnPage_66 : decode cX0_turnPage 66 = .ok (.aload_n 0, 1) := by decide +kernel
theorem dX0_turnPage_67 : decode cX0_turnPage 67 = .ok (.getfield 23, 3) := by decide +kernel
theorem dX0_turnPage_70 : decode cX0_turnPage 70 = .ok (.aaload, 1) := by decide +kernel
theorem dX0_turnPage_71 : decode cX0_turnPage 71 = .ok (.aastore, 1) := by decide +kernel
theorem dX0_turnPage_72 : decode cX0_turnPage 72 = .ok (.aload_n 0, 1) := by decide +kernel
theorem dX0_turnPage_73 : decode cX0_turnPage 73 = .ok (.dup, 1) := by decide +kernel
theorem dX0_turnPage_74 : decode cX0_turnPage 74 = .ok (.getfield 23, 3) := by decide +kernel
theorem dX0_turnPage_77 : decode cX0_turnPage 77 = .ok (.iconst 1, 1) := by decide +kernel
theorem dX0_turnPage_78 : decode cX0_turnPage 78 = .ok (.iadd, 1) := by decide +kernel
theorem dX0_turnPage_79 : decode cX0_turnPage 79 = .ok (.putfield 23, 3) := by decide +kernel
theorem dX0_turnPage_82 : decode cX0_turnPage 82 = .ok (.aload_n 0, 1) := by decide +kernel
theorem dX0_turnPage_83 : decode cX0_turnPage 83 = .ok (.aload_n 0, 1) := by decide +kernel
theorem dX0_turnPage_84 : decode cX0_turnPage 84 = .ok (.getfield 23, 3) := by decide +kernel
theorem dX0_turnPage_87 : decode cX0_turnPage 87 = .ok (.putfield 31, 3) := by decide +kernel
theorem dX0_turnPage_90 : decode cX0_turnPage 90 = .ok (.return_, 1) := by decide +kernel
theorem dX4_readTape_0 : decode cX4_readTape 0 = .ok (.aload_n 0, 1) := by decide +kernel
theorem dX4_readTape_1 : decode cX4_readTape 1 = .ok (.iconst 0, 1) := by decide +kernel
theorem dX4_readTape_2 : decode cX4_readTape 2 = .ok (.putfield 31, 3) := by decide +kernel
theorem dX4_readTape_5 : decode cX4_readTape 5 = .ok (.aload_n 0, 1) := by decide +kernel
theorem dX4_readTape_6 : decode cX4_readTape 6 = .ok (.iconst (-1), 1) := by decide +kernel
theorem dX4_readTape_7 : decode cX4_readTape 7 = .ok (.putfield 35, 3) := by decide +kernel
theorem dX4_readTape_10 : decode cX4_readTape 10 = .ok (.aload_n 0, 1) := by decide +kernel
theorem dX4_readTape_11 : decode cX4_readTape 11 = .ok (.getfield 27, 3) := by decide +kernel
theorem dX4_readTape_14 : decode cX4_readTape 14 = .ok (.iconst 0, 1) := by decide +kernel
theorem dX4_readTape_15 : decode cX4_readTape 15 = .ok (.putfield 59, 3) := by decide +kernel
theorem dX4_readTape_18 : decode cX4_readTape 18 = .ok (.iconst 0, 1) := by decide +kernel
theorem dX4_readTape_19 : decode cX4_readTape 19 = .ok (.istore_n 1, 1) := by decide +kernel
theorem dX4_readTape_20 : decode cX4_readTape 20 = .ok (.iload_n 1, 1) := by decide +kernel
theorem dX4_readTape_21 : decode cX4_readTape 21 = .ok (.aload_n 0, 1) := by decide +kernel
theorem dX4_readTape_22 : decode cX4_readTape 22 = .ok (.getfield 21, 3) := by decide +kernel
theorem dX4_readTape_25 : decode cX4_readTape 25 = .ok (.arraylength, 1) := by decide +kernel
theorem dX4_readTape_26 : decode cX4_readTape 26 = .ok (.if_icmp .ge 19, 3) := by decide +kernel
theorem dX4_readTape_29 : decode cX4_readTape 29 = .ok (.aload_n 0, 1) := by decide +kernel
theorem dX4_readTape_30 : decode cX4_readTape 30 = .ok (.getfield 21, 3) := by decide +kernel
theorem dX4_readTape_33 : decode cX4_readTape 33 = .ok (.iload_n 1, 1) := by decide +kernel
theorem dX4_readTape_34 : decode cX4_readTape 34 = .ok (.aaload, 1) := by decide +kernel
theorem dX4_readTape_35 : decode cX4_readTape 35 = .ok (.iconst 0, 1) := by decide +kernel
theorem dX4_readTape_36 : decode cX4_readTape 36 = .ok (.putfield 62, 3) := by decide +kernel
theorem dX4_readTape_39 : decode cX4_readTape 39 = .ok (.iinc 1 1, 3) := by decide +kernel
theorem dX4_readTape_42 : decode cX4_readTape 42 = .ok (.goto (-22), 3) := by decide +kernel
theorem dX4_readTape_45 : decode cX4_readTape 45 = .ok (.aload_n 0, 1) := by decide +kernel
theorem dX4_readTape_46 : decode cX4_readTape 46 = .ok (.getfield 41, 3) := by decide +kernel
theorem dX4_readTape_49 : decode cX4_readTape 49 = .ok (.invokevirtual 65, 3) := by decide +kernel
theorem dX4_readTape_52 : decode cX4_readTape 52 = .ok (.iconst 0, 1) := by decide +kernel
theorem dX4_readTape_53 : decode cX4_readTape 53 = .ok (.istore_n 1, 1) := by decide +kernel
theorem dX4_readTape_54 : decode cX4_readTape 54 = .ok (.iload_n 1, 1) := by decide +kernel
theorem dX4_readTape_55 : decode cX4_readTape 55 = .ok (.sipush 300, 3) := by decide +kernel
theorem dX4_readTape_58 : decode cX4_readTape 58 = .ok (.if_icmp .gt 67, 3) := by decide +kernel
theorem dX4_readTape_61 : decode cX4_readTape 61 = .ok (.aload_n 0, 1) := by decide +kernel
theorem dX4_readTape_62 : decode cX4_readTape 62 = .ok (.getfield 41, 3) := by decide +kernel
theorem dX4_readTape_65 : decode cX4_readTape 65 = .ok (.getfield 70, 3) := by decide +kernel
theorem dX4_readTape_68 : decode cX4_readTape 68 = .ok (.ifCond .eq 57, 3) := by decide +kernel
theorem dX4_readTape_125 : decode cX4_readTape 125 = .ok (.iconst 1, 1) := by decide +kernel
theorem dX4_readTape_126 : decode cX4_readTape 126 = .ok (.ireturn, 1) := by decide +kernel
theorem dX4_tellAll_0 : decode cX4_tellAll 0 = .ok (.aload_n 0, 1) := by decide +kernel
theorem dX4_tellAll_1 : decode cX4_tellAll 1 = .ok (.getfield 45, 3) := by decide +kernel
theorem dX4_tellAll_4 : decode cX4_tellAll 4 = .ok (.invokevirtual 84, 3) := by decide +kernel
theorem dX4_tellAll_7 : decode cX4_tellAll 7 = .ok (.iconst 0, 1) := by decide +kernel
theorem dX4_tellAll_8 : decode cX4_tellAll 8 = .ok (.istore_n 1, 1) := by decide +kernel
theorem dX4_tellAll_9 : decode cX4_tellAll 9 = .ok (.iload_n 1, 1) := by decide +kernel
theorem dX4_tellAll_10 : decode cX4_tellAll 10 = .ok (.aload_n 0, 1) := by decide +kernel
theorem dX4_tellAll_11 : decode cX4_tellAll 11 = .ok (.getfield 21, 3) := by decide +kernel
theorem dX4_tellAll_14 : decode cX4_tellAll 14 = .ok (.arraylength, 1) := by decide +kernel
theorem dX4_tellAll_15 : decode cX4_tellAll 15 = .ok (.if_icmp .ge 38, 3) := by decide +kernel
theorem dX4_tellAll_18 : decode cX4_tellAll 18 = .ok (.aload_n 0, 1) := by decide +kernel
theorem dX4_tellAll_19 : decode cX4_tellAll 19 = .ok (.getfield 21, 3) := by decide +kernel
theorem dX4_tellAll_22 : decode cX4_tellAll 22 = .ok (.iload_n 1, 1) := by decide +kernel
theorem dX4_tellAll_23 : decode cX4_tellAll 23 = .ok (.aaload, 1) := by decide +kernel
theorem dX4_tellAll_24 : decode cX4_tellAll 24 = .ok (.getfield 62, 3) := by decide +kernel
theorem dX4_tellAll_27 : decode cX4_tellAll 27 = .ok (.ifCond .le 20, 3) := by decide +kernel
theorem dX4_tellAll_47 : decode cX4_tellAll 47 = .ok (.iinc 1 1, 3) := by decide +kernel
theorem dX4_tellAll_50 : decode cX4_tellAll 50 = .ok (.goto (-41), 3) := by decide +kernel
theorem dX4_tellAll_53 : decode cX4_tellAll 53 = .ok (.aload_n 0, 1) := by decide +kernel
theorem dX4_tellAll_54 : decode cX4_tellAll 54 = .ok (.getfield 27, 3) := by decide +kernel
theorem dX4_tellAll_57 : decode cX4_tellAll 57 = .ok (.getfield 59, 3) := by decide +kernel
theorem dX4_tellAll_60 : decode cX4_tellAll 60 = .ok (.ifCond .le 17, 3) := by decide +kernel
theorem dX4_tellAll_77 : decode cX4_tellAll 77 = .ok (.return_, 1) := by decide +kernel
theorem dX8_begin_0 : decode cX8_begin 0 = .ok (.aload_n 0, 1) := by decide +kernel
theorem dX8_begin_1 : decode cX8_begin 1 = .ok (.iconst 0, 1) := by decide +kernel
theorem dX8_begin_2 : decode cX8_begin 2 = .ok (.putfield 25, 3) := by decide +kernel
theorem dX8_begin_5 : decode cX8_begin 5 = .ok (.iconst 0, 1) := by decide +kernel
theorem dX8_begin_6 : decode cX8_begin 6 = .ok (.istore_n 1, 1) := by decide +kernel
theorem dX8_begin_7 : decode cX8_begin 7 = .ok (.iload_n 1, 1) := by decide +kernel
theorem dX8_begin_8 : decode cX8_begin 8 = .ok (.aload_n 0, 1) := by decide +kernel
theorem dX8_begin_9 : decode cX8_begin 9 = .ok (.getfield 21, 3) := by decide +kernel
theorem dX8_begin_12 : decode cX8_begin 12 = .ok (.getfield 29, 3) := by decide +kernel
theorem dX8_begin_15 : decode cX8_begin 15 = .ok (.if_icmp .ge 101, 3) := by decide +kernel
theorem dX8_begin_116 : decode cX8_begin 116 = .ok (.aload_n 0, 1) := by decide +kernel
theorem dX8_begin_117 : decode cX8_begin 117 = .ok (.iconst 0, 1) := by decide +kernel
theorem dX8_begin_118 : decode cX8_begin 118 = .ok (.iconst 0, 1) := by decide +kernel
theorem dX8_begin_119 : decode cX8_begin 119 = .ok (.aload_n 0, 1) := by decide +kernel
theorem dX8_begin_120 : decode cX8_begin 120 = .ok (.getfield 21, 3) := by decide +kernel
theorem dX8_begin_123 : decode cX8_begin 123 = .ok (.getfield 29, 3) := by decide +kernel
theorem dX8_begin_126 : decode cX8_begin 126 = .ok (.invokevirtual 46, 3) := by decide +kernel
theorem dX8_begin_129 : decode cX8_begin 129 = .ok (.aload_n 0, 1) := by decide +kernel
theorem dX8_begin_130 : decode cX8_begin 130 = .ok (.iconst 0, 1) := by decide +kernel
theorem dX8_begin_131 : decode cX8_begin 131 = .ok (.putfield 53, 3) := by decide +kernel
theorem dX8_begin_134 : decode cX8_begin 134 = .ok (.aload_n 0, 1) := by decide +kernel
theorem dX8_begin_135 : decode cX8_begin 135 = .ok (.iconst 0, 1) := by decide +kernel
theorem dX8_begin_136 : decode cX8_begin 136 = .ok (.putfield 56, 3) := by decide +kernel
theorem dX8_begin_139 : decode cX8_begin 139 = .ok (.aload_n 0, 1) := by decide +kernel
theorem dX8_begin_140 : decode cX8_begin 140 = .ok (.invokevirtual 59, 3) := by decide +kernel
theorem dX8_begin_143 : decode cX8_begin 143 = .ok (.return_, 1) := by decide +kernel
theorem dX8_advance_0 : decode cX8_advance 0 = .ok (.aload_n 0, 1) := by decide +kernel
theorem dX8_advance_1 : decode cX8_advance 1 = .ok (.aload_n 0, 1) := by decide +kernel
theorem dX8_advance_2 : decode cX8_advance 2 = .ok (.getfield 56, 3) := by decide +kernel
theorem dX8_advance_5 : decode cX8_advance 5 = .ok (.putfield 62, 3) := by decide +kernel
theorem dX8_advance_8 : decode cX8_advance 8 = .ok (.aload_n 0, 1) := by decide +kernel
theorem dX8_advance_9 : decode cX8_advance 9 = .ok (.getfield 53, 3) := by decide +kernel
theorem dX8_advance_12 : decode cX8_advance 12 = .ok (.aload_n 0, 1) := by decide +kernel
theorem dX8_advance_13 : decode cX8_advance 13 = .ok (.getfield 25, 3) := by decide +kernel
theorem dX8_advance_16 : decode cX8_advance 16 = .ok (.if_icmp .ge 52, 3) := by decide +kernel
theorem dX8_advance_19 : decode cX8_advance 19 = .ok (.aload_n 0, 1) := by decide +kernel
theorem dX8_advance_20 : decode cX8_advance 20 = .ok (.aload_n 0, 1) := by decide +kernel
theorem dX8_advance_21 : decode cX8_advance 21 = .ok (.getfield 9, 3) := by decide +kernel
theorem dX8_advance_24 : decode cX8_advance 24 = .ok (.aload_n 0, 1) := by decide +kernel
theorem dX8_advance_25 : decode cX8_advance 25 = .ok (.getfield 53, 3) := by decide +kernel
theorem dX8_advance_28 : decode cX8_advance 28 = .ok (.iaload, 1) := by decide +kernel
theorem dX8_advance_29 : decode cX8_advance 29 = .ok (.putfield 65, 3) := by decide +kernel
theorem dX8_advance_32 : decode cX8_advance 32 = .ok (.aload_n 0, 1) := by decide +kernel
theorem dX8_advance_33 : decode cX8_advance 33 = .ok (.aload_n 0, 1) := by decide +kernel
theorem dX8_advance_34 : decode cX8_advance 34 = .ok (.getfield 15, 3) := by decide +kernel
theorem dX8_advance_37 : decode cX8_advance 37 = .ok (.aload_n 0, 1) := by decide +kernel
theorem dX8_advance_38 : decode cX8_advance 38 = .ok (.getfield 53, 3) := by decide +kernel
theorem dX8_advance_41 : decode cX8_advance 41 = .ok (.iaload, 1) := by decide +kernel
theorem dX8_advance_42 : decode cX8_advance 42 = .ok (.putfield 68, 3) := by decide +kernel
theorem dX8_advance_45 : decode cX8_advance 45 = .ok (.aload_n 0, 1) := by decide +kernel
theorem dX8_advance_46 : decode cX8_advance 46 = .ok (.aload_n 0, 1) := by decide +kernel
theorem dX8_advance_47 : decode cX8_advance 47 = .ok (.getfield 18, 3) := by decide +kernel
theorem dX8_advance_50 : decode cX8_advance 50 = .ok (.aload_n 0, 1) := by decide +kernel
theorem dX8_advance_51 : decode cX8_advance 51 = .ok (.getfield 53, 3) := by decide +kernel
theorem dX8_advance_54 : decode cX8_advance 54 = .ok (.iaload, 1) := by decide +kernel
theorem dX8_advance_55 : decode cX8_advance 55 = .ok (.putfield 56, 3) := by decide +kernel
theorem dX8_advance_58 : decode cX8_advance 58 = .ok (.aload_n 0, 1) := by decide +kernel
theorem dX8_advance_59 : decode cX8_advance 59 = .ok (.dup, 1) := by decide +kernel
theorem dX8_advance_60 : decode cX8_advance 60 = .ok (.getfield 53, 3) := by decide +kernel
theorem dX8_advance_63 : decode cX8_advance 63 = .ok (.iconst 1, 1) := by decide +kernel
theorem dX8_advance_64 : decode cX8_advance 64 = .ok (.iadd, 1) := by decide +kernel
theorem dX8_advance_65 : decode cX8_advance 65 = .ok (.putfield 53, 3) := by decide +kernel
theorem dX8_advance_68 : decode cX8_advance 68 = .ok (.return_, 1) := by decide +kernel
theorem dX8_keep_0 : decode cX8_keep 0 = .ok (.aload_n 0, 1) := by decide +kernel
theorem dX8_keep_1 : decode cX8_keep 1 = .ok (.getfield 25, 3) := by decide +kernel
theorem dX8_keep_4 : decode cX8_keep 4 = .ok (.aload_n 0, 1) := by decide +kernel
theorem dX8_keep_5 : decode cX8_keep 5 = .ok (.getfield 9, 3) := by decide +kernel
theorem dX8_keep_8 : decode cX8_keep 8 = .ok (.arraylength, 1) := by decide +kernel
theorem dX8_keep_9 : decode cX8_keep 9 = .ok (.if_icmp .ge 43, 3) := by decide +kernel
theorem dX8_keep_12 : decode cX8_keep 12 = .ok (.aload_n 0, 1) := by decide +kernel
theorem dX8_keep_13 : decode cX8_keep 13 = .ok (.getfield 9, 3) := by decide +kernel
theorem dX8_keep_16 : decode cX8_keep 16 = .ok (.aload_n 0, 1) := by decide +kernel
theorem dX8_keep_17 : decode cX8_keep 17 = .ok (.getfield 25, 3) := by decide +kernel
theorem dX8_keep_20 : decode cX8_keep 20 = .ok (.iload_n 1, 1) := by decide +kernel
theorem dX8_keep_21 : decode cX8_keep 21 = .ok (.iastore, 1) := by decide +kernel
theorem dX8_keep_22 : decode cX8_keep 22 = .ok (.aload_n 0, 1) := by decide +kernel
theorem dX8_keep_23 : decode cX8_keep 23 = .ok (.getfield 15, 3) := by decide +kernel
theorem dX8_keep_26 : decode cX8_keep 26 = .ok (.aload_n 0, 1) := by decide +kernel
theorem dX8_keep_27 : decode cX8_keep 27 = .ok (.getfield 25, 3) := by decide +kernel
theorem dX8_keep_30 : decode cX8_keep 30 = .ok (.iload_n 2, 1) := by decide +kernel
theorem dX8_keep_31 : decode cX8_keep 31 = .ok (.iastore, 1) := by decide +kernel
theorem dX8_keep_32 : decode cX8_keep 32 = .ok (.aload_n 0, 1) := by decide +kernel
theorem dX8_keep_33 : decode cX8_keep 33 = .ok (.getfield 18, 3) := by decide +kernel
theorem dX8_keep_36 : decode cX8_keep 36 = .ok (.aload_n 0, 1) := by decide +kernel
theorem dX8_keep_37 : decode cX8_keep 37 = .ok (.getfield 25, 3) := by decide +kernel
theorem dX8_keep_40 : decode cX8_keep 40 = .ok (.iload_n 3, 1) := by decide +kernel
theorem dX8_keep_41 : decode cX8_keep 41 = .ok (.iastore, 1) := by decide +kernel
theorem dX8_keep_42 : decode cX8_keep 42 = .ok (.aload_n 0, 1) := by decide +kernel
theorem dX8_keep_43 : decode cX8_keep 43 = .ok (.dup, 1) := by decide +kernel
theorem dX8_keep_44 : decode cX8_keep 44 = .ok (.getfield 25, 3) := by decide +kernel
theorem dX8_keep_47 : decode cX8_keep 47 = .ok (.iconst 1, 1) := by decide +kernel
theorem dX8_keep_48 : decode cX8_keep 48 = .ok (.iadd, 1) := by decide +kernel
theorem dX8_keep_49 : decode cX8_keep 49 = .ok (.putfield 25, 3) := by decide +kernel
theorem dX8_keep_52 : decode cX8_keep 52 = .ok (.return_, 1) := by decide +kernel
theorem dX10_text_0 : decode cX10_text 0 = .ok (.aload_n 0, 1) := by decide +kernel
theorem dX10_text_1 : decode cX10_text 1 = .ok (.getfield 32, 3) := by decide +kernel
theorem dX10_text_4 : decode cX10_text 4 = .ok (.invokevirtual 89, 3) := by decide +kernel
theorem dX10_text_7 : decode cX10_text 7 = .ok (.ifCond .eq 5, 3) := by decide +kernel
theorem dX10_text_12 : decode cX10_text 12 = .ok (.aload_n 0, 1) := by decide +kernel
theorem dX10_text_13 : decode cX10_text 13 = .ok (.getfield 46, 3) := by decide +kernel
theorem dX10_text_16 : decode cX10_text 16 = .ok (.invokevirtual 93, 3) := by decide +kernel
theorem dX10_text_19 : decode cX10_text 19 = .ok (.istore_n 1, 1) := by decide +kernel
theorem dX10_text_20 : decode cX10_text 20 = .ok (.aload_n 0, 1) := by decide +kernel
theorem dX10_text_21 : decode cX10_text 21 = .ok (.getfield 25, 3) := by decide +kernel
theorem dX10_text_24 : decode cX10_text 24 = .ok (.iconst 0, 1) := by decide +kernel
theorem dX10_text_25 : decode cX10_text 25 = .ok (.putfield 86, 3) := by decide +kernel
theorem dX10_text_28 : decode cX10_text 28 = .ok (.iload_n 1, 1) := by decide +kernel
theorem dX10_text_29 : decode cX10_text 29 = .ok (.ifCond .ne 5, 3) := by decide +kernel
theorem dX10_text_34 : decode cX10_text 34 = .ok (.aload_n 0, 1) := by decide +kernel
theorem dX10_text_35 : decode cX10_text 35 = .ok (.getfield 46, 3) := by decide +kernel
theorem dX10_text_38 : decode cX10_text 38 = .ok (.invokevirtual 96, 3) := by decide +kernel
theorem dX10_text_41 : decode cX10_text 41 = .ok (.aload_n 0, 1) := by decide +kernel
theorem dX10_text_42 : decode cX10_text 42 = .ok (.getfield 32, 3) := by decide +kernel
theorem dX10_text_45 : decode cX10_text 45 = .ok (.getfield 99, 3) := by decide +kernel
theorem dX10_text_48 : decode cX10_text 48 = .ok (.ireturn, 1) := by decide +kernel
set_option maxRecDepth 20000 in
theorem ggX0_turnPage_X0_isFull : GoodIn wsX0_turnPage wsX0_isFull := goodIn_r _ [9, 2, 10, 11, 12, 13] (by decide +kernel) (by decide +kernel)
set_option maxRecDepth 20000 in
theorem gX0_turnPage_X0_isFull : GoodIn wsX0_turnPage (wsV RX0 27 RX0 yX0_isFull wsX0_isFull) := goodIn_app (goodIn_of _ (by decide +kernel)) ggX0_turnPage_X0_isFull
set_option maxRecDepth 20000 in
theorem ggX4_readTape_X8_begin : GoodIn wsX4_readTape wsX8_begin := goodIn_r _ [10, 11, 12, 13, 14, 15, 16, 17, 18, 19, 20, 21, 22, 23, 9, 24, 25, 26, 27, 28, 29, 30, 31, 32, 33, 34, 35, 36, 37, 38, 39, 40, 41, 42, 43, 44, 45, 46, 47, 48, 49, 50, 51, 52, 53, 54, 55, 56, 57, 58, 59, 60, 61, 62, 63, 64, 65, 66, 67, 68, 69, 70, 71, 72, 73, 74, 75, 76, 77, 78, 79, 80, 81, 82, 83, 84, 85, 86, 87, 88, 89, 90, 91, 92, 93, 94, 95, 96, 97, 98, 99, 100, 101, 102, 103, 104, 105, 106, 107, 108, 109, 110, 111, 112, 113, 114, 115, 116, 117, 118, 119, 120, 121, 122, 123, 124, 125, 126, 127, 128, 129, 130, 131, 132, 133, 134, 135, 136, 137, 138, 139, 140, 141, 142, 143, 144, 145, 146, 147, 148, 149, 150, 151, 152, 153, 154, 155, 156, 157, 158, 159, 341, 342, 343, 344, 345, 346, 347, 348, 349, 350, 351, 352] (by decide +kernel) (by decide +kernel)
set_option maxRecDepth 20000 in
theorem gX4_readTape_X8_begin : GoodIn wsX4_readTape (wsV RX4 65 RX8 yX8_begin wsX8_begin) := goodIn_app (goodIn_of _ (by decide +kernel)) ggX4_readTape_X8_begin
set_option maxRecDepth 20000 in
theorem ggX4_tellAll_X0_turnPage : GoodIn wsX4_tellAll wsX0_turnPage := goodIn_r _ [8, 9, 10, 11, 12, 13, 14, 15, 7, 16, 93, 94, 95, 96] (by decide +kernel) (by decide +kernel)
set_option maxRecDepth 20000 in
theorem gX4_tellAll_X0_turnPage : GoodIn wsX4_tellAll (wsV RX4 84 RX0 yX0_turnPage wsX0_turnPage) := goodIn_app (goodIn_of _ (by decide +kernel)) ggX4_tellAll_X0_turnPage
set_option maxRecDepth 20000 in
theorem ggX8_begin_X8_keep : GoodIn wsX8_begin wsX8_keep := goodIn_r _ [76, 1, 77, 78, 79, 151, 152, 153, 154, 155, 156, 157, 158, 159, 160] (by decide +kernel) (by decide +kernel)
set_option maxRecDepth 20000 in
theorem gX8_begin_X8_keep : GoodIn wsX8_begin (wsV RX8 46 RX8 yX8_keep wsX8_keep) := goodIn_app (goodIn_of _ (by decide +kernel)) ggX8_begin_X8_keep
set_option maxRecDepth 20000 in
theorem ggX8_begin_X8_advance : GoodIn wsX8_begin wsX8_advance := goodIn_r _ [147, 4, 148, 3, 1, 77, 149, 78, 150, 79, 151, 152, 153, 154, 155, 156, 157, 158, 159, 160] (by decide +kernel) (by decide +kernel)
set_option maxRecDepth 20000 in
theorem gX8_begin_X8_advance : GoodIn wsX8_begin (wsV RX8 59 RX8 yX8_advance wsX8_advance) := goodIn_app (goodIn_of _ (by decide +kernel)) ggX8_begin_X8_advance
set_option maxRecDepth 20000 in
theorem ggX10_text_X0_isFull : GoodIn wsX10_text wsX0_isFull := goodIn_r _ [8, 9, 389, 390, 391, 392] (by decide +kernel) (by decide +kernel)
set_option maxRecDepth 20000 in
theorem gX10_text_X0_isFull : GoodIn wsX10_text (wsV RX10 89 RX0 yX0_isFull wsX0_isFull) := goodIn_app (goodIn_of _ (by decide +kernel)) ggX10_text_X0_isFull
set_option maxRecDepth 20000 in
theorem ggX10_text_X4_readTape : GoodIn wsX10_text wsX4_readTape := goodIn_r _ [14, 15, 16, 17, 18, 19, 20, 21, 22, 23, 24, 25, 26, 27, 28, 29, 30, 31, 32, 33, 34, 35, 36, 37, 38, 39, 40, 41, 42, 43, 44, 45, 46, 47, 48, 49, 50, 51, 52, 53, 54, 55, 56, 57, 58, 59, 60, 61, 62, 63, 64, 65, 66, 67, 68, 69, 70, 71, 72, 73, 74, 75, 76, 77, 78, 79, 80, 81, 82, 83, 84, 85, 86, 87, 88, 89, 90, 91, 92, 93, 94, 95, 96, 97, 98, 99, 100, 101, 102, 103, 104, 105, 106, 107, 108, 109, 110, 111, 112, 113, 114, 115, 116, 117, 118, 119, 120, 121, 122, 123, 124, 125, 126, 127, 128, 129, 130, 131, 132, 133, 134, 135, 136, 137, 138, 139, 140, 141, 142, 143, 144, 145, 146, 147, 148, 149, 150, 151, 152, 153, 154, 155, 156, 157, 158, 159, 160, 161, 162, 163, 164, 165, 166, 167, 168, 169, 170, 171, 172, 173, 174, 175, 176, 13, 177, 178, 179, 180, 181, 182, 183, 184, 185, 186, 187, 188, 189, 190, 191, 192, 193, 194, 195, 196, 197, 198, 199, 200, 201, 202, 203, 204, 205, 206, 207, 208, 209, 210, 211, 212, 213, 214, 215, 216, 217, 218, 219, 220, 221, 222, 223, 224, 7, 225, 9, 226, 227, 228, 229, 230, 231, 232, 233, 234, 235, 236, 237, 238, 239, 240, 241, 242, 243, 244, 245, 246, 247, 248, 249, 250, 251, 252, 253, 254, 255, 256, 257, 258, 259, 260, 261, 262, 263, 264, 265, 266, 267, 268, 269, 270, 271, 272, 273, 274, 275, 276, 277, 278, 279, 280, 281, 282, 283, 284, 285, 286, 287, 288, 289, 290, 291, 292, 293, 294, 295, 296, 297, 298, 299, 300, 301, 302, 303, 304, 305, 306, 307, 308, 309, 310, 311, 312, 313, 314, 315, 316, 317, 318, 319, 320, 321, 322, 323, 324, 325, 326, 327, 328, 329, 330, 331, 332, 333, 334, 393, 394, 395, 396, 397, 398, 399, 400, 401, 402, 403, 404, 405, 406, 407, 408, 409, 410, 411, 412, 413, 414, 415, 416, 417, 418, 419, 387, 388, 389, 390, 391, 392] (by decide +kernel) (by decide +kernel)
set_option maxRecDepth 20000 in
theorem gX10_text_X4_readTape : GoodIn wsX10_text (wsV RX10 93 RX4 yX4_readTape wsX4_readTape) := goodIn_app (goodIn_of _ (by decide +kernel)) ggX10_text_X4_readTape
set_option maxRecDepth 20000 in
theorem ggX10_text_X4_tellAll : GoodIn wsX10_text wsX4_tellAll := goodIn_r _ [338, 221, 18, 17, 339, 340, 341, 7, 342, 230, 9, 343, 344, 345, 5, 6, 8, 346, 347, 348, 207, 349, 350, 351, 306, 209, 352, 353, 354, 355, 356, 357, 245, 119, 120, 121, 210, 358, 211, 359, 321, 322, 323, 319, 205, 206, 208, 212, 213, 214, 215, 360, 361, 362, 363, 364, 365, 366, 331, 367, 368, 369, 333, 334, 370, 371, 372, 373, 374, 329, 330, 332, 375, 376, 377, 378, 393, 394, 395, 396, 397, 398, 399, 400, 401, 402, 403, 406, 407, 408, 409, 404, 405, 389, 390, 391, 392] (by decide +kernel) (by decide +kernel)
set_option maxRecDepth 20000 in
theorem gX10_text_X4_tellAll : GoodIn wsX10_text (wsV RX10 96 RX4 yX4_tellAll wsX4_tellAll) := goodIn_app (goodIn_of _ (by decide +kernel)) ggX10_text_X4_tellAll
set_option maxRecDepth 100000 in
set_option maxHeartbeats 4000000 in
theorem c_keep (l : Launch) (D : va_G) (cI cR cM : ClassId) (sz : Nat) (tk tp t1 t2 t3 : Nat) : Met l yX8_keep wsX8_keep ({ frames := 0, cells := 0, slots := 0, locals := 0 }) (P0 D cI cR cM [.ref tk, .int 0, .int 0, .int 0] sz [(tk, .inr (8, [.ref tp, .ref t1, .ref t2, .ref t3, .int 0, .int 0, .int 0, .int 0, .int 0, .int 0])), (t1, .inl (cI, 301, .inl (fun _ => 0))), (t2, .inl (cI, 301, .inl (fun _ => 0))), (t3, .inl (cI, 301, .inl (fun _ => 0)))]) (QG (S := Unit) (fun _ => none) (fun _ => [(tk, .inr (8, [.ref tp, .ref t1, .ref t2, .ref t3, .int 1, .int 0, .int 0, .int 0, .int 0, .int 0])), (t1, .inl (cI, 301, .inl (upd (fun _ => 0) 0 0))), (t2, .inl (cI, 301, .inl (upd (fun _ => 0) 0 0))), (t3, .inl (cI, 301, .inl (upd (fun _ => 0) 0 0)))]) (fun _ => True) D (va_A [(tk, .inr (8, [.ref tp, .ref t1, .ref t2, .ref t3, .int 0, .int 0, .int 0, .int 0, .int 0, .int 0])), (t1, .inl (cI, 301, .inl (fun _ => 0))), (t2, .inl (cI, 301, .inl (fun _ => 0))), (t3, .inl (cI, 301, .inl (fun _ => 0)))] sz)) 0 0 (va_A [(tk, .inr (8, [.ref tp, .ref t1, .ref t2, .ref t3, .int 0, .int 0, .int 0, .int 0, .int 0, .int 0])), (t1, .inl (cI, 301, .inl (fun _ => 0))), (t2, .inl (cI, 301, .inl (fun _ => 0))), (t3, .inl (cI, 301, .inl (fun _ => 0)))] sz) := by
  refine go (cc := cX8_keep) (maxL := 4) (ret := none) (by decide) rfl (Nat.le_of_ble_eq_true rfl) ?_
  intro p e s m below meth c ls args Q hQ hsz hx hb hr hml hts hown hlocks hnm hP hK hD hl
  subst hsz
  have hD := hD.self (sz := s.heap.size)
  generalize hAe : va_A [(tk, .inr (8, [.ref tp, .ref t1, .ref t2, .ref t3, .int 0, .int 0, .int 0, .int 0, .int 0, .int 0])), (t1, .inl (cI, 301, .inl (fun _ => 0))), (t2, .inl (cI, 301, .inl (fun _ => 0))), (t3, .inl (cI, 301, .inl (fun _ => 0)))] s.heap.size = A at hD hQ
  have hA : ∀ q, s.heap.size ≤ q → A q := fun q h => by rw [← hAe]; exact Or.inr h
  have hS : va_S A s.heap s.heap [] := va_S.rf
  have hl : lv_has ls 4 [(0, .ref tk), (1, .int 0), (2, .int 0), (3, .int 0)] := hl
  refine lv_aload_n hx hb dX8_keep_0 rfl (lv_at hl 0 rfl) ?_
  refine va_get (D := D) (ci := 8) (v := .int 0) (C := RX8) (T := TX8) (N := 10) hx hb hts (by decide +kernel) hown hK.1 hP 0 rfl rfl 4 (by decide) (hts (.fieldLink RX8 25 "JugglingHall$Tokens" "count" "I") (by decide +kernel)) (fun _ h9 => h9) rfl dX8_keep_1 ?_
  refine lv_aload_n hx hb dX8_keep_4 rfl (lv_at hl 0 rfl) ?_
  refine va_get (D := D) (ci := 8) (v := .ref t1) (C := RX8) (T := TX8) (N := 10) hx hb hts (by decide +kernel) hown hK.1 hP 0 rfl rfl 1 (by decide) (hts (.fieldLink RX8 9 "JugglingHall$Tokens" "kinds" "[I") (by decide +kernel)) (fun _ h9 => h9) rfl dX8_keep_5 ?_
  refine va_alen (v := nI 301) hx hb hK.1 hP 1 0 rfl rfl rfl dX8_keep_8 ?_
  refine lv_icmp_ge (tgt := 52) hx hb dX8_keep_9 (by decide) (fun c9 => absurd c9 (by decide)) (fun c9 => ?_)
  refine lv_aload_n hx hb dX8_keep_12 rfl (lv_at hl 0 rfl) ?_
  refine va_get (D := D) (ci := 8) (v := .ref t1) (C := RX8) (T := TX8) (N := 10) hx hb hts (by decide +kernel) hown hK.1 hP 0 rfl rfl 1 (by decide) (hts (.fieldLink RX8 9 "JugglingHall$Tokens" "kinds" "[I") (by decide +kernel)) (fun _ h9 => h9) rfl dX8_keep_13 ?_
  refine lv_aload_n hx hb dX8_keep_16 rfl (lv_at hl 0 rfl) ?_
  refine va_get (D := D) (ci := 8) (v := .int 0) (C := RX8) (T := TX8) (N := 10) hx hb hts (by decide +kernel) hown hK.1 hP 0 rfl rfl 4 (by decide) (hts (.fieldLink RX8 25 "JugglingHall$Tokens" "count" "I") (by decide +kernel)) (fun _ h9 => h9) rfl dX8_keep_17 ?_
  refine lv_iload_n hx hb dX8_keep_20 rfl (lv_at hl 1 rfl) ?_
  refine ast_n (k := 0) hx hb hK.1 hP hD hS 1 0 rfl rfl (by decide) (by decide) dX8_keep_21 (fun H locs hP hD hS => ?_)
  have hP : va_P D vwCl [(tk, .inr (8, [.ref tp, .ref t1, .ref t2, .ref t3, .int 0, .int 0, .int 0, .int 0, .int 0, .int 0])), (t1, .inl (cI, 301, .inl (upd (fun _ => 0) 0 0))), (t2, .inl (cI, 301, .inl (fun _ => 0))), (t3, .inl (cI, 301, .inl (fun _ => 0)))] H := hP
  have hD : va_D A [(tk, .inr (8, [.ref tp, .ref t1, .ref t2, .ref t3, .int 0, .int 0, .int 0, .int 0, .int 0, .int 0])), (t1, .inl (cI, 301, .inl (upd (fun _ => 0) 0 0))), (t2, .inl (cI, 301, .inl (fun _ => 0))), (t3, .inl (cI, 301, .inl (fun _ => 0)))] := hD
  refine lv_aload_n hx hb dX8_keep_22 rfl (lv_at hl 0 rfl) ?_
  refine va_get (D := D) (ci := 8) (v := .ref t2) (C := RX8) (T := TX8) (N := 10) hx hb hts (by decide +kernel) hown hK.1 hP 0 rfl rfl 2 (by decide) (hts (.fieldLink RX8 15 "JugglingHall$Tokens" "values" "[I") (by decide +kernel)) (fun _ h9 => h9) rfl dX8_keep_23 ?_
  refine lv_aload_n hx hb dX8_keep_26 rfl (lv_at hl 0 rfl) ?_
  refine va_get (D := D) (ci := 8) (v := .int 0) (C := RX8) (T := TX8) (N := 10) hx hb hts (by decide +kernel) hown hK.1 hP 0 rfl rfl 4 (by decide) (hts (.fieldLink RX8 25 "JugglingHall$Tokens" "count" "I") (by decide +kernel)) (fun _ h9 => h9) rfl dX8_keep_27 ?_
  refine lv_iload_n hx hb dX8_keep_30 rfl (lv_at hl 2 rfl) ?_
  refine ast_n (k := 0) hx hb hK.1 hP hD hS 2 0 rfl rfl (by decide) (by decide) dX8_keep_31 (fun H locs hP hD hS => ?_)
  have hP : va_P D vwCl [(tk, .inr (8, [.ref tp, .ref t1, .ref t2, .ref t3, .int 0, .int 0, .int 0, .int 0, .int 0, .int 0])), (t1, .inl (cI, 301, .inl (upd (fun _ => 0) 0 0))), (t2, .inl (cI, 301, .inl (upd (fun _ => 0) 0 0))), (t3, .inl (cI, 301, .inl (fun _ => 0)))] H := hP
  have hD : va_D A [(tk, .inr (8, [.ref tp, .ref t1, .ref t2, .ref t3, .int 0, .int 0, .int 0, .int 0, .int 0, .int 0])), (t1, .inl (cI, 301, .inl (upd (fun _ => 0) 0 0))), (t2, .inl (cI, 301, .inl (upd (fun _ => 0) 0 0))), (t3, .inl (cI, 301, .inl (fun _ => 0)))] := hD
  refine lv_aload_n hx hb dX8_keep_32 rfl (lv_at hl 0 rfl) ?_
  refine va_get (D := D) (ci := 8) (v := .ref t3) (C := RX8) (T := TX8) (N := 10) hx hb hts (by decide +kernel) hown hK.1 hP 0 rfl rfl 3 (by decide) (hts (.fieldLink RX8 18 "JugglingHall$Tokens" "starts" "[I") (by decide +kernel)) (fun _ h9 => h9) rfl dX8_keep_33 ?_
  refine lv_aload_n hx hb dX8_keep_36 rfl (lv_at hl 0 rfl) ?_
  refine va_get (D := D) (ci := 8) (v := .int 0) (C := RX8) (T := TX8) (N := 10) hx hb hts (by decide +kernel) hown hK.1 hP 0 rfl rfl 4 (by decide) (hts (.fieldLink RX8 25 "JugglingHall$Tokens" "count" "I") (by decide +kernel)) (fun _ h9 => h9) rfl dX8_keep_37 ?_
  refine lv_iload_n hx hb dX8_keep_40 rfl (lv_at hl 3 rfl) ?_
  refine ast_n (k := 0) hx hb hK.1 hP hD hS 3 0 rfl rfl (by decide) (by decide) dX8_keep_41 (fun H locs hP hD hS => ?_)
  have hP : va_P D vwCl [(tk, .inr (8, [.ref tp, .ref t1, .ref t2, .ref t3, .int 0, .int 0, .int 0, .int 0, .int 0, .int 0])), (t1, .inl (cI, 301, .inl (upd (fun _ => 0) 0 0))), (t2, .inl (cI, 301, .inl (upd (fun _ => 0) 0 0))), (t3, .inl (cI, 301, .inl (upd (fun _ => 0) 0 0)))] H := hP
  have hD : va_D A [(tk, .inr (8, [.ref tp, .ref t1, .ref t2, .ref t3, .int 0, .int 0, .int 0, .int 0, .int 0, .int 0])), (t1, .inl (cI, 301, .inl (upd (fun _ => 0) 0 0))), (t2, .inl (cI, 301, .inl (upd (fun _ => 0) 0 0))), (t3, .inl (cI, 301, .inl (upd (fun _ => 0) 0 0)))] := hD
  refine lv_aload_n hx hb dX8_keep_42 rfl (lv_at hl 0 rfl) ?_
  refine lv_dup hx hb dX8_keep_43 rfl ?_
  refine va_get (D := D) (ci := 8) (v := .int 0) (C := RX8) (T := TX8) (N := 10) hx hb hts (by decide +kernel) hown hK.1 hP 0 rfl rfl 4 (by decide) (hts (.fieldLink RX8 25 "JugglingHall$Tokens" "count" "I") (by decide +kernel)) (fun _ h9 => h9) rfl dX8_keep_44 ?_
  refine lv_iconst (v := 1) hx hb dX8_keep_47 (by decide) ?_
  refine lv_iadd hx hb dX8_keep_48 ?_
  refine lv_eqi (y := 1) (by decide) ?_
  refine va_put (D := D) (ci := 8) (v := .int 1) (ty := .int) (C := RX8) (T := TX8) (N := 10) hx hb hts (by decide +kernel) tyX8 tyX8_ok nmX8 hown hK.1 hP hD hS 0 rfl rfl 4 (by decide) (hts (.fieldLink RX8 25 "JugglingHall$Tokens" "count" "I") (by decide +kernel)) (fun _ h9 => h9) rfl (by decide +kernel) rfl rfl (Nat.le_of_ble_eq_true rfl) dX8_keep_49 (fun H locs hP hD hS => ?_)
  have hP : va_P D vwCl [(tk, .inr (8, [.ref tp, .ref t1, .ref t2, .ref t3, .int 1, .int 0, .int 0, .int 0, .int 0, .int 0])), (t1, .inl (cI, 301, .inl (upd (fun _ => 0) 0 0))), (t2, .inl (cI, 301, .inl (upd (fun _ => 0) 0 0))), (t3, .inl (cI, 301, .inl (upd (fun _ => 0) 0 0)))] H := hP
  have hD : va_D A [(tk, .inr (8, [.ref tp, .ref t1, .ref t2, .ref t3, .int 1, .int 0, .int 0, .int 0, .int 0, .int 0])), (t1, .inl (cI, 301, .inl (upd (fun _ => 0) 0 0))), (t2, .inl (cI, 301, .inl (upd (fun _ => 0) 0 0))), (t3, .inl (cI, 301, .inl (upd (fun _ => 0) 0 0)))] := hD
  exact g_vret (()) hx hb hr hlocks hS rfl (trivial) (hP.sub [0, 1, 2, 3] rfl) (hD.sub [0, 1, 2, 3] (by decide) rfl) hQ (Nat.le_of_ble_eq_true rfl) (Nat.le_of_ble_eq_true rfl) dX8_keep_52
set_option maxRecDepth 100000 in
set_option maxHeartbeats 4000000 in
theorem c_advance (l : Launch) (D : va_G) (cI cR cM : ClassId) (sz : Nat) (tk tp t1 t2 t3 : Nat) : Met l yX8_advance wsX8_advance ({ frames := 0, cells := 0, slots := 0, locals := 0 }) (P0 D cI cR cM [.ref tk] sz [(tk, .inr (8, [.ref tp, .ref t1, .ref t2, .ref t3, .int 1, .int 0, .int 0, .int 0, .int 0, .int 0])), (t1, .inl (cI, 301, .inl (upd (fun _ => 0) 0 0))), (t2, .inl (cI, 301, .inl (upd (fun _ => 0) 0 0))), (t3, .inl (cI, 301, .inl (upd (fun _ => 0) 0 0)))]) (QG (S := Unit) (fun _ => none) (fun _ => [(tk, .inr (8, [.ref tp, .ref t1, .ref t2, .ref t3, .int 1, .int 1, .int 0, .int 0, .int 0, .int 0])), (t1, .inl (cI, 301, .inl (upd (fun _ => 0) 0 0))), (t2, .inl (cI, 301, .inl (upd (fun _ => 0) 0 0))), (t3, .inl (cI, 301, .inl (upd (fun _ => 0) 0 0)))]) (fun _ => True) D (va_A [(tk, .inr (8, [.ref tp, .ref t1, .ref t2, .ref t3, .int 1, .int 0, .int 0, .int 0, .int 0, .int 0])), (t1, .inl (cI, 301, .inl (upd (fun _ => 0) 0 0))), (t2, .inl (cI, 301, .inl (upd (fun _ => 0) 0 0))), (t3, .inl (cI, 301, .inl (upd (fun _ => 0) 0 0)))] sz)) 0 0 (va_A [(tk, .inr (8, [.ref tp, .ref t1, .ref t2, .ref t3, .int 1, .int 0, .int 0, .int 0, .int 0, .int 0])), (t1, .inl (cI, 301, .inl (upd (fun _ => 0) 0 0))), (t2, .inl (cI, 301, .inl (upd (fun _ => 0) 0 0))), (t3, .inl (cI, 301, .inl (upd (fun _ => 0) 0 0)))] sz) := by
  refine go (cc := cX8_advance) (maxL := 1) (ret := none) (by decide) rfl (Nat.le_of_ble_eq_true rfl) ?_
  intro p e s m below meth c ls args Q hQ hsz hx hb hr hml hts hown hlocks hnm hP hK hD hl
  subst hsz
  have hD := hD.self (sz := s.heap.size)
  generalize hAe : va_A [(tk, .inr (8, [.ref tp, .ref t1, .ref t2, .ref t3, .int 1, .int 0, .int 0, .int 0, .int 0, .int 0])), (t1, .inl (cI, 301, .inl (upd (fun _ => 0) 0 0))), (t2, .inl (cI, 301, .inl (upd (fun _ => 0) 0 0))), (t3, .inl (cI, 301, .inl (upd (fun _ => 0) 0 0)))] s.heap.size = A at hD hQ
  have hA : ∀ q, s.heap.size ≤ q → A q := fun q h => by rw [← hAe]; exact Or.inr h
  have hS : va_S A s.heap s.heap [] := va_S.rf
  have hl : lv_has ls 1 [(0, .ref tk)] := hl
  refine lv_aload_n hx hb dX8_advance_0 rfl (lv_at hl 0 rfl) ?_
  refine lv_aload_n hx hb dX8_advance_1 rfl (lv_at hl 0 rfl) ?_
  refine va_get (D := D) (ci := 8) (v := .int 0) (C := RX8) (T := TX8) (N := 10) hx hb hts (by decide +kernel) hown hK.1 hP 0 rfl rfl 8 (by decide) (hts (.fieldLink RX8 56 "JugglingHall$Tokens" "start" "I") (by decide +kernel)) (fun _ h9 => h9) rfl dX8_advance_2 ?_
  refine va_put (D := D) (ci := 8) (v := .int 0) (ty := .int) (C := RX8) (T := TX8) (N := 10) hx hb hts (by decide +kernel) tyX8 tyX8_ok nmX8 hown hK.1 hP hD hS 0 rfl rfl 9 (by decide) (hts (.fieldLink RX8 62 "JugglingHall$Tokens" "lastStart" "I") (by decide +kernel)) (fun _ h9 => h9) rfl (by decide +kernel) rfl rfl (Nat.le_of_ble_eq_true rfl) dX8_advance_5 (fun H locs hP hD hS => ?_)
  have hP : va_P D vwCl [(tk, .inr (8, [.ref tp, .ref t1, .ref t2, .ref t3, .int 1, .int 0, .int 0, .int 0, .int 0, .int 0])), (t1, .inl (cI, 301, .inl (upd (fun _ => 0) 0 0))), (t2, .inl (cI, 301, .inl (upd (fun _ => 0) 0 0))), (t3, .inl (cI, 301, .inl (upd (fun _ => 0) 0 0)))] H := hP
  have hD : va_D A [(tk, .inr (8, [.ref tp, .ref t1, .ref t2, .ref t3, .int 1, .int 0, .int 0, .int 0, .int 0, .int 0])), (t1, .inl (cI, 301, .inl (upd (fun _ => 0) 0 0))), (t2, .inl (cI, 301, .inl (upd (fun _ => 0) 0 0))), (t3, .inl (cI, 301, .inl (upd (fun _ => 0) 0 0)))] := hD
  refine lv_aload_n hx hb dX8_advance_8 rfl (lv_at hl 0 rfl) ?_
  refine va_get (D := D) (ci := 8) (v := .int 0) (C := RX8) (T := TX8) (N := 10) hx hb hts (by decide +kernel) hown hK.1 hP 0 rfl rfl 5 (by decide) (hts (.fieldLink RX8 53 "JugglingHall$Tokens" "next" "I") (by decide +kernel)) (fun _ h9 => h9) rfl dX8_advance_9 ?_
  refine lv_aload_n hx hb dX8_advance_12 rfl (lv_at hl 0 rfl) ?_
  refine va_get (D := D) (ci := 8) (v := .int 1) (C := RX8) (T := TX8) (N := 10) hx hb hts (by decide +kernel) hown hK.1 hP 0 rfl rfl 4 (by decide) (hts (.fieldLink RX8 25 "JugglingHall$Tokens" "count" "I") (by decide +kernel)) (fun _ h9 => h9) rfl dX8_advance_13 ?_
  refine lv_icmp_ge (tgt := 68) hx hb dX8_advance_16 (by decide) (fun c16 => absurd c16 (by decide)) (fun c16 => ?_)
  refine lv_aload_n hx hb dX8_advance_19 rfl (lv_at hl 0 rfl) ?_
  refine lv_aload_n hx hb dX8_advance_20 rfl (lv_at hl 0 rfl) ?_
  refine va_get (D := D) (ci := 8) (v := .ref t1) (C := RX8) (T := TX8) (N := 10) hx hb hts (by decide +kernel) hown hK.1 hP 0 rfl rfl 1 (by decide) (hts (.fieldLink RX8 9 "JugglingHall$Tokens" "kinds" "[I") (by decide +kernel)) (fun _ h9 => h9) rfl dX8_advance_21 ?_
  refine lv_aload_n hx hb dX8_advance_24 rfl (lv_at hl 0 rfl) ?_
  refine va_get (D := D) (ci := 8) (v := .int 0) (C := RX8) (T := TX8) (N := 10) hx hb hts (by decide +kernel) hown hK.1 hP 0 rfl rfl 5 (by decide) (hts (.fieldLink RX8 53 "JugglingHall$Tokens" "next" "I") (by decide +kernel)) (fun _ h9 => h9) rfl dX8_advance_25 ?_
  refine ald_n (k := 0) hx hb hK.1 hP 1 0 rfl rfl (by decide) (by decide) dX8_advance_28 ?_
  refine lv_eqi (y := 0) (rfl) ?_
  refine va_put (D := D) (ci := 8) (v := .int 0) (ty := .int) (C := RX8) (T := TX8) (N := 10) hx hb hts (by decide +kernel) tyX8 tyX8_ok nmX8 hown hK.1 hP hD hS 0 rfl rfl 6 (by decide) (hts (.fieldLink RX8 65 "JugglingHall$Tokens" "kind" "I") (by decide +kernel)) (fun _ h9 => h9) rfl (by decide +kernel) rfl rfl (Nat.le_of_ble_eq_true rfl) dX8_advance_29 (fun H locs hP hD hS => ?_)
  have hP : va_P D vwCl [(tk, .inr (8, [.ref tp, .ref t1, .ref t2, .ref t3, .int 1, .int 0, .int 0, .int 0, .int 0, .int 0])), (t1, .inl (cI, 301, .inl (upd (fun _ => 0) 0 0))), (t2, .inl (cI, 301, .inl (upd (fun _ => 0) 0 0))), (t3, .inl (cI, 301, .inl (upd (fun _ => 0) 0 0)))] H := hP
  have hD : va_D A [(tk, .inr (8, [.ref tp, .ref t1, .ref t2, .ref t3, .int 1, .int 0, .int 0, .int 0, .int 0, .int 0])), (t1, .inl (cI, 301, .inl (upd (fun _ => 0) 0 0))), (t2, .inl (cI, 301, .inl (upd (fun _ => 0) 0 0))), (t3, .inl (cI, 301, .inl (upd (fun _ => 0) 0 0)))] := hD
  refine lv_aload_n hx hb dX8_advance_32 rfl (lv_at hl 0 rfl) ?_
  refine lv_aload_n hx hb dX8_advance_33 rfl (lv_at hl 0 rfl) ?_
  refine va_get (D := D) (ci := 8) (v := .ref t2) (C := RX8) (T := TX8) (N := 10) hx hb hts (by decide +kernel) hown hK.1 hP 0 rfl rfl 2 (by decide) (hts (.fieldLink RX8 15 "JugglingHall$Tokens" "values" "[I") (by decide +kernel)) (fun _ h9 => h9) rfl dX8_advance_34 ?_
  refine lv_aload_n hx hb dX8_advance_37 rfl (lv_at hl 0 rfl) ?_
  refine va_get (D := D) (ci := 8) (v := .int 0) (C := RX8) (T := TX8) (N := 10) hx hb hts (by decide +kernel) hown hK.1 hP 0 rfl rfl 5 (by decide) (hts (.fieldLink RX8 53 "JugglingHall$Tokens" "next" "I") (by decide +kernel)) (fun _ h9 => h9) rfl dX8_advance_38 ?_
  refine ald_n (k := 0) hx hb hK.1 hP 2 0 rfl rfl (by decide) (by decide) dX8_advance_41 ?_
  refine lv_eqi (y := 0) (rfl) ?_
  refine va_put (D := D) (ci := 8) (v := .int 0) (ty := .int) (C := RX8) (T := TX8) (N := 10) hx hb hts (by decide +kernel) tyX8 tyX8_ok nmX8 hown hK.1 hP hD hS 0 rfl rfl 7 (by decide) (hts (.fieldLink RX8 68 "JugglingHall$Tokens" "value" "I") (by decide +kernel)) (fun _ h9 => h9) rfl (by decide +kernel) rfl rfl (Nat.le_of_ble_eq_true rfl) dX8_advance_42 (fun H locs hP hD hS => ?_)
  have hP : va_P D vwCl [(tk, .inr (8, [.ref tp, .ref t1, .ref t2, .ref t3, .int 1, .int 0, .int 0, .int 0, .int 0, .int 0])), (t1, .inl (cI, 301, .inl (upd (fun _ => 0) 0 0))), (t2, .inl (cI, 301, .inl (upd (fun _ => 0) 0 0))), (t3, .inl (cI, 301, .inl (upd (fun _ => 0) 0 0)))] H := hP
  have hD : va_D A [(tk, .inr (8, [.ref tp, .ref t1, .ref t2, .ref t3, .int 1, .int 0, .int 0, .int 0, .int 0, .int 0])), (t1, .inl (cI, 301, .inl (upd (fun _ => 0) 0 0))), (t2, .inl (cI, 301, .inl (upd (fun _ => 0) 0 0))), (t3, .inl (cI, 301, .inl (upd (fun _ => 0) 0 0)))] := hD
  refine lv_aload_n hx hb dX8_advance_45 rfl (lv_at hl 0 rfl) ?_
  refine lv_aload_n hx hb dX8_advance_46 rfl (lv_at hl 0 rfl) ?_
  refine va_get (D := D) (ci := 8) (v := .ref t3) (C := RX8) (T := TX8) (N := 10) hx hb hts (by decide +kernel) hown hK.1 hP 0 rfl rfl 3 (by decide) (hts (.fieldLink RX8 18 "JugglingHall$Tokens" "starts" "[I") (by decide +kernel)) (fun _ h9 => h9) rfl dX8_advance_47 ?_
  refine lv_aload_n hx hb dX8_advance_50 rfl (lv_at hl 0 rfl) ?_
  refine va_get (D := D) (ci := 8) (v := .int 0) (C := RX8) (T := TX8) (N := 10) hx hb hts (by decide +kernel) hown hK.1 hP 0 rfl rfl 5 (by decide) (hts (.fieldLink RX8 53 "JugglingHall$Tokens" "next" "I") (by decide +kernel)) (fun _ h9 => h9) rfl dX8_advance_51 ?_
  refine ald_n (k := 0) hx hb hK.1 hP 3 0 rfl rfl (by decide) (by decide) dX8_advance_54 ?_
  refine lv_eqi (y := 0) (rfl) ?_
  refine va_put (D := D) (ci := 8) (v := .int 0) (ty := .int) (C := RX8) (T := TX8) (N := 10) hx hb hts (by decide +kernel) tyX8 tyX8_ok nmX8 hown hK.1 hP hD hS 0 rfl rfl 8 (by decide) (hts (.fieldLink RX8 56 "JugglingHall$Tokens" "start" "I") (by decide +kernel)) (fun _ h9 => h9) rfl (by decide +kernel) rfl rfl (Nat.le_of_ble_eq_true rfl) dX8_advance_55 (fun H locs hP hD hS => ?_)
  have hP : va_P D vwCl [(tk, .inr (8, [.ref tp, .ref t1, .ref t2, .ref t3, .int 1, .int 0, .int 0, .int 0, .int 0, .int 0])), (t1, .inl (cI, 301, .inl (upd (fun _ => 0) 0 0))), (t2, .inl (cI, 301, .inl (upd (fun _ => 0) 0 0))), (t3, .inl (cI, 301, .inl (upd (fun _ => 0) 0 0)))] H := hP
  have hD : va_D A [(tk, .inr (8, [.ref tp, .ref t1, .ref t2, .ref t3, .int 1, .int 0, .int 0, .int 0, .int 0, .int 0])), (t1, .inl (cI, 301, .inl (upd (fun _ => 0) 0 0))), (t2, .inl (cI, 301, .inl (upd (fun _ => 0) 0 0))), (t3, .inl (cI, 301, .inl (upd (fun _ => 0) 0 0)))] := hD
  refine lv_aload_n hx hb dX8_advance_58 rfl (lv_at hl 0 rfl) ?_
  refine lv_dup hx hb dX8_advance_59 rfl ?_
  refine va_get (D := D) (ci := 8) (v := .int 0) (C := RX8) (T := TX8) (N := 10) hx hb hts (by decide +kernel) hown hK.1 hP 0 rfl rfl 5 (by decide) (hts (.fieldLink RX8 53 "JugglingHall$Tokens" "next" "I") (by decide +kernel)) (fun _ h9 => h9) rfl dX8_advance_60 ?_
  refine lv_iconst (v := 1) hx hb dX8_advance_63 (by decide) ?_
  refine lv_iadd hx hb dX8_advance_64 ?_
  refine lv_eqi (y := 1) (by decide) ?_
  refine va_put (D := D) (ci := 8) (v := .int 1) (ty := .int) (C := RX8) (T := TX8) (N := 10) hx hb hts (by decide +kernel) tyX8 tyX8_ok nmX8 hown hK.1 hP hD hS 0 rfl rfl 5 (by decide) (hts (.fieldLink RX8 53 "JugglingHall$Tokens" "next" "I") (by decide +kernel)) (fun _ h9 => h9) rfl (by decide +kernel) rfl rfl (Nat.le_of_ble_eq_true rfl) dX8_advance_65 (fun H locs hP hD hS => ?_)
  have hP : va_P D vwCl [(tk, .inr (8, [.ref tp, .ref t1, .ref t2, .ref t3, .int 1, .int 1, .int 0, .int 0, .int 0, .int 0])), (t1, .inl (cI, 301, .inl (upd (fun _ => 0) 0 0))), (t2, .inl (cI, 301, .inl (upd (fun _ => 0) 0 0))), (t3, .inl (cI, 301, .inl (upd (fun _ => 0) 0 0)))] H := hP
  have hD : va_D A [(tk, .inr (8, [.ref tp, .ref t1, .ref t2, .ref t3, .int 1, .int 1, .int 0, .int 0, .int 0, .int 0])), (t1, .inl (cI, 301, .inl (upd (fun _ => 0) 0 0))), (t2, .inl (cI, 301, .inl (upd (fun _ => 0) 0 0))), (t3, .inl (cI, 301, .inl (upd (fun _ => 0) 0 0)))] := hD
  exact g_vret (()) hx hb hr hlocks hS rfl (trivial) (hP.sub [0, 1, 2, 3] rfl) (hD.sub [0, 1, 2, 3] (by decide) rfl) hQ (Nat.le_of_ble_eq_true rfl) (Nat.le_of_ble_eq_true rfl) dX8_advance_68
set_option maxRecDepth 100000 in
set_option maxHeartbeats 4000000 in
theorem c_begin (l : Launch) (D : va_G) (cI cR cM : ClassId) (sz : Nat) (tk tp t1 t2 t3 : Nat) (tb : Nat) : Met l yX8_begin wsX8_begin ({ frames := 1, cells := 0, slots := 0, locals := 23 }) (P0 D cI cR cM [.ref tk] sz [(tk, .inr (8, [.ref tp, .ref t1, .ref t2, .ref t3, .int 0, .int 0, .int 0, .int 0, .int 0, .int 0])), (t1, .inl (cI, 301, .inl (fun _ => 0))), (t2, .inl (cI, 301, .inl (fun _ => 0))), (t3, .inl (cI, 301, .inl (fun _ => 0))), (tp, .inr (7, [.ref tb, .int 0]))]) (QG (S := Unit) (fun _ => none) (fun _ => [(tk, .inr (8, [.ref tp, .ref t1, .ref t2, .ref t3, .int 1, .int 1, .int 0, .int 0, .int 0, .int 0])), (t1, .inl (cI, 301, .inl (upd (fun _ => 0) 0 0))), (t2, .inl (cI, 301, .inl (upd (fun _ => 0) 0 0))), (t3, .inl (cI, 301, .inl (upd (fun _ => 0) 0 0))), (tp, .inr (7, [.ref tb, .int 0]))]) (fun _ => True) D (va_A [(tk, .inr (8, [.ref tp, .ref t1, .ref t2, .ref t3, .int 0, .int 0, .int 0, .int 0, .int 0, .int 0])), (t1, .inl (cI, 301, .inl (fun _ => 0))), (t2, .inl (cI, 301, .inl (fun _ => 0))), (t3, .inl (cI, 301, .inl (fun _ => 0))), (tp, .inr (7, [.ref tb, .int 0]))] sz)) 0 0 (va_A [(tk, .inr (8, [.ref tp, .ref t1, .ref t2, .ref t3, .int 0, .int 0, .int 0, .int 0, .int 0, .int 0])), (t1, .inl (cI, 301, .inl (fun _ => 0))), (t2, .inl (cI, 301, .inl (fun _ => 0))), (t3, .inl (cI, 301, .inl (fun _ => 0))), (tp, .inr (7, [.ref tb, .int 0]))] sz) := by
  refine go (cc := cX8_begin) (maxL := 4) (ret := none) (by decide) rfl (Nat.le_of_ble_eq_true rfl) ?_
  intro p e s m below meth c ls args Q hQ hsz hx hb hr hml hts hown hlocks hnm hP hK hD hl
  subst hsz
  have hD := hD.self (sz := s.heap.size)
  generalize hAe : va_A [(tk, .inr (8, [.ref tp, .ref t1, .ref t2, .ref t3, .int 0, .int 0, .int 0, .int 0, .int 0, .int 0])), (t1, .inl (cI, 301, .inl (fun _ => 0))), (t2, .inl (cI, 301, .inl (fun _ => 0))), (t3, .inl (cI, 301, .inl (fun _ => 0))), (tp, .inr (7, [.ref tb, .int 0]))] s.heap.size = A at hD hQ
  have hA : ∀ q, s.heap.size ≤ q → A q := fun q h => by rw [← hAe]; exact Or.inr h
  have hS : va_S A s.heap s.heap [] := va_S.rf
  have hl : lv_has ls 4 [(0, .ref tk)] := hl
  refine lv_aload_n hx hb dX8_begin_0 rfl (lv_at hl 0 rfl) ?_
  refine lv_iconst (v := 0) hx hb dX8_begin_1 (by decide) ?_
  refine va_put (D := D) (ci := 8) (v := .int 0) (ty := .int) (C := RX8) (T := TX8) (N := 10) hx hb hts (by decide +kernel) tyX8 tyX8_ok nmX8 hown hK.1 hP hD hS 0 rfl rfl 4 (by decide) (hts (.fieldLink RX8 25 "JugglingHall$Tokens" "count" "I") (by decide +kernel)) (fun _ h9 => h9) rfl (by decide +kernel) rfl rfl (Nat.le_of_ble_eq_true rfl) dX8_begin_2 (fun H locs hP hD hS => ?_)
  have hP : va_P D vwCl [(tk, .inr (8, [.ref tp, .ref t1, .ref t2, .ref t3, .int 0, .int 0, .int 0, .int 0, .int 0, .int 0])), (t1, .inl (cI, 301, .inl (fun _ => 0))), (t2, .inl (cI, 301, .inl (fun _ => 0))), (t3, .inl (cI, 301, .inl (fun _ => 0))), (tp, .inr (7, [.ref tb, .int 0]))] H := hP
  have hD : va_D A [(tk, .inr (8, [.ref tp, .ref t1, .ref t2, .ref t3, .int 0, .int 0, .int 0, .int 0, .int 0, .int 0])), (t1, .inl (cI, 301, .inl (fun _ => 0))), (t2, .inl (cI, 301, .inl (fun _ => 0))), (t3, .inl (cI, 301, .inl (fun _ => 0))), (tp, .inr (7, [.ref tb, .int 0]))] := hD
  refine lv_iconst (v := 0) hx hb dX8_begin_5 (by decide) ?_
  refine lv_istore_n (lv' := [(1, .int 0), (0, .ref tk)]) hx hb dX8_begin_6 rfl hl (by decide) rfl (fun ls hl => ?_)
  refine lv_iload_n hx hb dX8_begin_7 rfl (lv_at hl 0 rfl) ?_
  refine lv_aload_n hx hb dX8_begin_8 rfl (lv_at hl 1 rfl) ?_
  refine va_get (D := D) (ci := 8) (v := .ref tp) (C := RX8) (T := TX8) (N := 10) hx hb hts (by decide +kernel) hown hK.1 hP 0 rfl rfl 0 (by decide) (hts (.fieldLink RX8 21 "JugglingHall$Tokens" "tape" "LJugglingHall$Tape;") (by decide +kernel)) (fun _ h9 => h9) rfl dX8_begin_9 ?_
  refine va_getN (D := D) (ci := 7) (v := .int 0) (C := RX7) (T := TX7) (N := 2) (host := "JugglingHall") hx hb hts (by decide +kernel) hown hK.1 hP 4 rfl rfl 1 (by decide) (hK.nw (.fieldLinkNest RX8 29 "JugglingHall$Tape" "length" "I" "JugglingHall") (by decide +kernel) rfl) (fun _ h9 => h9) rfl dX8_begin_12 ?_
  refine lv_icmp_ge (tgt := 116) hx hb dX8_begin_15 (by decide) (fun c15 => ?_) (fun c15 => absurd (by decide) c15)
  refine lv_aload_n hx hb dX8_begin_116 rfl (lv_at hl 1 rfl) ?_
  refine lv_iconst (v := 0) hx hb dX8_begin_117 (by decide) ?_
  refine lv_iconst (v := 0) hx hb dX8_begin_118 (by decide) ?_
  refine lv_aload_n hx hb dX8_begin_119 rfl (lv_at hl 1 rfl) ?_
  refine va_get (D := D) (ci := 8) (v := .ref tp) (C := RX8) (T := TX8) (N := 10) hx hb hts (by decide +kernel) hown hK.1 hP 0 rfl rfl 0 (by decide) (hts (.fieldLink RX8 21 "JugglingHall$Tokens" "tape" "LJugglingHall$Tape;") (by decide +kernel)) (fun _ h9 => h9) rfl dX8_begin_120 ?_
  refine va_getN (D := D) (ci := 7) (v := .int 0) (C := RX7) (T := TX7) (N := 2) (host := "JugglingHall") hx hb hts (by decide +kernel) hown hK.1 hP 4 rfl rfl 1 (by decide) (hK.nw (.fieldLinkNest RX8 29 "JugglingHall$Tape" "length" "I" "JugglingHall") (by decide +kernel) rfl) (fun _ h9 => h9) rfl dX8_begin_123 ?_
  have hPc := hP.sub (ws' := [(tk, .inr (8, [.ref tp, .ref t1, .ref t2, .ref t3, .int 0, .int 0, .int 0, .int 0, .int 0, .int 0])), (t1, .inl (cI, 301, .inl (fun _ => 0))), (t2, .inl (cI, 301, .inl (fun _ => 0))), (t3, .inl (cI, 301, .inl (fun _ => 0)))]) [0, 1, 2, 3] rfl
  have hDc := hD.sub (ws' := [(tk, .inr (8, [.ref tp, .ref t1, .ref t2, .ref t3, .int 0, .int 0, .int 0, .int 0, .int 0, .int 0])), (t1, .inl (cI, 301, .inl (fun _ => 0))), (t2, .inl (cI, 301, .inl (fun _ => 0))), (t3, .inl (cI, 301, .inl (fun _ => 0)))]) [0, 1, 2, 3] (by decide) rfl
  refine call_g (wr := [(tp, .inr (7, [.ref tb, .int 0]))]) (va_runV (As := [.int 0, .int 0, .int 0]) (rest := []) ⟨hx, hb, hml, hown, hts⟩ (c_keep l D cI cR cM _ tk tp t1 t2 t3) (cwV 3 hts gX8_begin_X8_keep rfl rfl rfl (by decide +kernel) ⟨Nat.le_of_ble_eq_true rfl, Nat.le_of_ble_eq_true rfl⟩) (pre_V hK hPc hDc 0 8 rfl rfl) rfl rfl hl.1 rfl (lv_room (Nat.le_of_ble_eq_true rfl)) dX8_begin_126 ⟨Nat.le_of_ble_eq_true rfl, Nat.le_of_ble_eq_true rfl⟩) hP hD hS hA [0, 1, 2, 3] [4] rfl rfl (by decide) (by decide) (fun _u H locs hw hP hD hS => ?_)
  have hP : va_P D vwCl [(tp, .inr (7, [.ref tb, .int 0])), (tk, .inr (8, [.ref tp, .ref t1, .ref t2, .ref t3, .int 1, .int 0, .int 0, .int 0, .int 0, .int 0])), (t1, .inl (cI, 301, .inl (upd (fun _ => 0) 0 0))), (t2, .inl (cI, 301, .inl (upd (fun _ => 0) 0 0))), (t3, .inl (cI, 301, .inl (upd (fun _ => 0) 0 0)))] H := hP
  have hD : va_D A [(tp, .inr (7, [.ref tb, .int 0])), (tk, .inr (8, [.ref tp, .ref t1, .ref t2, .ref t3, .int 1, .int 0, .int 0, .int 0, .int 0, .int 0])), (t1, .inl (cI, 301, .inl (upd (fun _ => 0) 0 0))), (t2, .inl (cI, 301, .inl (upd (fun _ => 0) 0 0))), (t3, .inl (cI, 301, .inl (upd (fun _ => 0) 0 0)))] := hD
  refine lv_aload_n hx hb dX8_begin_129 rfl (lv_at hl 1 rfl) ?_
  refine lv_iconst (v := 0) hx hb dX8_begin_130 (by decide) ?_
  refine va_put (D := D) (ci := 8) (v := .int 0) (ty := .int) (C := RX8) (T := TX8) (N := 10) hx hb hts (by decide +kernel) tyX8 tyX8_ok nmX8 hown hK.1 hP hD hS 1 rfl rfl 5 (by decide) (hts (.fieldLink RX8 53 "JugglingHall$Tokens" "next" "I") (by decide +kernel)) (fun _ h9 => h9) rfl (by decide +kernel) rfl rfl (Nat.le_of_ble_eq_true rfl) dX8_begin_131 (fun H locs hP hD hS => ?_)
  have hP : va_P D vwCl [(tp, .inr (7, [.ref tb, .int 0])), (tk, .inr (8, [.ref tp, .ref t1, .ref t2, .ref t3, .int 1, .int 0, .int 0, .int 0, .int 0, .int 0])), (t1, .inl (cI, 301, .inl (upd (fun _ => 0) 0 0))), (t2, .inl (cI, 301, .inl (upd (fun _ => 0) 0 0))), (t3, .inl (cI, 301, .inl (upd (fun _ => 0) 0 0)))] H := hP
  have hD : va_D A [(tp, .inr (7, [.ref tb, .int 0])), (tk, .inr (8, [.ref tp, .ref t1, .ref t2, .ref t3, .int 1, .int 0, .int 0, .int 0, .int 0, .int 0])), (t1, .inl (cI, 301, .inl (upd (fun _ => 0) 0 0))), (t2, .inl (cI, 301, .inl (upd (fun _ => 0) 0 0))), (t3, .inl (cI, 301, .inl (upd (fun _ => 0) 0 0)))] := hD
  refine lv_aload_n hx hb dX8_begin_134 rfl (lv_at hl 1 rfl) ?_
  refine lv_iconst (v := 0) hx hb dX8_begin_135 (by decide) ?_
  refine va_put (D := D) (ci := 8) (v := .int 0) (ty := .int) (C := RX8) (T := TX8) (N := 10) hx hb hts (by decide +kernel) tyX8 tyX8_ok nmX8 hown hK.1 hP hD hS 1 rfl rfl 8 (by decide) (hts (.fieldLink RX8 56 "JugglingHall$Tokens" "start" "I") (by decide +kernel)) (fun _ h9 => h9) rfl (by decide +kernel) rfl rfl (Nat.le_of_ble_eq_true rfl) dX8_begin_136 (fun H locs hP hD hS => ?_)
  have hP : va_P D vwCl [(tp, .inr (7, [.ref tb, .int 0])), (tk, .inr (8, [.ref tp, .ref t1, .ref t2, .ref t3, .int 1, .int 0, .int 0, .int 0, .int 0, .int 0])), (t1, .inl (cI, 301, .inl (upd (fun _ => 0) 0 0))), (t2, .inl (cI, 301, .inl (upd (fun _ => 0) 0 0))), (t3, .inl (cI, 301, .inl (upd (fun _ => 0) 0 0)))] H := hP
  have hD : va_D A [(tp, .inr (7, [.ref tb, .int 0])), (tk, .inr (8, [.ref tp, .ref t1, .ref t2, .ref t3, .int 1, .int 0, .int 0, .int 0, .int 0, .int 0])), (t1, .inl (cI, 301, .inl (upd (fun _ => 0) 0 0))), (t2, .inl (cI, 301, .inl (upd (fun _ => 0) 0 0))), (t3, .inl (cI, 301, .inl (upd (fun _ => 0) 0 0)))] := hD
  refine lv_aload_n hx hb dX8_begin_139 rfl (lv_at hl 1 rfl) ?_
  have hPc := hP.sub (ws' := [(tk, .inr (8, [.ref tp, .ref t1, .ref t2, .ref t3, .int 1, .int 0, .int 0, .int 0, .int 0, .int 0])), (t1, .inl (cI, 301, .inl (upd (fun _ => 0) 0 0))), (t2, .inl (cI, 301, .inl (upd (fun _ => 0) 0 0))), (t3, .inl (cI, 301, .inl (upd (fun _ => 0) 0 0)))]) [1, 2, 3, 4] rfl
  have hDc := hD.sub (ws' := [(tk, .inr (8, [.ref tp, .ref t1, .ref t2, .ref t3, .int 1, .int 0, .int 0, .int 0, .int 0, .int 0])), (t1, .inl (cI, 301, .inl (upd (fun _ => 0) 0 0))), (t2, .inl (cI, 301, .inl (upd (fun _ => 0) 0 0))), (t3, .inl (cI, 301, .inl (upd (fun _ => 0) 0 0)))]) [1, 2, 3, 4] (by decide) rfl
  refine call_g (wr := [(tp, .inr (7, [.ref tb, .int 0]))]) (va_runV (As := []) (rest := []) ⟨hx, hb, hml, hown, hts⟩ (c_advance l D cI cR cM _ tk tp t1 t2 t3) (cwV 0 hts gX8_begin_X8_advance rfl rfl rfl (by decide +kernel) ⟨Nat.le_of_ble_eq_true rfl, Nat.le_of_ble_eq_true rfl⟩) (pre_V hK hPc hDc 0 8 rfl rfl) rfl rfl hl.1 rfl (lv_room (Nat.le_of_ble_eq_true rfl)) dX8_begin_140 ⟨Nat.le_of_ble_eq_true rfl, Nat.le_of_ble_eq_true rfl⟩) hP hD hS hA [1, 2, 3, 4] [0] rfl rfl (by decide) (by decide) (fun _u H locs hw hP hD hS => ?_)
  have hP : va_P D vwCl [(tp, .inr (7, [.ref tb, .int 0])), (tk, .inr (8, [.ref tp, .ref t1, .ref t2, .ref t3, .int 1, .int 1, .int 0, .int 0, .int 0, .int 0])), (t1, .inl (cI, 301, .inl (upd (fun _ => 0) 0 0))), (t2, .inl (cI, 301, .inl (upd (fun _ => 0) 0 0))), (t3, .inl (cI, 301, .inl (upd (fun _ => 0) 0 0)))] H := hP
  have hD : va_D A [(tp, .inr (7, [.ref tb, .int 0])), (tk, .inr (8, [.ref tp, .ref t1, .ref t2, .ref t3, .int 1, .int 1, .int 0, .int 0, .int 0, .int 0])), (t1, .inl (cI, 301, .inl (upd (fun _ => 0) 0 0))), (t2, .inl (cI, 301, .inl (upd (fun _ => 0) 0 0))), (t3, .inl (cI, 301, .inl (upd (fun _ => 0) 0 0)))] := hD
  exact g_vret (()) hx hb hr hlocks hS rfl (trivial) (hP.sub [1, 2, 3, 4, 0] rfl) (hD.sub [1, 2, 3, 4, 0] (by decide) rfl) hQ (Nat.le_of_ble_eq_true rfl) (Nat.le_of_ble_eq_true rfl) dX8_begin_143
set_option maxRecDepth 100000 in
set_option maxHeartbeats 4000000 in
theorem c_readTape (l : Launch) (D : va_G) (cI cR cM : ClassId) (sz : Nat) (tk tp t1 t2 t3 : Nat) (tb : Nat) (rd bk r3 r6 w0 w1 w2 w3 w4 w5 w6 w7 : Nat) (y0 y3 y4 y6 y7 y8 a0 b0 d0 a1 b1 d1 a2 b2 d2 a3 b3 d3 a4 b4 d4 a5 b5 d5 a6 b6 d6 a7 b7 d7 : Value) : Met l yX4_readTape wsX4_readTape ({ frames := 2, cells := 0, slots := 0, locals := 46 }) (P0 D cI cR cM [.ref rd] sz [(rd, .inr (4, [y0, .ref tk, .ref bk, y3, y4, .ref r3, y6, y7, .ref r6, .int (-1), .int (-1)])), (r3, .inl (cR, 8, .inr (.inr (.inr (.inr (va_up (va_up (va_up (va_up (va_up (va_up (va_up (va_up (fun _ => none) 0 (some w0)) 1 (some w1)) 2 (some w2)) 3 (some w3)) 4 (some w4)) 5 (some w5)) 6 (some w6)) 7 (some w7))))))), (r6, .inr (3, [y8, .int 0])), (w0, .inr (5, [a0, b0, d0, .int 0])), (w1, .inr (5, [a1, b1, d1, .int 0])), (w2, .inr (5, [a2, b2, d2, .int 0])), (w3, .inr (5, [a3, b3, d3, .int 0])), (w4, .inr (5, [a4, b4, d4, .int 0])), (w5, .inr (5, [a5, b5, d5, .int 0])), (w6, .inr (5, [a6, b6, d6, .int 0])), (w7, .inr (5, [a7, b7, d7, .int 0])), (tk, .inr (8, [.ref tp, .ref t1, .ref t2, .ref t3, .int 0, .int 0, .int 0, .int 0, .int 0, .int 0])), (t1, .inl (cI, 301, .inl (fun _ => 0))), (t2, .inl (cI, 301, .inl (fun _ => 0))), (t3, .inl (cI, 301, .inl (fun _ => 0))), (tp, .inr (7, [.ref tb, .int 0]))]) (QG (S := Unit) (fun _ => some (.int 1)) (fun _ => [(rd, .inr (4, [y0, .ref tk, .ref bk, y3, y4, .ref r3, y6, y7, .ref r6, .int 0, .int (-1)])), (r3, .inl (cR, 8, .inr (.inr (.inr (.inr (va_up (va_up (va_up (va_up (va_up (va_up (va_up (va_up (fun _ => none) 0 (some w0)) 1 (some w1)) 2 (some w2)) 3 (some w3)) 4 (some w4)) 5 (some w5)) 6 (some w6)) 7 (some w7))))))), (r6, .inr (3, [y8, .int 0])), (w0, .inr (5, [a0, b0, d0, .int 0])), (w1, .inr (5, [a1, b1, d1, .int 0])), (w2, .inr (5, [a2, b2, d2, .int 0])), (w3, .inr (5, [a3, b3, d3, .int 0])), (w4, .inr (5, [a4, b4, d4, .int 0])), (w5, .inr (5, [a5, b5, d5, .int 0])), (w6, .inr (5, [a6, b6, d6, .int 0])), (w7, .inr (5, [a7, b7, d7, .int 0])), (tp, .inr (7, [.ref tb, .int 0]))]) (fun _ => True) D (va_A [(rd, .inr (4, [y0, .ref tk, .ref bk, y3, y4, .ref r3, y6, y7, .ref r6, .int (-1), .int (-1)])), (r3, .inl (cR, 8, .inr (.inr (.inr (.inr (va_up (va_up (va_up (va_up (va_up (va_up (va_up (va_up (fun _ => none) 0 (some w0)) 1 (some w1)) 2 (some w2)) 3 (some w3)) 4 (some w4)) 5 (some w5)) 6 (some w6)) 7 (some w7))))))), (r6, .inr (3, [y8, .int 0])), (w0, .inr (5, [a0, b0, d0, .int 0])), (w1, .inr (5, [a1, b1, d1, .int 0])), (w2, .inr (5, [a2, b2, d2, .int 0])), (w3, .inr (5, [a3, b3, d3, .int 0])), (w4, .inr (5, [a4, b4, d4, .int 0])), (w5, .inr (5, [a5, b5, d5, .int 0])), (w6, .inr (5, [a6, b6, d6, .int 0])), (w7, .inr (5, [a7, b7, d7, .int 0])), (tk, .inr (8, [.ref tp, .ref t1, .ref t2, .ref t3, .int 0, .int 0, .int 0, .int 0, .int 0, .int 0])), (t1, .inl (cI, 301, .inl (fun _ => 0))), (t2, .inl (cI, 301, .inl (fun _ => 0))), (t3, .inl (cI, 301, .inl (fun _ => 0))), (tp, .inr (7, [.ref tb, .int 0]))] sz)) 0 0 (va_A [(rd, .inr (4, [y0, .ref tk, .ref bk, y3, y4, .ref r3, y6, y7, .ref r6, .int (-1), .int (-1)])), (r3, .inl (cR, 8, .inr (.inr (.inr (.inr (va_up (va_up (va_up (va_up (va_up (va_up (va_up (va_up (fun _ => none) 0 (some w0)) 1 (some w1)) 2 (some w2)) 3 (some w3)) 4 (some w4)) 5 (some w5)) 6 (some w6)) 7 (some w7))))))), (r6, .inr (3, [y8, .int 0])), (w0, .inr (5, [a0, b0, d0, .int 0])), (w1, .inr (5, [a1, b1, d1, .int 0])), (w2, .inr (5, [a2, b2, d2, .int 0])), (w3, .inr (5, [a3, b3, d3, .int 0])), (w4, .inr (5, [a4, b4, d4, .int 0])), (w5, .inr (5, [a5, b5, d5, .int 0])), (w6, .inr (5, [a6, b6, d6, .int 0])), (w7, .inr (5, [a7, b7, d7, .int 0])), (tk, .inr (8, [.ref tp, .ref t1, .ref t2, .ref t3, .int 0, .int 0, .int 0, .int 0, .int 0, .int 0])), (t1, .inl (cI, 301, .inl (fun _ => 0))), (t2, .inl (cI, 301, .inl (fun _ => 0))), (t3, .inl (cI, 301, .inl (fun _ => 0))), (tp, .inr (7, [.ref tb, .int 0]))] sz) := by
  refine go (cc := cX4_readTape) (maxL := 3) (ret := (some .boolean)) (by decide) rfl (Nat.le_of_ble_eq_true rfl) ?_
  intro p e s m below meth c ls args Q hQ hsz hx hb hr hml hts hown hlocks hnm hP hK hD hl
  subst hsz
  have hD := hD.self (sz := s.heap.size)
  generalize hAe : va_A [(rd, .inr (4, [y0, .ref tk, .ref bk, y3, y4, .ref r3, y6, y7, .ref r6, .int (-1), .int (-1)])), (r3, .inl (cR, 8, .inr (.inr (.inr (.inr (va_up (va_up (va_up (va_up (va_up (va_up (va_up (va_up (fun _ => none) 0 (some w0)) 1 (some w1)) 2 (some w2)) 3 (some w3)) 4 (some w4)) 5 (some w5)) 6 (some w6)) 7 (some w7))))))), (r6, .inr (3, [y8, .int 0])), (w0, .inr (5, [a0, b0, d0, .int 0])), (w1, .inr (5, [a1, b1, d1, .int 0])), (w2, .inr (5, [a2, b2, d2, .int 0])), (w3, .inr (5, [a3, b3, d3, .int 0])), (w4, .inr (5, [a4, b4, d4, .int 0])), (w5, .inr (5, [a5, b5, d5, .int 0])), (w6, .inr (5, [a6, b6, d6, .int 0])), (w7, .inr (5, [a7, b7, d7, .int 0])), (tk, .inr (8, [.ref tp, .ref t1, .ref t2, .ref t3, .int 0, .int 0, .int 0, .int 0, .int 0, .int 0])), (t1, .inl (cI, 301, .inl (fun _ => 0))), (t2, .inl (cI, 301, .inl (fun _ => 0))), (t3, .inl (cI, 301, .inl (fun _ => 0))), (tp, .inr (7, [.ref tb, .int 0]))] s.heap.size = A at hD hQ
  have hA : ∀ q, s.heap.size ≤ q → A q := fun q h => by rw [← hAe]; exact Or.inr h
  have hS : va_S A s.heap s.heap [] := va_S.rf
  have hl : lv_has ls 3 [(0, .ref rd)] := hl
  refine lv_aload_n hx hb dX4_readTape_0 rfl (lv_at hl 0 rfl) ?_
  refine lv_iconst (v := 0) hx hb dX4_readTape_1 (by decide) ?_
  refine va_put (D := D) (ci := 4) (v := .int 0) (ty := .int) (C := RX4) (T := TX4) (N := 11) hx hb hts (by decide +kernel) tyX4 tyX4_ok nmX4 hown hK.1 hP hD hS 0 rfl rfl 9 (by decide) (hts (.fieldLink RX4 31 "JugglingHall$Reader" "fault" "I") (by decide +kernel)) (fun _ h9 => h9) rfl (by decide +kernel) rfl rfl (Nat.le_of_ble_eq_true rfl) dX4_readTape_2 (fun H locs hP hD hS => ?_)
  have hP : va_P D vwCl [(rd, .inr (4, [y0, .ref tk, .ref bk, y3, y4, .ref r3, y6, y7, .ref r6, .int 0, .int (-1)])), (r3, .inl (cR, 8, .inr (.inr (.inr (.inr (va_up (va_up (va_up (va_up (va_up (va_up (va_up (va_up (fun _ => none) 0 (some w0)) 1 (some w1)) 2 (some w2)) 3 (some w3)) 4 (some w4)) 5 (some w5)) 6 (some w6)) 7 (some w7))))))), (r6, .inr (3, [y8, .int 0])), (w0, .inr (5, [a0, b0, d0, .int 0])), (w1, .inr (5, [a1, b1, d1, .int 0])), (w2, .inr (5, [a2, b2, d2, .int 0])), (w3, .inr (5, [a3, b3, d3, .int 0])), (w4, .inr (5, [a4, b4, d4, .int 0])), (w5, .inr (5, [a5, b5, d5, .int 0])), (w6, .inr (5, [a6, b6, d6, .int 0])), (w7, .inr (5, [a7, b7, d7, .int 0])), (tk, .inr (8, [.ref tp, .ref t1, .ref t2, .ref t3, .int 0, .int 0, .int 0, .int 0, .int 0, .int 0])), (t1, .inl (cI, 301, .inl (fun _ => 0))), (t2, .inl (cI, 301, .inl (fun _ => 0))), (t3, .inl (cI, 301, .inl (fun _ => 0))), (tp, .inr (7, [.ref tb, .int 0]))] H := hP
  have hD : va_D A [(rd, .inr (4, [y0, .ref tk, .ref bk, y3, y4, .ref r3, y6, y7, .ref r6, .int 0, .int (-1)])), (r3, .inl (cR, 8, .inr (.inr (.inr (.inr (va_up (va_up (va_up (va_up (va_up (va_up (va_up (va_up (fun _ => none) 0 (some w0)) 1 (some w1)) 2 (some w2)) 3 (some w3)) 4 (some w4)) 5 (some w5)) 6 (some w6)) 7 (some w7))))))), (r6, .inr (3, [y8, .int 0])), (w0, .inr (5, [a0, b0, d0, .int 0])), (w1, .inr (5, [a1, b1, d1, .int 0])), (w2, .inr (5, [a2, b2, d2, .int 0])), (w3, .inr (5, [a3, b3, d3, .int 0])), (w4, .inr (5, [a4, b4, d4, .int 0])), (w5, .inr (5, [a5, b5, d5, .int 0])), (w6, .inr (5, [a6, b6, d6, .int 0])), (w7, .inr (5, [a7, b7, d7, .int 0])), (tk, .inr (8, [.ref tp, .ref t1, .ref t2, .ref t3, .int 0, .int 0, .int 0, .int 0, .int 0, .int 0])), (t1, .inl (cI, 301, .inl (fun _ => 0))), (t2, .inl (cI, 301, .inl (fun _ => 0))), (t3, .inl (cI, 301, .inl (fun _ => 0))), (tp, .inr (7, [.ref tb, .int 0]))] := hD
  refine lv_aload_n hx hb dX4_readTape_5 rfl (lv_at hl 0 rfl) ?_
  refine lv_iconst (v := (-1)) hx hb dX4_readTape_6 (by decide) ?_
  refine va_put (D := D) (ci := 4) (v := .int (-1)) (ty := .int) (C := RX4) (T := TX4) (N := 11) hx hb hts (by decide +kernel) tyX4 tyX4_ok nmX4 hown hK.1 hP hD hS 0 rfl rfl 10 (by decide) (hts (.fieldLink RX4 35 "JugglingHall$Reader" "place" "I") (by decide +kernel)) (fun _ h9 => h9) rfl (by decide +kernel) rfl rfl (Nat.le_of_ble_eq_true rfl) dX4_readTape_7 (fun H locs hP hD hS => ?_)
  have hP : va_P D vwCl [(rd, .inr (4, [y0, .ref tk, .ref bk, y3, y4, .ref r3, y6, y7, .ref r6, .int 0, .int (-1)])), (r3, .inl (cR, 8, .inr (.inr (.inr (.inr (va_up (va_up (va_up (va_up (va_up (va_up (va_up (va_up (fun _ => none) 0 (some w0)) 1 (some w1)) 2 (some w2)) 3 (some w3)) 4 (some w4)) 5 (some w5)) 6 (some w6)) 7 (some w7))))))), (r6, .inr (3, [y8, .int 0])), (w0, .inr (5, [a0, b0, d0, .int 0])), (w1, .inr (5, [a1, b1, d1, .int 0])), (w2, .inr (5, [a2, b2, d2, .int 0])), (w3, .inr (5, [a3, b3, d3, .int 0])), (w4, .inr (5, [a4, b4, d4, .int 0])), (w5, .inr (5, [a5, b5, d5, .int 0])), (w6, .inr (5, [a6, b6, d6, .int 0])), (w7, .inr (5, [a7, b7, d7, .int 0])), (tk, .inr (8, [.ref tp, .ref t1, .ref t2, .ref t3, .int 0, .int 0, .int 0, .int 0, .int 0, .int 0])), (t1, .inl (cI, 301, .inl (fun _ => 0))), (t2, .inl (cI, 301, .inl (fun _ => 0))), (t3, .inl (cI, 301, .inl (fun _ => 0))), (tp, .inr (7, [.ref tb, .int 0]))] H := hP
  have hD : va_D A [(rd, .inr (4, [y0, .ref tk, .ref bk, y3, y4, .ref r3, y6, y7, .ref r6, .int 0, .int (-1)])), (r3, .inl (cR, 8, .inr (.inr (.inr (.inr (va_up (va_up (va_up (va_up (va_up (va_up (va_up (va_up (fun _ => none) 0 (some w0)) 1 (some w1)) 2 (some w2)) 3 (some w3)) 4 (some w4)) 5 (some w5)) 6 (some w6)) 7 (some w7))))))), (r6, .inr (3, [y8, .int 0])), (w0, .inr (5, [a0, b0, d0, .int 0])), (w1, .inr (5, [a1, b1, d1, .int 0])), (w2, .inr (5, [a2, b2, d2, .int 0])), (w3, .inr (5, [a3, b3, d3, .int 0])), (w4, .inr (5, [a4, b4, d4, .int 0])), (w5, .inr (5, [a5, b5, d5, .int 0])), (w6, .inr (5, [a6, b6, d6, .int 0])), (w7, .inr (5, [a7, b7, d7, .int 0])), (tk, .inr (8, [.ref tp, .ref t1, .ref t2, .ref t3, .int 0, .int 0, .int 0, .int 0, .int 0, .int 0])), (t1, .inl (cI, 301, .inl (fun _ => 0))), (t2, .inl (cI, 301, .inl (fun _ => 0))), (t3, .inl (cI, 301, .inl (fun _ => 0))), (tp, .inr (7, [.ref tb, .int 0]))] := hD
  refine lv_aload_n hx hb dX4_readTape_10 rfl (lv_at hl 0 rfl) ?_
  refine va_get (D := D) (ci := 4) (v := .ref r6) (C := RX4) (T := TX4) (N := 11) hx hb hts (by decide +kernel) hown hK.1 hP 0 rfl rfl 8 (by decide) (hts (.fieldLink RX4 27 "JugglingHall$Reader" "marks" "LJugglingHall$Marks;") (by decide +kernel)) (fun _ h9 => h9) rfl dX4_readTape_11 ?_
  refine lv_iconst (v := 0) hx hb dX4_readTape_14 (by decide) ?_
  refine va_putN (D := D) (ci := 3) (v := .int 0) (ty := .int) (C := RX3) (T := TX3) (N := 2) (host := "JugglingHall") hx hb hts (by decide +kernel) tyX3 tyX3_ok nmX3 hown hK.1 hP hD hS 2 rfl rfl 1 (by decide) (hK.nw (.fieldLinkNest RX4 59 "JugglingHall$Marks" "count" "I" "JugglingHall") (by decide +kernel) rfl) (fun _ h9 => h9) rfl (by decide +kernel) rfl rfl (Nat.le_of_ble_eq_true rfl) dX4_readTape_15 (fun H locs hP hD hS => ?_)
  have hP : va_P D vwCl [(rd, .inr (4, [y0, .ref tk, .ref bk, y3, y4, .ref r3, y6, y7, .ref r6, .int 0, .int (-1)])), (r3, .inl (cR, 8, .inr (.inr (.inr (.inr (va_up (va_up (va_up (va_up (va_up (va_up (va_up (va_up (fun _ => none) 0 (some w0)) 1 (some w1)) 2 (some w2)) 3 (some w3)) 4 (some w4)) 5 (some w5)) 6 (some w6)) 7 (some w7))))))), (r6, .inr (3, [y8, .int 0])), (w0, .inr (5, [a0, b0, d0, .int 0])), (w1, .inr (5, [a1, b1, d1, .int 0])), (w2, .inr (5, [a2, b2, d2, .int 0])), (w3, .inr (5, [a3, b3, d3, .int 0])), (w4, .inr (5, [a4, b4, d4, .int 0])), (w5, .inr (5, [a5, b5, d5, .int 0])), (w6, .inr (5, [a6, b6, d6, .int 0])), (w7, .inr (5, [a7, b7, d7, .int 0])), (tk, .inr (8, [.ref tp, .ref t1, .ref t2, .ref t3, .int 0, .int 0, .int 0, .int 0, .int 0, .int 0])), (t1, .inl (cI, 301, .inl (fun _ => 0))), (t2, .inl (cI, 301, .inl (fun _ => 0))), (t3, .inl (cI, 301, .inl (fun _ => 0))), (tp, .inr (7, [.ref tb, .int 0]))] H := hP
  have hD : va_D A [(rd, .inr (4, [y0, .ref tk, .ref bk, y3, y4, .ref r3, y6, y7, .ref r6, .int 0, .int (-1)])), (r3, .inl (cR, 8, .inr (.inr (.inr (.inr (va_up (va_up (va_up (va_up (va_up (va_up (va_up (va_up (fun _ => none) 0 (some w0)) 1 (some w1)) 2 (some w2)) 3 (some w3)) 4 (some w4)) 5 (some w5)) 6 (some w6)) 7 (some w7))))))), (r6, .inr (3, [y8, .int 0])), (w0, .inr (5, [a0, b0, d0, .int 0])), (w1, .inr (5, [a1, b1, d1, .int 0])), (w2, .inr (5, [a2, b2, d2, .int 0])), (w3, .inr (5, [a3, b3, d3, .int 0])), (w4, .inr (5, [a4, b4, d4, .int 0])), (w5, .inr (5, [a5, b5, d5, .int 0])), (w6, .inr (5, [a6, b6, d6, .int 0])), (w7, .inr (5, [a7, b7, d7, .int 0])), (tk, .inr (8, [.ref tp, .ref t1, .ref t2, .ref t3, .int 0, .int 0, .int 0, .int 0, .int 0, .int 0])), (t1, .inl (cI, 301, .inl (fun _ => 0))), (t2, .inl (cI, 301, .inl (fun _ => 0))), (t3, .inl (cI, 301, .inl (fun _ => 0))), (tp, .inr (7, [.ref tb, .int 0]))] := hD
  refine lv_iconst (v := 0) hx hb dX4_readTape_18 (by decide) ?_
  refine lv_istore_n (lv' := [(1, .int 0), (0, .ref rd)]) hx hb dX4_readTape_19 rfl hl (by decide) rfl (fun ls hl => ?_)
  refine lv_iload_n hx hb dX4_readTape_20 rfl (lv_at hl 0 rfl) ?_
  refine lv_aload_n hx hb dX4_readTape_21 rfl (lv_at hl 1 rfl) ?_
  refine va_get (D := D) (ci := 4) (v := .ref r3) (C := RX4) (T := TX4) (N := 11) hx hb hts (by decide +kernel) hown hK.1 hP 0 rfl rfl 5 (by decide) (hts (.fieldLink RX4 21 "JugglingHall$Reader" "here" "[LJugglingHall$Row;") (by decide +kernel)) (fun _ h9 => h9) rfl dX4_readTape_22 ?_
  refine va_alen (v := nI 8) hx hb hK.1 hP 1 1 rfl rfl rfl dX4_readTape_25 ?_
  refine lv_icmp_ge (tgt := 45) hx hb dX4_readTape_26 (by decide) (fun c26 => absurd c26 (by decide)) (fun c26 => ?_)
  refine lv_aload_n hx hb dX4_readTape_29 rfl (lv_at hl 1 rfl) ?_
  refine va_get (D := D) (ci := 4) (v := .ref r3) (C := RX4) (T := TX4) (N := 11) hx hb hts (by decide +kernel) hown hK.1 hP 0 rfl rfl 5 (by decide) (hts (.fieldLink RX4 21 "JugglingHall$Reader" "here" "[LJugglingHall$Row;") (by decide +kernel)) (fun _ h9 => h9) rfl dX4_readTape_30 ?_
  refine lv_iload_n hx hb dX4_readTape_33 rfl (lv_at hl 0 rfl) ?_
  refine aald_n (k := 0) (v := .ref w0) hx hb hK.1 hP 1 1 rfl rfl (by decide) (by decide) (rfl) dX4_readTape_34 ?_
  refine lv_iconst (v := 0) hx hb dX4_readTape_35 (by decide) ?_
  refine va_putN (D := D) (ci := 5) (v := .int 0) (ty := .int) (C := RX5) (T := TX5) (N := 4) (host := "JugglingHall") hx hb hts (by decide +kernel) tyX5 tyX5_ok nmX5 hown hK.1 hP hD hS 3 rfl rfl 3 (by decide) (hK.nw (.fieldLinkNest RX4 62 "JugglingHall$Row" "length" "I" "JugglingHall") (by decide +kernel) rfl) (fun _ h9 => h9) rfl (by decide +kernel) rfl rfl (Nat.le_of_ble_eq_true rfl) dX4_readTape_36 (fun H locs hP hD hS => ?_)
  have hP : va_P D vwCl [(rd, .inr (4, [y0, .ref tk, .ref bk, y3, y4, .ref r3, y6, y7, .ref r6, .int 0, .int (-1)])), (r3, .inl (cR, 8, .inr (.inr (.inr (.inr (va_up (va_up (va_up (va_up (va_up (va_up (va_up (va_up (fun _ => none) 0 (some w0)) 1 (some w1)) 2 (some w2)) 3 (some w3)) 4 (some w4)) 5 (some w5)) 6 (some w6)) 7 (some w7))))))), (r6, .inr (3, [y8, .int 0])), (w0, .inr (5, [a0, b0, d0, .int 0])), (w1, .inr (5, [a1, b1, d1, .int 0])), (w2, .inr (5, [a2, b2, d2, .int 0])), (w3, .inr (5, [a3, b3, d3, .int 0])), (w4, .inr (5, [a4, b4, d4, .int 0])), (w5, .inr (5, [a5, b5, d5, .int 0])), (w6, .inr (5, [a6, b6, d6, .int 0])), (w7, .inr (5, [a7, b7, d7, .int 0])), (tk, .inr (8, [.ref tp, .ref t1, .ref t2, .ref t3, .int 0, .int 0, .int 0, .int 0, .int 0, .int 0])), (t1, .inl (cI, 301, .inl (fun _ => 0))), (t2, .inl (cI, 301, .inl (fun _ => 0))), (t3, .inl (cI, 301, .inl (fun _ => 0))), (tp, .inr (7, [.ref tb, .int 0]))] H := hP
  have hD : va_D A [(rd, .inr (4, [y0, .ref tk, .ref bk, y3, y4, .ref r3, y6, y7, .ref r6, .int 0, .int (-1)])), (r3, .inl (cR, 8, .inr (.inr (.inr (.inr (va_up (va_up (va_up (va_up (va_up (va_up (va_up (va_up (fun _ => none) 0 (some w0)) 1 (some w1)) 2 (some w2)) 3 (some w3)) 4 (some w4)) 5 (some w5)) 6 (some w6)) 7 (some w7))))))), (r6, .inr (3, [y8, .int 0])), (w0, .inr (5, [a0, b0, d0, .int 0])), (w1, .inr (5, [a1, b1, d1, .int 0])), (w2, .inr (5, [a2, b2, d2, .int 0])), (w3, .inr (5, [a3, b3, d3, .int 0])), (w4, .inr (5, [a4, b4, d4, .int 0])), (w5, .inr (5, [a5, b5, d5, .int 0])), (w6, .inr (5, [a6, b6, d6, .int 0])), (w7, .inr (5, [a7, b7, d7, .int 0])), (tk, .inr (8, [.ref tp, .ref t1, .ref t2, .ref t3, .int 0, .int 0, .int 0, .int 0, .int 0, .int 0])), (t1, .inl (cI, 301, .inl (fun _ => 0))), (t2, .inl (cI, 301, .inl (fun _ => 0))), (t3, .inl (cI, 301, .inl (fun _ => 0))), (tp, .inr (7, [.ref tb, .int 0]))] := hD
  refine lv_iinc (v := 1) (lv' := [(1, .int 1), (0, .ref rd)]) hx hb dX4_readTape_39 hl (k := 0) rfl (by decide) (by decide) rfl (fun ls hl => ?_)
  refine lv_goto (tgt := 20) hx hb dX4_readTape_42 (by decide) ?_
  refine lv_iload_n hx hb dX4_readTape_20 rfl (lv_at hl 0 rfl) ?_
  refine lv_aload_n hx hb dX4_readTape_21 rfl (lv_at hl 1 rfl) ?_
  refine va_get (D := D) (ci := 4) (v := .ref r3) (C := RX4) (T := TX4) (N := 11) hx hb hts (by decide +kernel) hown hK.1 hP 0 rfl rfl 5 (by decide) (hts (.fieldLink RX4 21 "JugglingHall$Reader" "here" "[LJugglingHall$Row;") (by decide +kernel)) (fun _ h9 => h9) rfl dX4_readTape_22 ?_
  refine va_alen (v := nI 8) hx hb hK.1 hP 1 1 rfl rfl rfl dX4_readTape_25 ?_
  refine lv_icmp_ge (tgt := 45) hx hb dX4_readTape_26 (by decide) (fun c26 => absurd c26 (by decide)) (fun c26 => ?_)
  refine lv_aload_n hx hb dX4_readTape_29 rfl (lv_at hl 1 rfl) ?_
  refine va_get (D := D) (ci := 4) (v := .ref r3) (C := RX4) (T := TX4) (N := 11) hx hb hts (by decide +kernel) hown hK.1 hP 0 rfl rfl 5 (by decide) (hts (.fieldLink RX4 21 "JugglingHall$Reader" "here" "[LJugglingHall$Row;") (by decide +kernel)) (fun _ h9 => h9) rfl dX4_readTape_30 ?_
  refine lv_iload_n hx hb dX4_readTape_33 rfl (lv_at hl 0 rfl) ?_
  refine aald_n (k := 1) (v := .ref w1) hx hb hK.1 hP 1 1 rfl rfl (by decide) (by decide) (rfl) dX4_readTape_34 ?_
  refine lv_iconst (v := 0) hx hb dX4_readTape_35 (by decide) ?_
  refine va_putN (D := D) (ci := 5) (v := .int 0) (ty := .int) (C := RX5) (T := TX5) (N := 4) (host := "JugglingHall") hx hb hts (by decide +kernel) tyX5 tyX5_ok nmX5 hown hK.1 hP hD hS 4 rfl rfl 3 (by decide) (hK.nw (.fieldLinkNest RX4 62 "JugglingHall$Row" "length" "I" "JugglingHall") (by decide +kernel) rfl) (fun _ h9 => h9) rfl (by decide +kernel) rfl rfl (Nat.le_of_ble_eq_true rfl) dX4_readTape_36 (fun H locs hP hD hS => ?_)
  have hP : va_P D vwCl [(rd, .inr (4, [y0, .ref tk, .ref bk, y3, y4, .ref r3, y6, y7, .ref r6, .int 0, .int (-1)])), (r3, .inl (cR, 8, .inr (.inr (.inr (.inr (va_up (va_up (va_up (va_up (va_up (va_up (va_up (va_up (fun _ => none) 0 (some w0)) 1 (some w1)) 2 (some w2)) 3 (some w3)) 4 (some w4)) 5 (some w5)) 6 (some w6)) 7 (some w7))))))), (r6, .inr (3, [y8, .int 0])), (w0, .inr (5, [a0, b0, d0, .int 0])), (w1, .inr (5, [a1, b1, d1, .int 0])), (w2, .inr (5, [a2, b2, d2, .int 0])), (w3, .inr (5, [a3, b3, d3, .int 0])), (w4, .inr (5, [a4, b4, d4, .int 0])), (w5, .inr (5, [a5, b5, d5, .int 0])), (w6, .inr (5, [a6, b6, d6, .int 0])), (w7, .inr (5, [a7, b7, d7, .int 0])), (tk, .inr (8, [.ref tp, .ref t1, .ref t2, .ref t3, .int 0, .int 0, .int 0, .int 0, .int 0, .int 0])), (t1, .inl (cI, 301, .inl (fun _ => 0))), (t2, .inl (cI, 301, .inl (fun _ => 0))), (t3, .inl (cI, 301, .inl (fun _ => 0))), (tp, .inr (7, [.ref tb, .int 0]))] H := hP
  have hD : va_D A [(rd, .inr (4, [y0, .ref tk, .ref bk, y3, y4, .ref r3, y6, y7, .ref r6, .int 0, .int (-1)])), (r3, .inl (cR, 8, .inr (.inr (.inr (.inr (va_up (va_up (va_up (va_up (va_up (va_up (va_up (va_up (fun _ => none) 0 (some w0)) 1 (some w1)) 2 (some w2)) 3 (some w3)) 4 (some w4)) 5 (some w5)) 6 (some w6)) 7 (some w7))))))), (r6, .inr (3, [y8, .int 0])), (w0, .inr (5, [a0, b0, d0, .int 0])), (w1, .inr (5, [a1, b1, d1, .int 0])), (w2, .inr (5, [a2, b2, d2, .int 0])), (w3, .inr (5, [a3, b3, d3, .int 0])), (w4, .inr (5, [a4, b4, d4, .int 0])), (w5, .inr (5, [a5, b5, d5, .int 0])), (w6, .inr (5, [a6, b6, d6, .int 0])), (w7, .inr (5, [a7, b7, d7, .int 0])), (tk, .inr (8, [.ref tp, .ref t1, .ref t2, .ref t3, .int 0, .int 0, .int 0, .int 0, .int 0, .int 0])), (t1, .inl (cI, 301, .inl (fun _ => 0))), (t2, .inl (cI, 301, .inl (fun _ => 0))), (t3, .inl (cI, 301, .inl (fun _ => 0))), (tp, .inr (7, [.ref tb, .int 0]))] := hD
  refine lv_iinc (v := 2) (lv' := [(1, .int 2), (0, .ref rd)]) hx hb dX4_readTape_39 hl (k := 0) rfl (by decide) (by decide) rfl (fun ls hl => ?_)
  refine lv_goto (tgt := 20) hx hb dX4_readTape_42 (by decide) ?_
  refine lv_iload_n hx hb dX4_readTape_20 rfl (lv_at hl 0 rfl) ?_
  refine lv_aload_n hx hb dX4_readTape_21 rfl (lv_at hl 1 rfl) ?_
  refine va_get (D := D) (ci := 4) (v := .ref r3) (C := RX4) (T := TX4) (N := 11) hx hb hts (by decide +kernel) hown hK.1 hP 0 rfl rfl 5 (by decide) (hts (.fieldLink RX4 21 "JugglingHall$Reader" "here" "[LJugglingHall$Row;") (by decide +kernel)) (fun _ h9 => h9) rfl dX4_readTape_22 ?_
  refine va_alen (v := nI 8) hx hb hK.1 hP 1 1 rfl rfl rfl dX4_readTape_25 ?_
  refine lv_icmp_ge (tgt := 45) hx hb dX4_readTape_26 (by decide) (fun c26 => absurd c26 (by decide)) (fun c26 => ?_)
  refine lv_aload_n hx hb dX4_readTape_29 rfl (lv_at hl 1 rfl) ?_
  refine va_get (D := D) (ci := 4) (v := .ref r3) (C := RX4) (T := TX4) (N := 11) hx hb hts (by decide +kernel) hown hK.1 hP 0 rfl rfl 5 (by decide) (hts (.fieldLink RX4 21 "JugglingHall$Reader" "here" "[LJugglingHall$Row;") (by decide +kernel)) (fun _ h9 => h9) rfl dX4_readTape_30 ?_
  refine lv_iload_n hx hb dX4_readTape_33 rfl (lv_at hl 0 rfl) ?_
  refine aald_n (k := 2) (v := .ref w2) hx hb hK.1 hP 1 1 rfl rfl (by decide) (by decide) (rfl) dX4_readTape_34 ?_
  refine lv_iconst (v := 0) hx hb dX4_readTape_35 (by decide) ?_
  refine va_putN (D := D) (ci := 5) (v := .int 0) (ty := .int) (C := RX5) (T := TX5) (N := 4) (host := "JugglingHall") hx hb hts (by decide +kernel) tyX5 tyX5_ok nmX5 hown hK.1 hP hD hS 5 rfl rfl 3 (by decide) (hK.nw (.fieldLinkNest RX4 62 "JugglingHall$Row" "length" "I" "JugglingHall") (by decide +kernel) rfl) (fun _ h9 => h9) rfl (by decide +kernel) rfl rfl (Nat.le_of_ble_eq_true rfl) dX4_readTape_36 (fun H locs hP hD hS => ?_)
  have hP : va_P D vwCl [(rd, .inr (4, [y0, .ref tk, .ref bk, y3, y4, .ref r3, y6, y7, .ref r6, .int 0, .int (-1)])), (r3, .inl (cR, 8, .inr (.inr (.inr (.inr (va_up (va_up (va_up (va_up (va_up (va_up (va_up (va_up (fun _ => none) 0 (some w0)) 1 (some w1)) 2 (some w2)) 3 (some w3)) 4 (some w4)) 5 (some w5)) 6 (some w6)) 7 (some w7))))))), (r6, .inr (3, [y8, .int 0])), (w0, .inr (5, [a0, b0, d0, .int 0])), (w1, .inr (5, [a1, b1, d1, .int 0])), (w2, .inr (5, [a2, b2, d2, .int 0])), (w3, .inr (5, [a3, b3, d3, .int 0])), (w4, .inr (5, [a4, b4, d4, .int 0])), (w5, .inr (5, [a5, b5, d5, .int 0])), (w6, .inr (5, [a6, b6, d6, .int 0])), (w7, .inr (5, [a7, b7, d7, .int 0])), (tk, .inr (8, [.ref tp, .ref t1, .ref t2, .ref t3, .int 0, .int 0, .int 0, .int 0, .int 0, .int 0])), (t1, .inl (cI, 301, .inl (fun _ => 0))), (t2, .inl (cI, 301, .inl (fun _ => 0))), (t3, .inl (cI, 301, .inl (fun _ => 0))), (tp, .inr (7, [.ref tb, .int 0]))] H := hP
  have hD : va_D A [(rd, .inr (4, [y0, .ref tk, .ref bk, y3, y4, .ref r3, y6, y7, .ref r6, .int 0, .int (-1)])), (r3, .inl (cR, 8, .inr (.inr (.inr (.inr (va_up (va_up (va_up (va_up (va_up (va_up (va_up (va_up (fun _ => none) 0 (some w0)) 1 (some w1)) 2 (some w2)) 3 (some w3)) 4 (some w4)) 5 (some w5)) 6 (some w6)) 7 (some w7))))))), (r6, .inr (3, [y8, .int 0])), (w0, .inr (5, [a0, b0, d0, .int 0])), (w1, .inr (5, [a1, b1, d1, .int 0])), (w2, .inr (5, [a2, b2, d2, .int 0])), (w3, .inr (5, [a3, b3, d3, .int 0])), (w4, .inr (5, [a4, b4, d4, .int 0])), (w5, .inr (5, [a5, b5, d5, .int 0])), (w6, .inr (5, [a6, b6, d6, .int 0])), (w7, .inr (5, [a7, b7, d7, .int 0])), (tk, .inr (8, [.ref tp, .ref t1, .ref t2, .ref t3, .int 0, .int 0, .int 0, .int 0, .int 0, .int 0])), (t1, .inl (cI, 301, .inl (fun _ => 0))), (t2, .inl (cI, 301, .inl (fun _ => 0))), (t3, .inl (cI, 301, .inl (fun _ => 0))), (tp, .inr (7, [.ref tb, .int 0]))] := hD
  refine lv_iinc (v := 3) (lv' := [(1, .int 3), (0, .ref rd)]) hx hb dX4_readTape_39 hl (k := 0) rfl (by decide) (by decide) rfl (fun ls hl => ?_)
  refine lv_goto (tgt := 20) hx hb dX4_readTape_42 (by decide) ?_
  refine lv_iload_n hx hb dX4_readTape_20 rfl (lv_at hl 0 rfl) ?_
  refine lv_aload_n hx hb dX4_readTape_21 rfl (lv_at hl 1 rfl) ?_
  refine va_get (D := D) (ci := 4) (v := .ref r3) (C := RX4) (T := TX4) (N := 11) hx hb hts (by decide +kernel) hown hK.1 hP 0 rfl rfl 5 (by decide) (hts (.fieldLink RX4 21 "JugglingHall$Reader" "here" "[LJugglingHall$Row;") (by decide +kernel)) (fun _ h9 => h9) rfl dX4_readTape_22 ?_
  refine va_alen (v := nI 8) hx hb hK.1 hP 1 1 rfl rfl rfl dX4_readTape_25 ?_
  refine lv_icmp_ge (tgt := 45) hx hb dX4_readTape_26 (by decide) (fun c26 => absurd c26 (by decide)) (fun c26 => ?_)
  refine lv_aload_n hx hb dX4_readTape_29 rfl (lv_at hl 1 rfl) ?_
  refine va_get (D := D) (ci := 4) (v := .ref r3) (C := RX4) (T := TX4) (N := 11) hx hb hts (by decide +kernel) hown hK.1 hP 0 rfl rfl 5 (by decide) (hts (.fieldLink RX4 21 "JugglingHall$Reader" "here" "[LJugglingHall$Row;") (by decide +kernel)) (fun _ h9 => h9) rfl dX4_readTape_30 ?_
  refine lv_iload_n hx hb dX4_readTape_33 rfl (lv_at hl 0 rfl) ?_
  refine aald_n (k := 3) (v := .ref w3) hx hb hK.1 hP 1 1 rfl rfl (by decide) (by decide) (rfl) dX4_readTape_34 ?_
  refine lv_iconst (v := 0) hx hb dX4_readTape_35 (by decide) ?_
  refine va_putN (D := D) (ci := 5) (v := .int 0) (ty := .int) (C := RX5) (T := TX5) (N := 4) (host := "JugglingHall") hx hb hts (by decide +kernel) tyX5 tyX5_ok nmX5 hown hK.1 hP hD hS 6 rfl rfl 3 (by decide) (hK.nw (.fieldLinkNest RX4 62 "JugglingHall$Row" "length" "I" "JugglingHall") (by decide +kernel) rfl) (fun _ h9 => h9) rfl (by decide +kernel) rfl rfl (Nat.le_of_ble_eq_true rfl) dX4_readTape_36 (fun H locs hP hD hS => ?_)
  have hP : va_P D vwCl [(rd, .inr (4, [y0, .ref tk, .ref bk, y3, y4, .ref r3, y6, y7, .ref r6, .int 0, .int (-1)])), (r3, .inl (cR, 8, .inr (.inr (.inr (.inr (va_up (va_up (va_up (va_up (va_up (va_up (va_up (va_up (fun _ => none) 0 (some w0)) 1 (some w1)) 2 (some w2)) 3 (some w3)) 4 (some w4)) 5 (some w5)) 6 (some w6)) 7 (some w7))))))), (r6, .inr (3, [y8, .int 0])), (w0, .inr (5, [a0, b0, d0, .int 0])), (w1, .inr (5, [a1, b1, d1, .int 0])), (w2, .inr (5, [a2, b2, d2, .int 0])), (w3, .inr (5, [a3, b3, d3, .int 0])), (w4, .inr (5, [a4, b4, d4, .int 0])), (w5, .inr (5, [a5, b5, d5, .int 0])), (w6, .inr (5, [a6, b6, d6, .int 0])), (w7, .inr (5, [a7, b7, d7, .int 0])), (tk, .inr (8, [.ref tp, .ref t1, .ref t2, .ref t3, .int 0, .int 0, .int 0, .int 0, .int 0, .int 0])), (t1, .inl (cI, 301, .inl (fun _ => 0))), (t2, .inl (cI, 301, .inl (fun _ => 0))), (t3, .inl (cI, 301, .inl (fun _ => 0))), (tp, .inr (7, [.ref tb, .int 0]))] H := hP
  have hD : va_D A [(rd, .inr (4, [y0, .ref tk, .ref bk, y3, y4, .ref r3, y6, y7, .ref r6, .int 0, .int (-1)])), (r3, .inl (cR, 8, .inr (.inr (.inr (.inr (va_up (va_up (va_up (va_up (va_up (va_up (va_up (va_up (fun _ => none) 0 (some w0)) 1 (some w1)) 2 (some w2)) 3 (some w3)) 4 (some w4)) 5 (some w5)) 6 (some w6)) 7 (some w7))))))), (r6, .inr (3, [y8, .int 0])), (w0, .inr (5, [a0, b0, d0, .int 0])), (w1, .inr (5, [a1, b1, d1, .int 0])), (w2, .inr (5, [a2, b2, d2, .int 0])), (w3, .inr (5, [a3, b3, d3, .int 0])), (w4, .inr (5, [a4, b4, d4, .int 0])), (w5, .inr (5, [a5, b5, d5, .int 0])), (w6, .inr (5, [a6, b6, d6, .int 0])), (w7, .inr (5, [a7, b7, d7, .int 0])), (tk, .inr (8, [.ref tp, .ref t1, .ref t2, .ref t3, .int 0, .int 0, .int 0, .int 0, .int 0, .int 0])), (t1, .inl (cI, 301, .inl (fun _ => 0))), (t2, .inl (cI, 301, .inl (fun _ => 0))), (t3, .inl (cI, 301, .inl (fun _ => 0))), (tp, .inr (7, [.ref tb, .int 0]))] := hD
  refine lv_iinc (v := 4) (lv' := [(1, .int 4), (0, .ref rd)]) hx hb dX4_readTape_39 hl (k := 0) rfl (by decide) (by decide) rfl (fun ls hl => ?_)
  refine lv_goto (tgt := 20) hx hb dX4_readTape_42 (by decide) ?_
  refine lv_iload_n hx hb dX4_readTape_20 rfl (lv_at hl 0 rfl) ?_
  refine lv_aload_n hx hb dX4_readTape_21 rfl (lv_at hl 1 rfl) ?_
  refine va_get (D := D) (ci := 4) (v := .ref r3) (C := RX4) (T := TX4) (N := 11) hx hb hts (by decide +kernel) hown hK.1 hP 0 rfl rfl 5 (by decide) (hts (.fieldLink RX4 21 "JugglingHall$Reader" "here" "[LJugglingHall$Row;") (by decide +kernel)) (fun _ h9 => h9) rfl dX4_readTape_22 ?_
  refine va_alen (v := nI 8) hx hb hK.1 hP 1 1 rfl rfl rfl dX4_readTape_25 ?_
  refine lv_icmp_ge (tgt := 45) hx hb dX4_readTape_26 (by decide) (fun c26 => absurd c26 (by decide)) (fun c26 => ?_)
  refine lv_aload_n hx hb dX4_readTape_29 rfl (lv_at hl 1 rfl) ?_
  refine va_get (D := D) (ci := 4) (v := .ref r3) (C := RX4) (T := TX4) (N := 11) hx hb hts (by decide +kernel) hown hK.1 hP 0 rfl rfl 5 (by decide) (hts (.fieldLink RX4 21 "JugglingHall$Reader" "here" "[LJugglingHall$Row;") (by decide +kernel)) (fun _ h9 => h9) rfl dX4_readTape_30 ?_
  refine lv_iload_n hx hb dX4_readTape_33 rfl (lv_at hl 0 rfl) ?_
  refine aald_n (k := 4) (v := .ref w4) hx hb hK.1 hP 1 1 rfl rfl (by decide) (by decide) (rfl) dX4_readTape_34 ?_
  refine lv_iconst (v := 0) hx hb dX4_readTape_35 (by decide) ?_
  refine va_putN (D := D) (ci := 5) (v := .int 0) (ty := .int) (C := RX5) (T := TX5) (N := 4) (host := "JugglingHall") hx hb hts (by decide +kernel) tyX5 tyX5_ok nmX5 hown hK.1 hP hD hS 7 rfl rfl 3 (by decide) (hK.nw (.fieldLinkNest RX4 62 "JugglingHall$Row" "length" "I" "JugglingHall") (by decide +kernel) rfl) (fun _ h9 => h9) rfl (by decide +kernel) rfl rfl (Nat.le_of_ble_eq_true rfl) dX4_readTape_36 (fun H locs hP hD hS => ?_)
  have hP : va_P D vwCl [(rd, .inr (4, [y0, .ref tk, .ref bk, y3, y4, .ref r3, y6, y7, .ref r6, .int 0, .int (-1)])), (r3, .inl (cR, 8, .inr (.inr (.inr (.inr (va_up (va_up (va_up (va_up (va_up (va_up (va_up (va_up (fun _ => none) 0 (some w0)) 1 (some w1)) 2 (some w2)) 3 (some w3)) 4 (some w4)) 5 (some w5)) 6 (some w6)) 7 (some w7))))))), (r6, .inr (3, [y8, .int 0])), (w0, .inr (5, [a0, b0, d0, .int 0])), (w1, .inr (5, [a1, b1, d1, .int 0])), (w2, .inr (5, [a2, b2, d2, .int 0])), (w3, .inr (5, [a3, b3, d3, .int 0])), (w4, .inr (5, [a4, b4, d4, .int 0])), (w5, .inr (5, [a5, b5, d5, .int 0])), (w6, .inr (5, [a6, b6, d6, .int 0])), (w7, .inr (5, [a7, b7, d7, .int 0])), (tk, .inr (8, [.ref tp, .ref t1, .ref t2, .ref t3, .int 0, .int 0, .int 0, .int 0, .int 0, .int 0])), (t1, .inl (cI, 301, .inl (fun _ => 0))), (t2, .inl (cI, 301, .inl (fun _ => 0))), (t3, .inl (cI, 301, .inl (fun _ => 0))), (tp, .inr (7, [.ref tb, .int 0]))] H := hP
  have hD : va_D A [(rd, .inr (4, [y0, .ref tk, .ref bk, y3, y4, .ref r3, y6, y7, .ref r6, .int 0, .int (-1)])), (r3, .inl (cR, 8, .inr (.inr (.inr (.inr (va_up (va_up (va_up (va_up (va_up (va_up (va_up (va_up (fun _ => none) 0 (some w0)) 1 (some w1)) 2 (some w2)) 3 (some w3)) 4 (some w4)) 5 (some w5)) 6 (some w6)) 7 (some w7))))))), (r6, .inr (3, [y8, .int 0])), (w0, .inr (5, [a0, b0, d0, .int 0])), (w1, .inr (5, [a1, b1, d1, .int 0])), (w2, .inr (5, [a2, b2, d2, .int 0])), (w3, .inr (5, [a3, b3, d3, .int 0])), (w4, .inr (5, [a4, b4, d4, .int 0])), (w5, .inr (5, [a5, b5, d5, .int 0])), (w6, .inr (5, [a6, b6, d6, .int 0])), (w7, .inr (5, [a7, b7, d7, .int 0])), (tk, .inr (8, [.ref tp, .ref t1, .ref t2, .ref t3, .int 0, .int 0, .int 0, .int 0, .int 0, .int 0])), (t1, .inl (cI, 301, .inl (fun _ => 0))), (t2, .inl (cI, 301, .inl (fun _ => 0))), (t3, .inl (cI, 301, .inl (fun _ => 0))), (tp, .inr (7, [.ref tb, .int 0]))] := hD
  refine lv_iinc (v := 5) (lv' := [(1, .int 5), (0, .ref rd)]) hx hb dX4_readTape_39 hl (k := 0) rfl (by decide) (by decide) rfl (fun ls hl => ?_)
  refine lv_goto (tgt := 20) hx hb dX4_readTape_42 (by decide) ?_
  refine lv_iload_n hx hb dX4_readTape_20 rfl (lv_at hl 0 rfl) ?_
  refine lv_aload_n hx hb dX4_readTape_21 rfl (lv_at hl 1 rfl) ?_
  refine va_get (D := D) (ci := 4) (v := .ref r3) (C := RX4) (T := TX4) (N := 11) hx hb hts (by decide +kernel) hown hK.1 hP 0 rfl rfl 5 (by decide) (hts (.fieldLink RX4 21 "JugglingHall$Reader" "here" "[LJugglingHall$Row;") (by decide +kernel)) (fun _ h9 => h9) rfl dX4_readTape_22 ?_
  refine va_alen (v := nI 8) hx hb hK.1 hP 1 1 rfl rfl rfl dX4_readTape_25 ?_
  refine lv_icmp_ge (tgt := 45) hx hb dX4_readTape_26 (by decide) (fun c26 => absurd c26 (by decide)) (fun c26 => ?_)
  refine lv_aload_n hx hb dX4_readTape_29 rfl (lv_at hl 1 rfl) ?_
  refine va_get (D := D) (ci := 4) (v := .ref r3) (C := RX4) (T := TX4) (N := 11) hx hb hts (by decide +kernel) hown hK.1 hP 0 rfl rfl 5 (by decide) (hts (.fieldLink RX4 21 "JugglingHall$Reader" "here" "[LJugglingHall$Row;") (by decide +kernel)) (fun _ h9 => h9) rfl dX4_readTape_30 ?_
  refine lv_iload_n hx hb dX4_readTape_33 rfl (lv_at hl 0 rfl) ?_
  refine aald_n (k := 5) (v := .ref w5) hx hb hK.1 hP 1 1 rfl rfl (by decide) (by decide) (rfl) dX4_readTape_34 ?_
  refine lv_iconst (v := 0) hx hb dX4_readTape_35 (by decide) ?_
  refine va_putN (D := D) (ci := 5) (v := .int 0) (ty := .int) (C := RX5) (T := TX5) (N := 4) (host := "JugglingHall") hx hb hts (by decide +kernel) tyX5 tyX5_ok nmX5 hown hK.1 hP hD hS 8 rfl rfl 3 (by decide) (hK.nw (.fieldLinkNest RX4 62 "JugglingHall$Row" "length" "I" "JugglingHall") (by decide +kernel) rfl) (fun _ h9 => h9) rfl (by decide +kernel) rfl rfl (Nat.le_of_ble_eq_true rfl) dX4_readTape_36 (fun H locs hP hD hS => ?_)
  have hP : va_P D vwCl [(rd, .inr (4, [y0, .ref tk, .ref bk, y3, y4, .ref r3, y6, y7, .ref r6, .int 0, .int (-1)])), (r3, .inl (cR, 8, .inr (.inr (.inr (.inr (va_up (va_up (va_up (va_up (va_up (va_up (va_up (va_up (fun _ => none) 0 (some w0)) 1 (some w1)) 2 (some w2)) 3 (some w3)) 4 (some w4)) 5 (some w5)) 6 (some w6)) 7 (some w7))))))), (r6, .inr (3, [y8, .int 0])), (w0, .inr (5, [a0, b0, d0, .int 0])), (w1, .inr (5, [a1, b1, d1, .int 0])), (w2, .inr (5, [a2, b2, d2, .int 0])), (w3, .inr (5, [a3, b3, d3, .int 0])), (w4, .inr (5, [a4, b4, d4, .int 0])), (w5, .inr (5, [a5, b5, d5, .int 0])), (w6, .inr (5, [a6, b6, d6, .int 0])), (w7, .inr (5, [a7, b7, d7, .int 0])), (tk, .inr (8, [.ref tp, .ref t1, .ref t2, .ref t3, .int 0, .int 0, .int 0, .int 0, .int 0, .int 0])), (t1, .inl (cI, 301, .inl (fun _ => 0))), (t2, .inl (cI, 301, .inl (fun _ => 0))), (t3, .inl (cI, 301, .inl (fun _ => 0))), (tp, .inr (7, [.ref tb, .int 0]))] H := hP
  have hD : va_D A [(rd, .inr (4, [y0, .ref tk, .ref bk, y3, y4, .ref r3, y6, y7, .ref r6, .int 0, .int (-1)])), (r3, .inl (cR, 8, .inr (.inr (.inr (.inr (va_up (va_up (va_up (va_up (va_up (va_up (va_up (va_up (fun _ => none) 0 (some w0)) 1 (some w1)) 2 (some w2)) 3 (some w3)) 4 (some w4)) 5 (some w5)) 6 (some w6)) 7 (some w7))))))), (r6, .inr (3, [y8, .int 0])), (w0, .inr (5, [a0, b0, d0, .int 0])), (w1, .inr (5, [a1, b1, d1, .int 0])), (w2, .inr (5, [a2, b2, d2, .int 0])), (w3, .inr (5, [a3, b3, d3, .int 0])), (w4, .inr (5, [a4, b4, d4, .int 0])), (w5, .inr (5, [a5, b5, d5, .int 0])), (w6, .inr (5, [a6, b6, d6, .int 0])), (w7, .inr (5, [a7, b7, d7, .int 0])), (tk, .inr (8, [.ref tp, .ref t1, .ref t2, .ref t3, .int 0, .int 0, .int 0, .int 0, .int 0, .int 0])), (t1, .inl (cI, 301, .inl (fun _ => 0))), (t2, .inl (cI, 301, .inl (fun _ => 0))), (t3, .inl (cI, 301, .inl (fun _ => 0))), (tp, .inr (7, [.ref tb, .int 0]))] := hD
  refine lv_iinc (v := 6) (lv' := [(1, .int 6), (0, .ref rd)]) hx hb dX4_readTape_39 hl (k := 0) rfl (by decide) (by decide) rfl (fun ls hl => ?_)
  refine lv_goto (tgt := 20) hx hb dX4_readTape_42 (by decide) ?_
  refine lv_iload_n hx hb dX4_readTape_20 rfl (lv_at hl 0 rfl) ?_
  refine lv_aload_n hx hb dX4_readTape_21 rfl (lv_at hl 1 rfl) ?_
  refine va_get (D := D) (ci := 4) (v := .ref r3) (C := RX4) (T := TX4) (N := 11) hx hb hts (by decide +kernel) hown hK.1 hP 0 rfl rfl 5 (by decide) (hts (.fieldLink RX4 21 "JugglingHall$Reader" "here" "[LJugglingHall$Row;") (by decide +kernel)) (fun _ h9 => h9) rfl dX4_readTape_22 ?_
  refine va_alen (v := nI 8) hx hb hK.1 hP 1 1 rfl rfl rfl dX4_readTape_25 ?_
  refine lv_icmp_ge (tgt := 45) hx hb dX4_readTape_26 (by decide) (fun c26 => absurd c26 (by decide)) (fun c26 => ?_)
  refine lv_aload_n hx hb dX4_readTape_29 rfl (lv_at hl 1 rfl) ?_
  refine va_get (D := D) (ci := 4) (v := .ref r3) (C := RX4) (T := TX4) (N := 11) hx hb hts (by decide +kernel) hown hK.1 hP 0 rfl rfl 5 (by decide) (hts (.fieldLink RX4 21 "JugglingHall$Reader" "here" "[LJugglingHall$Row;") (by decide +kernel)) (fun _ h9 => h9) rfl dX4_readTape_30 ?_
  refine lv_iload_n hx hb dX4_readTape_33 rfl (lv_at hl 0 rfl) ?_
  refine aald_n (k := 6) (v := .ref w6) hx hb hK.1 hP 1 1 rfl rfl (by decide) (by decide) (rfl) dX4_readTape_34 ?_
  refine lv_iconst (v := 0) hx hb dX4_readTape_35 (by decide) ?_
  refine va_putN (D := D) (ci := 5) (v := .int 0) (ty := .int) (C := RX5) (T := TX5) (N := 4) (host := "JugglingHall") hx hb hts (by decide +kernel) tyX5 tyX5_ok nmX5 hown hK.1 hP hD hS 9 rfl rfl 3 (by decide) (hK.nw (.fieldLinkNest RX4 62 "JugglingHall$Row" "length" "I" "JugglingHall") (by decide +kernel) rfl) (fun _ h9 => h9) rfl (by decide +kernel) rfl rfl (Nat.le_of_ble_eq_true rfl) dX4_readTape_36 (fun H locs hP hD hS => ?_)
  have hP : va_P D vwCl [(rd, .inr (4, [y0, .ref tk, .ref bk, y3, y4, .ref r3, y6, y7, .ref r6, .int 0, .int (-1)])), (r3, .inl (cR, 8, .inr (.inr (.inr (.inr (va_up (va_up (va_up (va_up (va_up (va_up (va_up (va_up (fun _ => none) 0 (some w0)) 1 (some w1)) 2 (some w2)) 3 (some w3)) 4 (some w4)) 5 (some w5)) 6 (some w6)) 7 (some w7))))))), (r6, .inr (3, [y8, .int 0])), (w0, .inr (5, [a0, b0, d0, .int 0])), (w1, .inr (5, [a1, b1, d1, .int 0])), (w2, .inr (5, [a2, b2, d2, .int 0])), (w3, .inr (5, [a3, b3, d3, .int 0])), (w4, .inr (5, [a4, b4, d4, .int 0])), (w5, .inr (5, [a5, b5, d5, .int 0])), (w6, .inr (5, [a6, b6, d6, .int 0])), (w7, .inr (5, [a7, b7, d7, .int 0])), (tk, .inr (8, [.ref tp, .ref t1, .ref t2, .ref t3, .int 0, .int 0, .int 0, .int 0, .int 0, .int 0])), (t1, .inl (cI, 301, .inl (fun _ => 0))), (t2, .inl (cI, 301, .inl (fun _ => 0))), (t3, .inl (cI, 301, .inl (fun _ => 0))), (tp, .inr (7, [.ref tb, .int 0]))] H := hP
  have hD : va_D A [(rd, .inr (4, [y0, .ref tk, .ref bk, y3, y4, .ref r3, y6, y7, .ref r6, .int 0, .int (-1)])), (r3, .inl (cR, 8, .inr (.inr (.inr (.inr (va_up (va_up (va_up (va_up (va_up (va_up (va_up (va_up (fun _ => none) 0 (some w0)) 1 (some w1)) 2 (some w2)) 3 (some w3)) 4 (some w4)) 5 (some w5)) 6 (some w6)) 7 (some w7))))))), (r6, .inr (3, [y8, .int 0])), (w0, .inr (5, [a0, b0, d0, .int 0])), (w1, .inr (5, [a1, b1, d1, .int 0])), (w2, .inr (5, [a2, b2, d2, .int 0])), (w3, .inr (5, [a3, b3, d3, .int 0])), (w4, .inr (5, [a4, b4, d4, .int 0])), (w5, .inr (5, [a5, b5, d5, .int 0])), (w6, .inr (5, [a6, b6, d6, .int 0])), (w7, .inr (5, [a7, b7, d7, .int 0])), (tk, .inr (8, [.ref tp, .ref t1, .ref t2, .ref t3, .int 0, .int 0, .int 0, .int 0, .int 0, .int 0])), (t1, .inl (cI, 301, .inl (fun _ => 0))), (t2, .inl (cI, 301, .inl (fun _ => 0))), (t3, .inl (cI, 301, .inl (fun _ => 0))), (tp, .inr (7, [.ref tb, .int 0]))] := hD
  refine lv_iinc (v := 7) (lv' := [(1, .int 7), (0, .ref rd)]) hx hb dX4_readTape_39 hl (k := 0) rfl (by decide) (by decide) rfl (fun ls hl => ?_)
  refine lv_goto (tgt := 20) hx hb dX4_readTape_42 (by decide) ?_
  refine lv_iload_n hx hb dX4_readTape_20 rfl (lv_at hl 0 rfl) ?_
  refine lv_aload_n hx hb dX4_readTape_21 rfl (lv_at hl 1 rfl) ?_
  refine va_get (D := D) (ci := 4) (v := .ref r3) (C := RX4) (T := TX4) (N := 11) hx hb hts (by decide +kernel) hown hK.1 hP 0 rfl rfl 5 (by decide) (hts (.fieldLink RX4 21 "JugglingHall$Reader" "here" "[LJugglingHall$Row;") (by decide +kernel)) (fun _ h9 => h9) rfl dX4_readTape_22 ?_
  refine va_alen (v := nI 8) hx hb hK.1 hP 1 1 rfl rfl rfl dX4_readTape_25 ?_
  refine lv_icmp_ge (tgt := 45) hx hb dX4_readTape_26 (by decide) (fun c26 => absurd c26 (by decide)) (fun c26 => ?_)
  refine lv_aload_n hx hb dX4_readTape_29 rfl (lv_at hl 1 rfl) ?_
  refine va_get (D := D) (ci := 4) (v := .ref r3) (C := RX4) (T := TX4) (N := 11) hx hb hts (by decide +kernel) hown hK.1 hP 0 rfl rfl 5 (by decide) (hts (.fieldLink RX4 21 "JugglingHall$Reader" "here" "[LJugglingHall$Row;") (by decide +kernel)) (fun _ h9 => h9) rfl dX4_readTape_30 ?_
  refine lv_iload_n hx hb dX4_readTape_33 rfl (lv_at hl 0 rfl) ?_
  refine aald_n (k := 7) (v := .ref w7) hx hb hK.1 hP 1 1 rfl rfl (by decide) (by decide) (rfl) dX4_readTape_34 ?_
  refine lv_iconst (v := 0) hx hb dX4_readTape_35 (by decide) ?_
  refine va_putN (D := D) (ci := 5) (v := .int 0) (ty := .int) (C := RX5) (T := TX5) (N := 4) (host := "JugglingHall") hx hb hts (by decide +kernel) tyX5 tyX5_ok nmX5 hown hK.1 hP hD hS 10 rfl rfl 3 (by decide) (hK.nw (.fieldLinkNest RX4 62 "JugglingHall$Row" "length" "I" "JugglingHall") (by decide +kernel) rfl) (fun _ h9 => h9) rfl (by decide +kernel) rfl rfl (Nat.le_of_ble_eq_true rfl) dX4_readTape_36 (fun H locs hP hD hS => ?_)
  have hP : va_P D vwCl [(rd, .inr (4, [y0, .ref tk, .ref bk, y3, y4, .ref r3, y6, y7, .ref r6, .int 0, .int (-1)])), (r3, .inl (cR, 8, .inr (.inr (.inr (.inr (va_up (va_up (va_up (va_up (va_up (va_up (va_up (va_up (fun _ => none) 0 (some w0)) 1 (some w1)) 2 (some w2)) 3 (some w3)) 4 (some w4)) 5 (some w5)) 6 (some w6)) 7 (some w7))))))), (r6, .inr (3, [y8, .int 0])), (w0, .inr (5, [a0, b0, d0, .int 0])), (w1, .inr (5, [a1, b1, d1, .int 0])), (w2, .inr (5, [a2, b2, d2, .int 0])), (w3, .inr (5, [a3, b3, d3, .int 0])), (w4, .inr (5, [a4, b4, d4, .int 0])), (w5, .inr (5, [a5, b5, d5, .int 0])), (w6, .inr (5, [a6, b6, d6, .int 0])), (w7, .inr (5, [a7, b7, d7, .int 0])), (tk, .inr (8, [.ref tp, .ref t1, .ref t2, .ref t3, .int 0, .int 0, .int 0, .int 0, .int 0, .int 0])), (t1, .inl (cI, 301, .inl (fun _ => 0))), (t2, .inl (cI, 301, .inl (fun _ => 0))), (t3, .inl (cI, 301, .inl (fun _ => 0))), (tp, .inr (7, [.ref tb, .int 0]))] H := hP
  have hD : va_D A [(rd, .inr (4, [y0, .ref tk, .ref bk, y3, y4, .ref r3, y6, y7, .ref r6, .int 0, .int (-1)])), (r3, .inl (cR, 8, .inr (.inr (.inr (.inr (va_up (va_up (va_up (va_up (va_up (va_up (va_up (va_up (fun _ => none) 0 (some w0)) 1 (some w1)) 2 (some w2)) 3 (some w3)) 4 (some w4)) 5 (some w5)) 6 (some w6)) 7 (some w7))))))), (r6, .inr (3, [y8, .int 0])), (w0, .inr (5, [a0, b0, d0, .int 0])), (w1, .inr (5, [a1, b1, d1, .int 0])), (w2, .inr (5, [a2, b2, d2, .int 0])), (w3, .inr (5, [a3, b3, d3, .int 0])), (w4, .inr (5, [a4, b4, d4, .int 0])), (w5, .inr (5, [a5, b5, d5, .int 0])), (w6, .inr (5, [a6, b6, d6, .int 0])), (w7, .inr (5, [a7, b7, d7, .int 0])), (tk, .inr (8, [.ref tp, .ref t1, .ref t2, .ref t3, .int 0, .int 0, .int 0, .int 0, .int 0, .int 0])), (t1, .inl (cI, 301, .inl (fun _ => 0))), (t2, .inl (cI, 301, .inl (fun _ => 0))), (t3, .inl (cI, 301, .inl (fun _ => 0))), (tp, .inr (7, [.ref tb, .int 0]))] := hD
  refine lv_iinc (v := 8) (lv' := [(1, .int 8), (0, .ref rd)]) hx hb dX4_readTape_39 hl (k := 0) rfl (by decide) (by decide) rfl (fun ls hl => ?_)
  refine lv_goto (tgt := 20) hx hb dX4_readTape_42 (by decide) ?_
  refine lv_iload_n hx hb dX4_readTape_20 rfl (lv_at hl 0 rfl) ?_
  refine lv_aload_n hx hb dX4_readTape_21 rfl (lv_at hl 1 rfl) ?_
  refine va_get (D := D) (ci := 4) (v := .ref r3) (C := RX4) (T := TX4) (N := 11) hx hb hts (by decide +kernel) hown hK.1 hP 0 rfl rfl 5 (by decide) (hts (.fieldLink RX4 21 "JugglingHall$Reader" "here" "[LJugglingHall$Row;") (by decide +kernel)) (fun _ h9 => h9) rfl dX4_readTape_22 ?_
  refine va_alen (v := nI 8) hx hb hK.1 hP 1 1 rfl rfl rfl dX4_readTape_25 ?_
  refine lv_icmp_ge (tgt := 45) hx hb dX4_readTape_26 (by decide) (fun c26 => ?_) (fun c26 => absurd (by decide) c26)
  refine lv_aload_n hx hb dX4_readTape_45 rfl (lv_at hl 1 rfl) ?_
  refine va_get (D := D) (ci := 4) (v := .ref tk) (C := RX4) (T := TX4) (N := 11) hx hb hts (by decide +kernel) hown hK.1 hP 0 rfl rfl 1 (by decide) (hts (.fieldLink RX4 41 "JugglingHall$Reader" "tokens" "LJugglingHall$Tokens;") (by decide +kernel)) (fun _ h9 => h9) rfl dX4_readTape_46 ?_
  have hPc := hP.sub (ws' := [(tk, .inr (8, [.ref tp, .ref t1, .ref t2, .ref t3, .int 0, .int 0, .int 0, .int 0, .int 0, .int 0])), (t1, .inl (cI, 301, .inl (fun _ => 0))), (t2, .inl (cI, 301, .inl (fun _ => 0))), (t3, .inl (cI, 301, .inl (fun _ => 0))), (tp, .inr (7, [.ref tb, .int 0]))]) [11, 12, 13, 14, 15] rfl
  have hDc := hD.sub (ws' := [(tk, .inr (8, [.ref tp, .ref t1, .ref t2, .ref t3, .int 0, .int 0, .int 0, .int 0, .int 0, .int 0])), (t1, .inl (cI, 301, .inl (fun _ => 0))), (t2, .inl (cI, 301, .inl (fun _ => 0))), (t3, .inl (cI, 301, .inl (fun _ => 0))), (tp, .inr (7, [.ref tb, .int 0]))]) [11, 12, 13, 14, 15] (by decide) rfl
  refine call_g (wr := [(rd, .inr (4, [y0, .ref tk, .ref bk, y3, y4, .ref r3, y6, y7, .ref r6, .int 0, .int (-1)])), (r3, .inl (cR, 8, .inr (.inr (.inr (.inr (va_up (va_up (va_up (va_up (va_up (va_up (va_up (va_up (fun _ => none) 0 (some w0)) 1 (some w1)) 2 (some w2)) 3 (some w3)) 4 (some w4)) 5 (some w5)) 6 (some w6)) 7 (some w7))))))), (r6, .inr (3, [y8, .int 0])), (w0, .inr (5, [a0, b0, d0, .int 0])), (w1, .inr (5, [a1, b1, d1, .int 0])), (w2, .inr (5, [a2, b2, d2, .int 0])), (w3, .inr (5, [a3, b3, d3, .int 0])), (w4, .inr (5, [a4, b4, d4, .int 0])), (w5, .inr (5, [a5, b5, d5, .int 0])), (w6, .inr (5, [a6, b6, d6, .int 0])), (w7, .inr (5, [a7, b7, d7, .int 0]))]) (va_runV (As := []) (rest := []) ⟨hx, hb, hml, hown, hts⟩ (c_begin l D cI cR cM _ tk tp t1 t2 t3 tb) (cwV 0 hts gX4_readTape_X8_begin rfl rfl rfl (by decide +kernel) ⟨Nat.le_of_ble_eq_true rfl, Nat.le_of_ble_eq_true rfl⟩) (pre_V hK hPc hDc 0 8 rfl rfl) rfl rfl hl.1 rfl (lv_room (Nat.le_of_ble_eq_true rfl)) dX4_readTape_49 ⟨Nat.le_of_ble_eq_true rfl, Nat.le_of_ble_eq_true rfl⟩) hP hD hS hA [11, 12, 13, 14, 15] [0, 1, 2, 3, 4, 5, 6, 7, 8, 9, 10] rfl rfl (by decide) (by decide) (fun _u H locs hw hP hD hS => ?_)
  have hP : va_P D vwCl [(rd, .inr (4, [y0, .ref tk, .ref bk, y3, y4, .ref r3, y6, y7, .ref r6, .int 0, .int (-1)])), (r3, .inl (cR, 8, .inr (.inr (.inr (.inr (va_up (va_up (va_up (va_up (va_up (va_up (va_up (va_up (fun _ => none) 0 (some w0)) 1 (some w1)) 2 (some w2)) 3 (some w3)) 4 (some w4)) 5 (some w5)) 6 (some w6)) 7 (some w7))))))), (r6, .inr (3, [y8, .int 0])), (w0, .inr (5, [a0, b0, d0, .int 0])), (w1, .inr (5, [a1, b1, d1, .int 0])), (w2, .inr (5, [a2, b2, d2, .int 0])), (w3, .inr (5, [a3, b3, d3, .int 0])), (w4, .inr (5, [a4, b4, d4, .int 0])), (w5, .inr (5, [a5, b5, d5, .int 0])), (w6, .inr (5, [a6, b6, d6, .int 0])), (w7, .inr (5, [a7, b7, d7, .int 0])), (tk, .inr (8, [.ref tp, .ref t1, .ref t2, .ref t3, .int 1, .int 1, .int 0, .int 0, .int 0, .int 0])), (t1, .inl (cI, 301, .inl (upd (fun _ => 0) 0 0))), (t2, .inl (cI, 301, .inl (upd (fun _ => 0) 0 0))), (t3, .inl (cI, 301, .inl (upd (fun _ => 0) 0 0))), (tp, .inr (7, [.ref tb, .int 0]))] H := hP
  have hD : va_D A [(rd, .inr (4, [y0, .ref tk, .ref bk, y3, y4, .ref r3, y6, y7, .ref r6, .int 0, .int (-1)])), (r3, .inl (cR, 8, .inr (.inr (.inr (.inr (va_up (va_up (va_up (va_up (va_up (va_up (va_up (va_up (fun _ => none) 0 (some w0)) 1 (some w1)) 2 (some w2)) 3 (some w3)) 4 (some w4)) 5 (some w5)) 6 (some w6)) 7 (some w7))))))), (r6, .inr (3, [y8, .int 0])), (w0, .inr (5, [a0, b0, d0, .int 0])), (w1, .inr (5, [a1, b1, d1, .int 0])), (w2, .inr (5, [a2, b2, d2, .int 0])), (w3, .inr (5, [a3, b3, d3, .int 0])), (w4, .inr (5, [a4, b4, d4, .int 0])), (w5, .inr (5, [a5, b5, d5, .int 0])), (w6, .inr (5, [a6, b6, d6, .int 0])), (w7, .inr (5, [a7, b7, d7, .int 0])), (tk, .inr (8, [.ref tp, .ref t1, .ref t2, .ref t3, .int 1, .int 1, .int 0, .int 0, .int 0, .int 0])), (t1, .inl (cI, 301, .inl (upd (fun _ => 0) 0 0))), (t2, .inl (cI, 301, .inl (upd (fun _ => 0) 0 0))), (t3, .inl (cI, 301, .inl (upd (fun _ => 0) 0 0))), (tp, .inr (7, [.ref tb, .int 0]))] := hD
  refine lv_iconst (v := 0) hx hb dX4_readTape_52 (by decide) ?_
  refine lv_istore_n (lv' := [(1, .int 0), (0, .ref rd)]) hx hb dX4_readTape_53 rfl hl (by decide) rfl (fun ls hl => ?_)
  refine lv_iload_n hx hb dX4_readTape_54 rfl (lv_at hl 0 rfl) ?_
  refine lv_sipush (v := 300) hx hb dX4_readTape_55 (by decide) ?_
  refine lv_icmp_gt (tgt := 125) hx hb dX4_readTape_58 (by decide) (fun c58 => absurd c58 (by decide)) (fun c58 => ?_)
  refine lv_aload_n hx hb dX4_readTape_61 rfl (lv_at hl 1 rfl) ?_
  refine va_get (D := D) (ci := 4) (v := .ref tk) (C := RX4) (T := TX4) (N := 11) hx hb hts (by decide +kernel) hown hK.1 hP 0 rfl rfl 1 (by decide) (hts (.fieldLink RX4 41 "JugglingHall$Reader" "tokens" "LJugglingHall$Tokens;") (by decide +kernel)) (fun _ h9 => h9) rfl dX4_readTape_62 ?_
  refine va_getN (D := D) (ci := 8) (v := .int 0) (C := RX8) (T := TX8) (N := 10) (host := "JugglingHall") hx hb hts (by decide +kernel) hown hK.1 hP 11 rfl rfl 6 (by decide) (hK.nw (.fieldLinkNest RX4 70 "JugglingHall$Tokens" "kind" "I" "JugglingHall") (by decide +kernel) rfl) (fun _ h9 => h9) rfl dX4_readTape_65 ?_
  refine lv_if_eq (tgt := 125) hx hb dX4_readTape_68 (by decide) (fun c68 => ?_) (fun c68 => absurd (by decide) c68)
  refine lv_iconst (v := 1) hx hb dX4_readTape_125 (by decide) ?_
  exact g_zret (()) hx hb hr hlocks hS (by decide) rfl (trivial) (hP.sub [0, 1, 2, 3, 4, 5, 6, 7, 8, 9, 10, 15] rfl) (hD.sub [0, 1, 2, 3, 4, 5, 6, 7, 8, 9, 10, 15] (by decide) rfl) hQ (Nat.le_of_ble_eq_true rfl) (Nat.le_of_ble_eq_true rfl) dX4_readTape_126
set_option maxRecDepth 100000 in
set_option maxHeartbeats 4000000 in
theorem c_turnPage (l : Launch) (D : va_G) (cI cR cM : ClassId) (sz : Nat) (bk br bm : Nat) : Met l yX0_turnPage wsX0_turnPage ({ frames := 1, cells := 0, slots := 0, locals := 20 }) (P0 D cI cR cM [.ref bk] sz [(bk, .inr (0, [.ref br, .ref bm, .int 0, .int 0])), (br, .inl (cR, 488, .inr (.inr (.inr (.inr (fun _ => none)))))), (bm, .inl (cM, 61, .inr (.inr (.inr (.inr (fun _ => none))))))]) (QG (S := Unit) (fun _ => none) (fun _ => [(bk, .inr (0, [.ref br, .ref bm, .int 1, .int 1]))]) (fun _ => True) D (va_A [(bk, .inr (0, [.ref br, .ref bm, .int 0, .int 0])), (br, .inl (cR, 488, .inr (.inr (.inr (.inr (fun _ => none)))))), (bm, .inl (cM, 61, .inr (.inr (.inr (.inr (fun _ => none))))))] sz)) 0 0 (va_A [(bk, .inr (0, [.ref br, .ref bm, .int 0, .int 0])), (br, .inl (cR, 488, .inr (.inr (.inr (.inr (fun _ => none)))))), (bm, .inl (cM, 61, .inr (.inr (.inr (.inr (fun _ => none))))))] sz) := by
  refine go (cc := cX0_turnPage) (maxL := 2) (ret := none) (by decide) rfl (Nat.le_of_ble_eq_true rfl) ?_
  intro p e s m below meth c ls args Q hQ hsz hx hb hr hml hts hown hlocks hnm hP hK hD hl
  subst hsz
  have hD := hD.self (sz := s.heap.size)
  generalize hAe : va_A [(bk, .inr (0, [.ref br, .ref bm, .int 0, .int 0])), (br, .inl (cR, 488, .inr (.inr (.inr (.inr (fun _ => none)))))), (bm, .inl (cM, 61, .inr (.inr (.inr (.inr (fun _ => none))))))] s.heap.size = A at hD hQ
  have hA : ∀ q, s.heap.size ≤ q → A q := fun q h => by rw [← hAe]; exact Or.inr h
  have hS : va_S A s.heap s.heap [] := va_S.rf
  have hl : lv_has ls 2 [(0, .ref bk)] := hl
  refine lv_aload_n hx hb dX0_turnPage_0 rfl (lv_at hl 0 rfl) ?_
  have hPc := hP.sub (ws' := [(bk, .inr (0, [.ref br, .ref bm, .int 0, .int 0]))]) [0] rfl
  have hDc := hD.sub (ws' := [(bk, .inr (0, [.ref br, .ref bm, .int 0, .int 0]))]) [0] (by decide) rfl
  refine ro (va_runV (As := []) (rest := []) ⟨hx, hb, hml, hown, hts⟩ (c_isFull l D cI cR cM _ bk br bm) (cwV 0 hts gX0_turnPage_X0_isFull rfl rfl rfl (by decide +kernel) ⟨Nat.le_of_ble_eq_true rfl, Nat.le_of_ble_eq_true rfl⟩) (pre_V hK hPc hDc 0 0 rfl rfl) rfl rfl hl.1 rfl (lv_room (Nat.le_of_ble_eq_true rfl)) dX0_turnPage_1 ⟨Nat.le_of_ble_eq_true rfl, Nat.le_of_ble_eq_true rfl⟩) hS hA hP (fun H locs hP hS => ?_)
  refine lv_if_eq (tgt := 8) hx hb dX0_turnPage_4 (by decide) (fun c4 => ?_) (fun c4 => absurd (by decide) c4)
  refine lv_iconst (v := 0) hx hb dX0_turnPage_8 (by decide) ?_
  refine lv_istore_n (lv' := [(1, .int 0), (0, .ref bk)]) hx hb dX0_turnPage_9 rfl hl (by decide) rfl (fun ls hl => ?_)
  refine lv_iload_n hx hb dX0_turnPage_10 rfl (lv_at hl 0 rfl) ?_
  refine lv_bipush (v := 8) hx hb dX0_turnPage_11 (by decide) ?_
  refine lv_icmp_ge (tgt := 52) hx hb dX0_turnPage_13 (by decide) (fun c13 => absurd c13 (by decide)) (fun c13 => ?_)
  refine lv_aload_n hx hb dX0_turnPage_16 rfl (lv_at hl 1 rfl) ?_
  refine va_get (D := D) (ci := 0) (v := .ref br) (C := RX0) (T := TX0) (N := 4) hx hb hts (by decide +kernel) hown hK.1 hP 0 rfl rfl 0 (by decide) (hts (.fieldLink RX0 11 "JugglingHall$Book" "rows" "[LJugglingHall$Row;") (by decide +kernel)) (fun _ h9 => h9) rfl dX0_turnPage_17 ?_
  refine lv_aload_n hx hb dX0_turnPage_20 rfl (lv_at hl 1 rfl) ?_
  refine va_get (D := D) (ci := 0) (v := .int 0) (C := RX0) (T := TX0) (N := 4) hx hb hts (by decide +kernel) hown hK.1 hP 0 rfl rfl 2 (by decide) (hts (.fieldLink RX0 23 "JugglingHall$Book" "time" "I") (by decide +kernel)) (fun _ h9 => h9) rfl dX0_turnPage_21 ?_
  refine lv_iconst (v := 1) hx hb dX0_turnPage_24 (by decide) ?_
  refine lv_iadd hx hb dX0_turnPage_25 ?_
  refine lv_eqi (y := 1) (by decide) ?_
  refine lv_bipush (v := 8) hx hb dX0_turnPage_26 (by decide) ?_
  refine lv_imul hx hb dX0_turnPage_28 ?_
  refine lv_eqi (y := 8) (by decide) ?_
  refine lv_iload_n hx hb dX0_turnPage_29 rfl (lv_at hl 0 rfl) ?_
  refine lv_iadd hx hb dX0_turnPage_30 ?_
  refine lv_eqi (y := 8) (by decide) ?_
  refine lv_aload_n hx hb dX0_turnPage_31 rfl (lv_at hl 1 rfl) ?_
  refine va_get (D := D) (ci := 0) (v := .ref br) (C := RX0) (T := TX0) (N := 4) hx hb hts (by decide +kernel) hown hK.1 hP 0 rfl rfl 0 (by decide) (hts (.fieldLink RX0 11 "JugglingHall$Book" "rows" "[LJugglingHall$Row;") (by decide +kernel)) (fun _ h9 => h9) rfl dX0_turnPage_32 ?_
  refine lv_aload_n hx hb dX0_turnPage_35 rfl (lv_at hl 1 rfl) ?_
  refine va_get (D := D) (ci := 0) (v := .int 0) (C := RX0) (T := TX0) (N := 4) hx hb hts (by decide +kernel) hown hK.1 hP 0 rfl rfl 2 (by decide) (hts (.fieldLink RX0 23 "JugglingHall$Book" "time" "I") (by decide +kernel)) (fun _ h9 => h9) rfl dX0_turnPage_36 ?_
  refine lv_bipush (v := 8) hx hb dX0_turnPage_39 (by decide) ?_
  refine lv_imul hx hb dX0_turnPage_41 ?_
  refine lv_eqi (y := 0) (by decide) ?_
  refine lv_iload_n hx hb dX0_turnPage_42 rfl (lv_at hl 0 rfl) ?_
  refine lv_iadd hx hb dX0_turnPage_43 ?_
  refine lv_eqi (y := 0) (by decide) ?_
  refine aald_n (k := 0) (v := .null) hx hb hK.1 hP 1 1 rfl rfl (by decide) (by decide) (rfl) dX0_turnPage_44 ?_
  refine aast_N (k := 8) hx hb hK.1 hP hD hS 1 1 rfl rfl (by decide) (by decide) dX0_turnPage_45 (fun H locs hP hD hS => ?_)
  have hP : va_P D vwCl [(bk, .inr (0, [.ref br, .ref bm, .int 0, .int 0])), (br, .inl (cR, 488, .inr (.inr (.inr (.inr (va_up (fun _ => none) 8 none)))))), (bm, .inl (cM, 61, .inr (.inr (.inr (.inr (fun _ => none))))))] H := hP
  have hD : va_D A [(bk, .inr (0, [.ref br, .ref bm, .int 0, .int 0])), (br, .inl (cR, 488, .inr (.inr (.inr (.inr (va_up (fun _ => none) 8 none)))))), (bm, .inl (cM, 61, .inr (.inr (.inr (.inr (fun _ => none))))))] := hD
  refine lv_iinc (v := 1) (lv' := [(1, .int 1), (0, .ref bk)]) hx hb dX0_turnPage_46 hl (k := 0) rfl (by decide) (by decide) rfl (fun ls hl => ?_)
  refine lv_goto (tgt := 10) hx hb dX0_turnPage_49 (by decide) ?_
  refine lv_iload_n hx hb dX0_turnPage_10 rfl (lv_at hl 0 rfl) ?_
  refine lv_bipush (v := 8) hx hb dX0_turnPage_11 (by decide) ?_
  refine lv_icmp_ge (tgt := 52) hx hb dX0_turnPage_13 (by decide) (fun c13 => absurd c13 (by decide)) (fun c13 => ?_)
  refine lv_aload_n hx hb dX0_turnPage_16 rfl (lv_at hl 1 rfl) ?_
  refine va_get (D := D) (ci := 0) (v := .ref br) (C := RX0) (T := TX0) (N := 4) hx hb hts (by decide +kernel) hown hK.1 hP 0 rfl rfl 0 (by decide) (hts (.fieldLink RX0 11 "JugglingHall$Book" "rows" "[LJugglingHall$Row;") (by decide +kernel)) (fun _ h9 => h9) rfl dX0_turnPage_17 ?_
  refine lv_aload_n hx hb dX0_turnPage_20 rfl (lv_at hl 1 rfl) ?_
  refine va_get (D := D) (ci := 0) (v := .int 0) (C := RX0) (T := TX0) (N := 4) hx hb hts (by decide +kernel) hown hK.1 hP 0 rfl rfl 2 (by decide) (hts (.fieldLink RX0 23 "JugglingHall$Book" "time" "I") (by decide +kernel)) (fun _ h9 => h9) rfl dX0_turnPage_21 ?_
  refine lv_iconst (v := 1) hx hb dX0_turnPage_24 (by decide) ?_
  refine lv_iadd hx hb dX0_turnPage_25 ?_
  refine lv_eqi (y := 1) (by decide) ?_
  refine lv_bipush (v := 8) hx hb dX0_turnPage_26 (by decide) ?_
  refine lv_imul hx hb dX0_turnPage_28 ?_
  refine lv_eqi (y := 8) (by decide) ?_
  refine lv_iload_n hx hb dX0_turnPage_29 rfl (lv_at hl 0 rfl) ?_
  refine lv_iadd hx hb dX0_turnPage_30 ?_
  refine lv_eqi (y := 9) (by decide) ?_
  refine lv_aload_n hx hb dX0_turnPage_31 rfl (lv_at hl 1 rfl) ?_
  refine va_get (D := D) (ci := 0) (v := .ref br) (C := RX0) (T := TX0) (N := 4) hx hb hts (by decide +kernel) hown hK.1 hP 0 rfl rfl 0 (by decide) (hts (.fieldLink RX0 11 "JugglingHall$Book" "rows" "[LJugglingHall$Row;") (by decide +kernel)) (fun _ h9 => h9) rfl dX0_turnPage_32 ?_
  refine lv_aload_n hx hb dX0_turnPage_35 rfl (lv_at hl 1 rfl) ?_
  refine va_get (D := D) (ci := 0) (v := .int 0) (C := RX0) (T := TX0) (N := 4) hx hb hts (by decide +kernel) hown hK.1 hP 0 rfl rfl 2 (by decide) (hts (.fieldLink RX0 23 "JugglingHall$Book" "time" "I") (by decide +kernel)) (fun _ h9 => h9) rfl dX0_turnPage_36 ?_
  refine lv_bipush (v := 8) hx hb dX0_turnPage_39 (by decide) ?_
  refine lv_imul hx hb dX0_turnPage_41 ?_
  refine lv_eqi (y := 0) (by decide) ?_
  refine lv_iload_n hx hb dX0_turnPage_42 rfl (lv_at hl 0 rfl) ?_
  refine lv_iadd hx hb dX0_turnPage_43 ?_
  refine lv_eqi (y := 1) (by decide) ?_
  refine aald_n (k := 1) (v := .null) hx hb hK.1 hP 1 1 rfl rfl (by decide) (by decide) (rfl) dX0_turnPage_44 ?_
  refine aast_N (k := 9) hx hb hK.1 hP hD hS 1 1 rfl rfl (by decide) (by decide) dX0_turnPage_45 (fun H locs hP hD hS => ?_)
  have hP : va_P D vwCl [(bk, .inr (0, [.ref br, .ref bm, .int 0, .int 0])), (br, .inl (cR, 488, .inr (.inr (.inr (.inr (va_up (va_up (fun _ => none) 8 none) 9 none)))))), (bm, .inl (cM, 61, .inr (.inr (.inr (.inr (fun _ => none))))))] H := hP
  have hD : va_D A [(bk, .inr (0, [.ref br, .ref bm, .int 0, .int 0])), (br, .inl (cR, 488, .inr (.inr (.inr (.inr (va_up (va_up (fun _ => none) 8 none) 9 none)))))), (bm, .inl (cM, 61, .inr (.inr (.inr (.inr (fun _ => none))))))] := hD
  refine lv_iinc (v := 2) (lv' := [(1, .int 2), (0, .ref bk)]) hx hb dX0_turnPage_46 hl (k := 0) rfl (by decide) (by decide) rfl (fun ls hl => ?_)
  refine lv_goto (tgt := 10) hx hb dX0_turnPage_49 (by decide) ?_
  refine lv_iload_n hx hb dX0_turnPage_10 rfl (lv_at hl 0 rfl) ?_
  refine lv_bipush (v := 8) hx hb dX0_turnPage_11 (by decide) ?_
  refine lv_icmp_ge (tgt := 52) hx hb dX0_turnPage_13 (by decide) (fun c13 => absurd c13 (by decide)) (fun c13 => ?_)
  refine lv_aload_n hx hb dX0_turnPage_16 rfl (lv_at hl 1 rfl) ?_
  refine va_get (D := D) (ci := 0) (v := .ref br) (C := RX0) (T := TX0) (N := 4) hx hb hts (by decide +kernel) hown hK.1 hP 0 rfl rfl 0 (by decide) (hts (.fieldLink RX0 11 "JugglingHall$Book" "rows" "[LJugglingHall$Row;") (by decide +kernel)) (fun _ h9 => h9) rfl dX0_turnPage_17 ?_
  refine lv_aload_n hx hb dX0_turnPage_20 rfl (lv_at hl 1 rfl) ?_
  refine va_get (D := D) (ci := 0) (v := .int 0) (C := RX0) (T := TX0) (N := 4) hx hb hts (by decide +kernel) hown hK.1 hP 0 rfl rfl 2 (by decide) (hts (.fieldLink RX0 23 "JugglingHall$Book" "time" "I") (by decide +kernel)) (fun _ h9 => h9) rfl dX0_turnPage_21 ?_
  refine lv_iconst (v := 1) hx hb dX0_turnPage_24 (by decide) ?_
  refine lv_iadd hx hb dX0_turnPage_25 ?_
  refine lv_eqi (y := 1) (by decide) ?_
  refine lv_bipush (v := 8) hx hb dX0_turnPage_26 (by decide) ?_
  refine lv_imul hx hb dX0_turnPage_28 ?_
  refine lv_eqi (y := 8) (by decide) ?_
  refine lv_iload_n hx hb dX0_turnPage_29 rfl (lv_at hl 0 rfl) ?_
  refine lv_iadd hx hb dX0_turnPage_30 ?_
  refine lv_eqi (y := 10) (by decide) ?_
  refine lv_aload_n hx hb dX0_turnPage_31 rfl (lv_at hl 1 rfl) ?_
  refine va_get (D := D) (ci := 0) (v := .ref br) (C := RX0) (T := TX0) (N := 4) hx hb hts (by decide +kernel) hown hK.1 hP 0 rfl rfl 0 (by decide) (hts (.fieldLink RX0 11 "JugglingHall$Book" "rows" "[LJugglingHall$Row;") (by decide +kernel)) (fun _ h9 => h9) rfl dX0_turnPage_32 ?_
  refine lv_aload_n hx hb dX0_turnPage_35 rfl (lv_at hl 1 rfl) ?_
  refine va_get (D := D) (ci := 0) (v := .int 0) (C := RX0) (T := TX0) (N := 4) hx hb hts (by decide +kernel) hown hK.1 hP 0 rfl rfl 2 (by decide) (hts (.fieldLink RX0 23 "JugglingHall$Book" "time" "I") (by decide +kernel)) (fun _ h9 => h9) rfl dX0_turnPage_36 ?_
  refine lv_bipush (v := 8) hx hb dX0_turnPage_39 (by decide) ?_
  refine lv_imul hx hb dX0_turnPage_41 ?_
  refine lv_eqi (y := 0) (by decide) ?_
  refine lv_iload_n hx hb dX0_turnPage_42 rfl (lv_at hl 0 rfl) ?_
  refine lv_iadd hx hb dX0_turnPage_43 ?_
  refine lv_eqi (y := 2) (by decide) ?_
  refine aald_n (k := 2) (v := .null) hx hb hK.1 hP 1 1 rfl rfl (by decide) (by decide) (rfl) dX0_turnPage_44 ?_
  refine aast_N (k := 10) hx hb hK.1 hP hD hS 1 1 rfl rfl (by decide) (by decide) dX0_turnPage_45 (fun H locs hP hD hS => ?_)
  have hP : va_P D vwCl [(bk, .inr (0, [.ref br, .ref bm, .int 0, .int 0])), (br, .inl (cR, 488, .inr (.inr (.inr (.inr (va_up (va_up (va_up (fun _ => none) 8 none) 9 none) 10 none)))))), (bm, .inl (cM, 61, .inr (.inr (.inr (.inr (fun _ => none))))))] H := hP
  have hD : va_D A [(bk, .inr (0, [.ref br, .ref bm, .int 0, .int 0])), (br, .inl (cR, 488, .inr (.inr (.inr (.inr (va_up (va_up (va_up (fun _ => none) 8 none) 9 none) 10 none)))))), (bm, .inl (cM, 61, .inr (.inr (.inr (.inr (fun _ => none))))))] := hD
  refine lv_iinc (v := 3) (lv' := [(1, .int 3), (0, .ref bk)]) hx hb dX0_turnPage_46 hl (k := 0) rfl (by decide) (by decide) rfl (fun ls hl => ?_)
  refine lv_goto (tgt := 10) hx hb dX0_turnPage_49 (by decide) ?_
  refine lv_iload_n hx hb dX0_turnPage_10 rfl (lv_at hl 0 rfl) ?_
  refine lv_bipush (v := 8) hx hb dX0_turnPage_11 (by decide) ?_
  refine lv_icmp_ge (tgt := 52) hx hb dX0_turnPage_13 (by decide) (fun c13 => absurd c13 (by decide)) (fun c13 => ?_)
  refine lv_aload_n hx hb dX0_turnPage_16 rfl (lv_at hl 1 rfl) ?_
  refine va_get (D := D) (ci := 0) (v := .ref br) (C := RX0) (T := TX0) (N := 4) hx hb hts (by decide +kernel) hown hK.1 hP 0 rfl rfl 0 (by decide) (hts (.fieldLink RX0 11 "JugglingHall$Book" "rows" "[LJugglingHall$Row;") (by decide +kernel)) (fun _ h9 => h9) rfl dX0_turnPage_17 ?_
  refine lv_aload_n hx hb dX0_turnPage_20 rfl (lv_at hl 1 rfl) ?_
  refine va_get (D := D) (ci := 0) (v := .int 0) (C := RX0) (T := TX0) (N := 4) hx hb hts (by decide +kernel) hown hK.1 hP 0 rfl rfl 2 (by decide) (hts (.fieldLink RX0 23 "JugglingHall$Book" "time" "I") (by decide +kernel)) (fun _ h9 => h9) rfl dX0_turnPage_21 ?_
  refine lv_iconst (v := 1) hx hb dX0_turnPage_24 (by decide) ?_
  refine lv_iadd hx hb dX0_turnPage_25 ?_
  refine lv_eqi (y := 1) (by decide) ?_
  refine lv_bipush (v := 8) hx hb dX0_turnPage_26 (by decide) ?_
  refine lv_imul hx hb dX0_turnPage_28 ?_
  refine lv_eqi (y := 8) (by decide) ?_
  refine lv_iload_n hx hb dX0_turnPage_29 rfl (lv_at hl 0 rfl) ?_
  refine lv_iadd hx hb dX0_turnPage_30 ?_
  refine lv_eqi (y := 11) (by decide) ?_
  refine lv_aload_n hx hb dX0_turnPage_31 rfl (lv_at hl 1 rfl) ?_
  refine va_get (D := D) (ci := 0) (v := .ref br) (C := RX0) (T := TX0) (N := 4) hx hb hts (by decide +kernel) hown hK.1 hP 0 rfl rfl 0 (by decide) (hts (.fieldLink RX0 11 "JugglingHall$Book" "rows" "[LJugglingHall$Row;") (by decide +kernel)) (fun _ h9 => h9) rfl dX0_turnPage_32 ?_
  refine lv_aload_n hx hb dX0_turnPage_35 rfl (lv_at hl 1 rfl) ?_
  refine va_get (D := D) (ci := 0) (v := .int 0) (C := RX0) (T := TX0) (N := 4) hx hb hts (by decide +kernel) hown hK.1 hP 0 rfl rfl 2 (by decide) (hts (.fieldLink RX0 23 "JugglingHall$Book" "time" "I") (by decide +kernel)) (fun _ h9 => h9) rfl dX0_turnPage_36 ?_
  refine lv_bipush (v := 8) hx hb dX0_turnPage_39 (by decide) ?_
  refine lv_imul hx hb dX0_turnPage_41 ?_
  refine lv_eqi (y := 0) (by decide) ?_
  refine lv_iload_n hx hb dX0_turnPage_42 rfl (lv_at hl 0 rfl) ?_
  refine lv_iadd hx hb dX0_turnPage_43 ?_
  refine lv_eqi (y := 3) (by decide) ?_
  refine aald_n (k := 3) (v := .null) hx hb hK.1 hP 1 1 rfl rfl (by decide) (by decide) (rfl) dX0_turnPage_44 ?_
  refine aast_N (k := 11) hx hb hK.1 hP hD hS 1 1 rfl rfl (by decide) (by decide) dX0_turnPage_45 (fun H locs hP hD hS => ?_)
  have hP : va_P D vwCl [(bk, .inr (0, [.ref br, .ref bm, .int 0, .int 0])), (br, .inl (cR, 488, .inr (.inr (.inr (.inr (va_up (va_up (va_up (va_up (fun _ => none) 8 none) 9 none) 10 none) 11 none)))))), (bm, .inl (cM, 61, .inr (.inr (.inr (.inr (fun _ => none))))))] H := hP
  have hD : va_D A [(bk, .inr (0, [.ref br, .ref bm, .int 0, .int 0])), (br, .inl (cR, 488, .inr (.inr (.inr (.inr (va_up (va_up (va_up (va_up (fun _ => none) 8 none) 9 none) 10 none) 11 none)))))), (bm, .inl (cM, 61, .inr (.inr (.inr (.inr (fun _ => none))))))] := hD
  refine lv_iinc (v := 4) (lv' := [(1, .int 4), (0, .ref bk)]) hx hb dX0_turnPage_46 hl (k := 0) rfl (by decide) (by decide) rfl (fun ls hl => ?_)
  refine lv_goto (tgt := 10) hx hb dX0_turnPage_49 (by decide) ?_
  refine lv_iload_n hx hb dX0_turnPage_10 rfl (lv_at hl 0 rfl) ?_
  refine lv_bipush (v := 8) hx hb dX0_turnPage_11 (by decide) ?_
  refine lv_icmp_ge (tgt := 52) hx hb dX0_turnPage_13 (by decide) (fun c13 => absurd c13 (by decide)) (fun c13 => ?_)
  refine lv_aload_n hx hb dX0_turnPage_16 rfl (lv_at hl 1 rfl) ?_
  refine va_get (D := D) (ci := 0) (v := .ref br) (C := RX0) (T := TX0) (N := 4) hx hb hts (by decide +kernel) hown hK.1 hP 0 rfl rfl 0 (by decide) (hts (.fieldLink RX0 11 "JugglingHall$Book" "rows" "[LJugglingHall$Row;") (by decide +kernel)) (fun _ h9 => h9) rfl dX0_turnPage_17 ?_
  refine lv_aload_n hx hb dX0_turnPage_20 rfl (lv_at hl 1 rfl) ?_
  refine va_get (D := D) (ci := 0) (v := .int 0) (C := RX0) (T := TX0) (N := 4) hx hb hts (by decide +kernel) hown hK.1 hP 0 rfl rfl 2 (by decide) (hts (.fieldLink RX0 23 "JugglingHall$Book" "time" "I") (by decide +kernel)) (fun _ h9 => h9) rfl dX0_turnPage_21 ?_
  refine lv_iconst (v := 1) hx hb dX0_turnPage_24 (by decide) ?_
  refine lv_iadd hx hb dX0_turnPage_25 ?_
  refine lv_eqi (y := 1) (by decide) ?_
  refine lv_bipush (v := 8) hx hb dX0_turnPage_26 (by decide) ?_
  refine lv_imul hx hb dX0_turnPage_28 ?_
  refine lv_eqi (y := 8) (by decide) ?_
  refine lv_iload_n hx hb dX0_turnPage_29 rfl (lv_at hl 0 rfl) ?_
  refine lv_iadd hx hb dX0_turnPage_30 ?_
  refine lv_eqi (y := 12) (by decide) ?_
  refine lv_aload_n hx hb dX0_turnPage_31 rfl (lv_at hl 1 rfl) ?_
  refine va_get (D := D) (ci := 0) (v := .ref br) (C := RX0) (T := TX0) (N := 4) hx hb hts (by decide +kernel) hown hK.1 hP 0 rfl rfl 0 (by decide) (hts (.fieldLink RX0 11 "JugglingHall$Book" "rows" "[LJugglingHall$Row;") (by decide +kernel)) (fun _ h9 => h9) rfl dX0_turnPage_32 ?_
  refine lv_aload_n hx hb dX0_turnPage_35 rfl (lv_at hl 1 rfl) ?_
  refine va_get (D := D) (ci := 0) (v := .int 0) (C := RX0) (T := TX0) (N := 4) hx hb hts (by decide +kernel) hown hK.1 hP 0 rfl rfl 2 (by decide) (hts (.fieldLink RX0 23 "JugglingHall$Book" "time" "I") (by decide +kernel)) (fun _ h9 => h9) rfl dX0_turnPage_36 ?_
  refine lv_bipush (v := 8) hx hb dX0_turnPage_39 (by decide) ?_
  refine lv_imul hx hb dX0_turnPage_41 ?_
  refine lv_eqi (y := 0) (by decide) ?_
  refine lv_iload_n hx hb dX0_turnPage_42 rfl (lv_at hl 0 rfl) ?_
  refine lv_iadd hx hb dX0_turnPage_43 ?_
  refine lv_eqi (y := 4) (by decide) ?_
  refine aald_n (k := 4) (v := .null) hx hb hK.1 hP 1 1 rfl rfl (by decide) (by decide) (rfl) dX0_turnPage_44 ?_
  refine aast_N (k := 12) hx hb hK.1 hP hD hS 1 1 rfl rfl (by decide) (by decide) dX0_turnPage_45 (fun H locs hP hD hS => ?_)
  have hP : va_P D vwCl [(bk, .inr (0, [.ref br, .ref bm, .int 0, .int 0])), (br, .inl (cR, 488, .inr (.inr (.inr (.inr (va_up (va_up (va_up (va_up (va_up (fun _ => none) 8 none) 9 none) 10 none) 11 none) 12 none)))))), (bm, .inl (cM, 61, .inr (.inr (.inr (.inr (fun _ => none))))))] H := hP
  have hD : va_D A [(bk, .inr (0, [.ref br, .ref bm, .int 0, .int 0])), (br, .inl (cR, 488, .inr (.inr (.inr (.inr (va_up (va_up (va_up (va_up (va_up (fun _ => none) 8 none) 9 none) 10 none) 11 none) 12 none)))))), (bm, .inl (cM, 61, .inr (.inr (.inr (.inr (fun _ => none))))))] := hD
  refine lv_iinc (v := 5) (lv' := [(1, .int 5), (0, .ref bk)]) hx hb dX0_turnPage_46 hl (k := 0) rfl (by decide) (by decide) rfl (fun ls hl => ?_)
  refine lv_goto (tgt := 10) hx hb dX0_turnPage_49 (by decide) ?_
  refine lv_iload_n hx hb dX0_turnPage_10 rfl (lv_at hl 0 rfl) ?_
  refine lv_bipush (v := 8) hx hb dX0_turnPage_11 (by decide) ?_
  refine lv_icmp_ge (tgt := 52) hx hb dX0_turnPage_13 (by decide) (fun c13 => absurd c13 (by decide)) (fun c13 => ?_)
  refine lv_aload_n hx hb dX0_turnPage_16 rfl (lv_at hl 1 rfl) ?_
  refine va_get (D := D) (ci := 0) (v := .ref br) (C := RX0) (T := TX0) (N := 4) hx hb hts (by decide +kernel) hown hK.1 hP 0 rfl rfl 0 (by decide) (hts (.fieldLink RX0 11 "JugglingHall$Book" "rows" "[LJugglingHall$Row;") (by decide +kernel)) (fun _ h9 => h9) rfl dX0_turnPage_17 ?_
  refine lv_aload_n hx hb dX0_turnPage_20 rfl (lv_at hl 1 rfl) ?_
  refine va_get (D := D) (ci := 0) (v := .int 0) (C := RX0) (T := TX0) (N := 4) hx hb hts (by decide +kernel) hown hK.1 hP 0 rfl rfl 2 (by decide) (hts (.fieldLink RX0 23 "JugglingHall$Book" "time" "I") (by decide +kernel)) (fun _ h9 => h9) rfl dX0_turnPage_21 ?_
  refine lv_iconst (v := 1) hx hb dX0_turnPage_24 (by decide) ?_
  refine lv_iadd hx hb dX0_turnPage_25 ?_
  refine lv_eqi (y := 1) (by decide) ?_
  refine lv_bipush (v := 8) hx hb dX0_turnPage_26 (by decide) ?_
  refine lv_imul hx hb dX0_turnPage_28 ?_
  refine lv_eqi (y := 8) (by decide) ?_
  refine lv_iload_n hx hb dX0_turnPage_29 rfl (lv_at hl 0 rfl) ?_
  refine lv_iadd hx hb dX0_turnPage_30 ?_
  refine lv_eqi (y := 13) (by decide) ?_
  refine lv_aload_n hx hb dX0_turnPage_31 rfl (lv_at hl 1 rfl) ?_
  refine va_get (D := D) (ci := 0) (v := .ref br) (C := RX0) (T := TX0) (N := 4) hx hb hts (by decide +kernel) hown hK.1 hP 0 rfl rfl 0 (by decide) (hts (.fieldLink RX0 11 "JugglingHall$Book" "rows" "[LJugglingHall$Row;") (by decide +kernel)) (fun _ h9 => h9) rfl dX0_turnPage_32 ?_
  refine lv_aload_n hx hb dX0_turnPage_35 rfl (lv_at hl 1 rfl) ?_
  refine va_get (D := D) (ci := 0) (v := .int 0) (C := RX0) (T := TX0) (N := 4) hx hb hts (by decide +kernel) hown hK.1 hP 0 rfl rfl 2 (by decide) (hts (.fieldLink RX0 23 "JugglingHall$Book" "time" "I") (by decide +kernel)) (fun _ h9 => h9) rfl dX0_turnPage_36 ?_
  refine lv_bipush (v := 8) hx hb dX0_turnPage_39 (by decide) ?_
  refine lv_imul hx hb dX0_turnPage_41 ?_
  refine lv_eqi (y := 0) (by decide) ?_
  refine lv_iload_n hx hb dX0_turnPage_42 rfl (lv_at hl 0 rfl) ?_
  refine lv_iadd hx hb dX0_turnPage_43 ?_
  refine lv_eqi (y := 5) (by decide) ?_
  refine aald_n (k := 5) (v := .null) hx hb hK.1 hP 1 1 rfl rfl (by decide) (by decide) (rfl) dX0_turnPage_44 ?_
  refine aast_N (k := 13) hx hb hK.1 hP hD hS 1 1 rfl rfl (by decide) (by decide) dX0_turnPage_45 (fun H locs hP hD hS => ?_)
  have hP : va_P D vwCl [(bk, .inr (0, [.ref br, .ref bm, .int 0, .int 0])), (br, .inl (cR, 488, .inr (.inr (.inr (.inr (va_up (va_up (va_up (va_up (va_up (va_up (fun _ => none) 8 none) 9 none) 10 none) 11 none) 12 none) 13 none)))))), (bm, .inl (cM, 61, .inr (.inr (.inr (.inr (fun _ => none))))))] H := hP
  have hD : va_D A [(bk, .inr (0, [.ref br, .ref bm, .int 0, .int 0])), (br, .inl (cR, 488, .inr (.inr (.inr (.inr (va_up (va_up (va_up (va_up (va_up (va_up (fun _ => none) 8 none) 9 none) 10 none) 11 none) 12 none) 13 none)))))), (bm, .inl (cM, 61, .inr (.inr (.inr (.inr (fun _ => none))))))] := hD
  refine lv_iinc (v := 6) (lv' := [(1, .int 6), (0, .ref bk)]) hx hb dX0_turnPage_46 hl (k := 0) rfl (by decide) (by decide) rfl (fun ls hl => ?_)
  refine lv_goto (tgt := 10) hx hb dX0_turnPage_49 (by decide) ?_
  refine lv_iload_n hx hb dX0_turnPage_10 rfl (lv_at hl 0 rfl) ?_
  refine lv_bipush (v := 8) hx hb dX0_turnPage_11 (by decide) ?_
  refine lv_icmp_ge (tgt := 52) hx hb dX0_turnPage_13 (by decide) (fun c13 => absurd c13 (by decide)) (fun c13 => ?_)
  refine lv_aload_n hx hb dX0_turnPage_16 rfl (lv_at hl 1 rfl) ?_
  refine va_get (D := D) (ci := 0) (v := .ref br) (C := RX0) (T := TX0) (N := 4) hx hb hts (by decide +kernel) hown hK.1 hP 0 rfl rfl 0 (by decide) (hts (.fieldLink RX0 11 "JugglingHall$Book" "rows" "[LJugglingHall$Row;") (by decide +kernel)) (fun _ h9 => h9) rfl dX0_turnPage_17 ?_
  refine lv_aload_n hx hb dX0_turnPage_20 rfl (lv_at hl 1 rfl) ?_
  refine va_get (D := D) (ci := 0) (v := .int 0) (C := RX0) (T := TX0) (N := 4) hx hb hts (by decide +kernel) hown hK.1 hP 0 rfl rfl 2 (by decide) (hts (.fieldLink RX0 23 "JugglingHall$Book" "time" "I") (by decide +kernel)) (fun _ h9 => h9) rfl dX0_turnPage_21 ?_
  refine lv_iconst (v := 1) hx hb dX0_turnPage_24 (by decide) ?_
  refine lv_iadd hx hb dX0_turnPage_25 ?_
  refine lv_eqi (y := 1) (by decide) ?_
  refine lv_bipush (v := 8) hx hb dX0_turnPage_26 (by decide) ?_
  refine lv_imul hx hb dX0_turnPage_28 ?_
  refine lv_eqi (y := 8) (by decide) ?_
  refine lv_iload_n hx hb dX0_turnPage_29 rfl (lv_at hl 0 rfl) ?_
  refine lv_iadd hx hb dX0_turnPage_30 ?_
  refine lv_eqi (y := 14) (by decide) ?_
  refine lv_aload_n hx hb dX0_turnPage_31 rfl (lv_at hl 1 rfl) ?_
  refine va_get (D := D) (ci := 0) (v := .ref br) (C := RX0) (T := TX0) (N := 4) hx hb hts (by decide +kernel) hown hK.1 hP 0 rfl rfl 0 (by decide) (hts (.fieldLink RX0 11 "JugglingHall$Book" "rows" "[LJugglingHall$Row;") (by decide +kernel)) (fun _ h9 => h9) rfl dX0_turnPage_32 ?_
  refine lv_aload_n hx hb dX0_turnPage_35 rfl (lv_at hl 1 rfl) ?_
  refine va_get (D := D) (ci := 0) (v := .int 0) (C := RX0) (T := TX0) (N := 4) hx hb hts (by decide +kernel) hown hK.1 hP 0 rfl rfl 2 (by decide) (hts (.fieldLink RX0 23 "JugglingHall$Book" "time" "I") (by decide +kernel)) (fun _ h9 => h9) rfl dX0_turnPage_36 ?_
  refine lv_bipush (v := 8) hx hb dX0_turnPage_39 (by decide) ?_
  refine lv_imul hx hb dX0_turnPage_41 ?_
  refine lv_eqi (y := 0) (by decide) ?_
  refine lv_iload_n hx hb dX0_turnPage_42 rfl (lv_at hl 0 rfl) ?_
  refine lv_iadd hx hb dX0_turnPage_43 ?_
  refine lv_eqi (y := 6) (by decide) ?_
  refine aald_n (k := 6) (v := .null) hx hb hK.1 hP 1 1 rfl rfl (by decide) (by decide) (rfl) dX0_turnPage_44 ?_
  refine aast_N (k := 14) hx hb hK.1 hP hD hS 1 1 rfl rfl (by decide) (by decide) dX0_turnPage_45 (fun H locs hP hD hS => ?_)
  have hP : va_P D vwCl [(bk, .inr (0, [.ref br, .ref bm, .int 0, .int 0])), (br, .inl (cR, 488, .inr (.inr (.inr (.inr (va_up (va_up (va_up (va_up (va_up (va_up (va_up (fun _ => none) 8 none) 9 none) 10 none) 11 none) 12 none) 13 none) 14 none)))))), (bm, .inl (cM, 61, .inr (.inr (.inr (.inr (fun _ => none))))))] H := hP
  have hD : va_D A [(bk, .inr (0, [.ref br, .ref bm, .int 0, .int 0])), (br, .inl (cR, 488, .inr (.inr (.inr (.inr (va_up (va_up (va_up (va_up (va_up (va_up (va_up (fun _ => none) 8 none) 9 none) 10 none) 11 none) 12 none) 13 none) 14 none)))))), (bm, .inl (cM, 61, .inr (.inr (.inr (.inr (fun _ => none))))))] := hD
  refine lv_iinc (v := 7) (lv' := [(1, .int 7), (0, .ref bk)]) hx hb dX0_turnPage_46 hl (k := 0) rfl (by decide) (by decide) rfl (fun ls hl => ?_)
  refine lv_goto (tgt := 10) hx hb dX0_turnPage_49 (by decide) ?_
  refine lv_iload_n hx hb dX0_turnPage_10 rfl (lv_at hl 0 rfl) ?_
  refine lv_bipush (v := 8) hx hb dX0_turnPage_11 (by decide) ?_
  refine lv_icmp_ge (tgt := 52) hx hb dX0_turnPage_13 (by decide) (fun c13 => absurd c13 (by decide)) (fun c13 => ?_)
  refine lv_aload_n hx hb dX0_turnPage_16 rfl (lv_at hl 1 rfl) ?_
  refine va_get (D := D) (ci := 0) (v := .ref br) (C := RX0) (T := TX0) (N := 4) hx hb hts (by decide +kernel) hown hK.1 hP 0 rfl rfl 0 (by decide) (hts (.fieldLink RX0 11 "JugglingHall$Book" "rows" "[LJugglingHall$Row;") (by decide +kernel)) (fun _ h9 => h9) rfl dX0_turnPage_17 ?_
  refine lv_aload_n hx hb dX0_turnPage_20 rfl (lv_at hl 1 rfl) ?_
  refine va_get (D := D) (ci := 0) (v := .int 0) (C := RX0) (T := TX0) (N := 4) hx hb hts (by decide +kernel) hown hK.1 hP 0 rfl rfl 2 (by decide) (hts (.fieldLink RX0 23 "JugglingHall$Book" "time" "I") (by decide +kernel)) (fun _ h9 => h9) rfl dX0_turnPage_21 ?_
  refine lv_iconst (v := 1) hx hb dX0_turnPage_24 (by decide) ?_
  refine lv_iadd hx hb dX0_turnPage_25 ?_
  refine lv_eqi (y := 1) (by decide) ?_
  refine lv_bipush (v := 8) hx hb dX0_turnPage_26 (by decide) ?_
  refine lv_imul hx hb dX0_turnPage_28 ?_
  refine lv_eqi (y := 8) (by decide) ?_
  refine lv_iload_n hx hb dX0_turnPage_29 rfl (lv_at hl 0 rfl) ?_
  refine lv_iadd hx hb dX0_turnPage_30 ?_
  refine lv_eqi (y := 15) (by decide) ?_
  refine lv_aload_n hx hb dX0_turnPage_31 rfl (lv_at hl 1 rfl) ?_
  refine va_get (D := D) (ci := 0) (v := .ref br) (C := RX0) (T := TX0) (N := 4) hx hb hts (by decide +kernel) hown hK.1 hP 0 rfl rfl 0 (by decide) (hts (.fieldLink RX0 11 "JugglingHall$Book" "rows" "[LJugglingHall$Row;") (by decide +kernel)) (fun _ h9 => h9) rfl dX0_turnPage_32 ?_
  refine lv_aload_n hx hb dX0_turnPage_35 rfl (lv_at hl 1 rfl) ?_
  refine va_get (D := D) (ci := 0) (v := .int 0) (C := RX0) (T := TX0) (N := 4) hx hb hts (by decide +kernel) hown hK.1 hP 0 rfl rfl 2 (by decide) (hts (.fieldLink RX0 23 "JugglingHall$Book" "time" "I") (by decide +kernel)) (fun _ h9 => h9) rfl dX0_turnPage_36 ?_
  refine lv_bipush (v := 8) hx hb dX0_turnPage_39 (by decide) ?_
  refine lv_imul hx hb dX0_turnPage_41 ?_
  refine lv_eqi (y := 0) (by decide) ?_
  refine lv_iload_n hx hb dX0_turnPage_42 rfl (lv_at hl 0 rfl) ?_
  refine lv_iadd hx hb dX0_turnPage_43 ?_
  refine lv_eqi (y := 7) (by decide) ?_
  refine aald_n (k := 7) (v := .null) hx hb hK.1 hP 1 1 rfl rfl (by decide) (by decide) (rfl) dX0_turnPage_44 ?_
  refine aast_N (k := 15) hx hb hK.1 hP hD hS 1 1 rfl rfl (by decide) (by decide) dX0_turnPage_45 (fun H locs hP hD hS => ?_)
  have hP : va_P D vwCl [(bk, .inr (0, [.ref br, .ref bm, .int 0, .int 0])), (br, .inl (cR, 488, .inr (.inr (.inr (.inr (va_up (va_up (va_up (va_up (va_up (va_up (va_up (va_up (fun _ => none) 8 none) 9 none) 10 none) 11 none) 12 none) 13 none) 14 none) 15 none)))))), (bm, .inl (cM, 61, .inr (.inr (.inr (.inr (fun _ => none))))))] H := hP
  have hD : va_D A [(bk, .inr (0, [.ref br, .ref bm, .int 0, .int 0])), (br, .inl (cR, 488, .inr (.inr (.inr (.inr (va_up (va_up (va_up (va_up (va_up (va_up (va_up (va_up (fun _ => none) 8 none) 9 none) 10 none) 11 none) 12 none) 13 none) 14 none) 15 none)))))), (bm, .inl (cM, 61, .inr (.inr (.inr (.inr (fun _ => none))))))] := hD
  refine lv_iinc (v := 8) (lv' := [(1, .int 8), (0, .ref bk)]) hx hb dX0_turnPage_46 hl (k := 0) rfl (by decide) (by decide) rfl (fun ls hl => ?_)
  refine lv_goto (tgt := 10) hx hb dX0_turnPage_49 (by decide) ?_
  refine lv_iload_n hx hb dX0_turnPage_10 rfl (lv_at hl 0 rfl) ?_
  refine lv_bipush (v := 8) hx hb dX0_turnPage_11 (by decide) ?_
  refine lv_icmp_ge (tgt := 52) hx hb dX0_turnPage_13 (by decide) (fun c13 => ?_) (fun c13 => absurd (by decide) c13)
  refine lv_aload_n hx hb dX0_turnPage_52 rfl (lv_at hl 1 rfl) ?_
  refine va_get (D := D) (ci := 0) (v := .ref bm) (C := RX0) (T := TX0) (N := 4) hx hb hts (by decide +kernel) hown hK.1 hP 0 rfl rfl 1 (by decide) (hts (.fieldLink RX0 19 "JugglingHall$Book" "marks" "[LJugglingHall$Marks;") (by decide +kernel)) (fun _ h9 => h9) rfl dX0_turnPage_53 ?_
  refine lv_aload_n hx hb dX0_turnPage_56 rfl (lv_at hl 1 rfl) ?_
  refine va_get (D := D) (ci := 0) (v := .int 0) (C := RX0) (T := TX0) (N := 4) hx hb hts (by decide +kernel) hown hK.1 hP 0 rfl rfl 2 (by decide) (hts (.fieldLink RX0 23 "JugglingHall$Book" "time" "I") (by decide +kernel)) (fun _ h9 => h9) rfl dX0_turnPage_57 ?_
  refine lv_iconst (v := 1) hx hb dX0_turnPage_60 (by decide) ?_
  refine lv_iadd hx hb dX0_turnPage_61 ?_
  refine lv_eqi (y := 1) (by decide) ?_
  refine lv_aload_n hx hb dX0_turnPage_62 rfl (lv_at hl 1 rfl) ?_
  refine va_get (D := D) (ci := 0) (v := .ref bm) (C := RX0) (T := TX0) (N := 4) hx hb hts (by decide +kernel) hown hK.1 hP 0 rfl rfl 1 (by decide) (hts (.fieldLink RX0 19 "JugglingHall$Book" "marks" "[LJugglingHall$Marks;") (by decide +kernel)) (fun _ h9 => h9) rfl dX0_turnPage_63 ?_
  refine lv_aload_n hx hb dX0_turnPage_66 rfl (lv_at hl 1 rfl) ?_
  refine va_get (D := D) (ci := 0) (v := .int 0) (C := RX0) (T := TX0) (N := 4) hx hb hts (by decide +kernel) hown hK.1 hP 0 rfl rfl 2 (by decide) (hts (.fieldLink RX0 23 "JugglingHall$Book" "time" "I") (by decide +kernel)) (fun _ h9 => h9) rfl dX0_turnPage_67 ?_
  refine aald_n (k := 0) (v := .null) hx hb hK.1 hP 2 2 rfl rfl (by decide) (by decide) (rfl) dX0_turnPage_70 ?_
  refine aast_N (k := 1) hx hb hK.1 hP hD hS 2 2 rfl rfl (by decide) (by decide) dX0_turnPage_71 (fun H locs hP hD hS => ?_)
  have hP : va_P D vwCl [(bk, .inr (0, [.ref br, .ref bm, .int 0, .int 0])), (br, .inl (cR, 488, .inr (.inr (.inr (.inr (va_up (va_up (va_up (va_up (va_up (va_up (va_up (va_up (fun _ => none) 8 none) 9 none) 10 none) 11 none) 12 none) 13 none) 14 none) 15 none)))))), (bm, .inl (cM, 61, .inr (.inr (.inr (.inr (va_up (fun _ => none) 1 none))))))] H := hP
  have hD : va_D A [(bk, .inr (0, [.ref br, .ref bm, .int 0, .int 0])), (br, .inl (cR, 488, .inr (.inr (.inr (.inr (va_up (va_up (va_up (va_up (va_up (va_up (va_up (va_up (fun _ => none) 8 none) 9 none) 10 none) 11 none) 12 none) 13 none) 14 none) 15 none)))))), (bm, .inl (cM, 61, .inr (.inr (.inr (.inr (va_up (fun _ => none) 1 none))))))] := hD
  refine lv_aload_n hx hb dX0_turnPage_72 rfl (lv_at hl 1 rfl) ?_
  refine lv_dup hx hb dX0_turnPage_73 rfl ?_
  refine va_get (D := D) (ci := 0) (v := .int 0) (C := RX0) (T := TX0) (N := 4) hx hb hts (by decide +kernel) hown hK.1 hP 0 rfl rfl 2 (by decide) (hts (.fieldLink RX0 23 "JugglingHall$Book" "time" "I") (by decide +kernel)) (fun _ h9 => h9) rfl dX0_turnPage_74 ?_
  refine lv_iconst (v := 1) hx hb dX0_turnPage_77 (by decide) ?_
  refine lv_iadd hx hb dX0_turnPage_78 ?_
  refine lv_eqi (y := 1) (by decide) ?_
  refine va_put (D := D) (ci := 0) (v := .int 1) (ty := .int) (C := RX0) (T := TX0) (N := 4) hx hb hts (by decide +kernel) tyX0 tyX0_ok nmX0 hown hK.1 hP hD hS 0 rfl rfl 2 (by decide) (hts (.fieldLink RX0 23 "JugglingHall$Book" "time" "I") (by decide +kernel)) (fun _ h9 => h9) rfl (by decide +kernel) rfl rfl (Nat.le_of_ble_eq_true rfl) dX0_turnPage_79 (fun H locs hP hD hS => ?_)
  have hP : va_P D vwCl [(bk, .inr (0, [.ref br, .ref bm, .int 1, .int 0])), (br, .inl (cR, 488, .inr (.inr (.inr (.inr (va_up (va_up (va_up (va_up (va_up (va_up (va_up (va_up (fun _ => none) 8 none) 9 none) 10 none) 11 none) 12 none) 13 none) 14 none) 15 none)))))), (bm, .inl (cM, 61, .inr (.inr (.inr (.inr (va_up (fun _ => none) 1 none))))))] H := hP
  have hD : va_D A [(bk, .inr (0, [.ref br, .ref bm, .int 1, .int 0])), (br, .inl (cR, 488, .inr (.inr (.inr (.inr (va_up (va_up (va_up (va_up (va_up (va_up (va_up (va_up (fun _ => none) 8 none) 9 none) 10 none) 11 none) 12 none) 13 none) 14 none) 15 none)))))), (bm, .inl (cM, 61, .inr (.inr (.inr (.inr (va_up (fun _ => none) 1 none))))))] := hD
  refine lv_aload_n hx hb dX0_turnPage_82 rfl (lv_at hl 1 rfl) ?_
  refine lv_aload_n hx hb dX0_turnPage_83 rfl (lv_at hl 1 rfl) ?_
  refine va_get (D := D) (ci := 0) (v := .int 1) (C := RX0) (T := TX0) (N := 4) hx hb hts (by decide +kernel) hown hK.1 hP 0 rfl rfl 2 (by decide) (hts (.fieldLink RX0 23 "JugglingHall$Book" "time" "I") (by decide +kernel)) (fun _ h9 => h9) rfl dX0_turnPage_84 ?_
  refine va_put (D := D) (ci := 0) (v := .int 1) (ty := .int) (C := RX0) (T := TX0) (N := 4) hx hb hts (by decide +kernel) tyX0 tyX0_ok nmX0 hown hK.1 hP hD hS 0 rfl rfl 3 (by decide) (hts (.fieldLink RX0 31 "JugglingHall$Book" "lookTime" "I") (by decide +kernel)) (fun _ h9 => h9) rfl (by decide +kernel) rfl rfl (Nat.le_of_ble_eq_true rfl) dX0_turnPage_87 (fun H locs hP hD hS => ?_)
  have hP : va_P D vwCl [(bk, .inr (0, [.ref br, .ref bm, .int 1, .int 1])), (br, .inl (cR, 488, .inr (.inr (.inr (.inr (va_up (va_up (va_up (va_up (va_up (va_up (va_up (va_up (fun _ => none) 8 none) 9 none) 10 none) 11 none) 12 none) 13 none) 14 none) 15 none)))))), (bm, .inl (cM, 61, .inr (.inr (.inr (.inr (va_up (fun _ => none) 1 none))))))] H := hP
  have hD : va_D A [(bk, .inr (0, [.ref br, .ref bm, .int 1, .int 1])), (br, .inl (cR, 488, .inr (.inr (.inr (.inr (va_up (va_up (va_up (va_up (va_up (va_up (va_up (va_up (fun _ => none) 8 none) 9 none) 10 none) 11 none) 12 none) 13 none) 14 none) 15 none)))))), (bm, .inl (cM, 61, .inr (.inr (.inr (.inr (va_up (fun _ => none) 1 none))))))] := hD
  exact g_vret (()) hx hb hr hlocks hS rfl (trivial) (hP.sub [0] rfl) (hD.sub [0] (by decide) rfl) hQ (Nat.le_of_ble_eq_true rfl) (Nat.le_of_ble_eq_true rfl) dX0_turnPage_90
set_option maxRecDepth 100000 in
set_option maxHeartbeats 4000000 in
theorem c_tellAll (l : Launch) (D : va_G) (cI cR cM : ClassId) (sz : Nat) (tk br bm : Nat) (rd bk r3 r6 w0 w1 w2 w3 w4 w5 w6 w7 : Nat) (y0 y3 y4 y6 y7 y8 a0 b0 d0 a1 b1 d1 a2 b2 d2 a3 b3 d3 a4 b4 d4 a5 b5 d5 a6 b6 d6 a7 b7 d7 : Value) : Met l yX4_tellAll wsX4_tellAll ({ frames := 2, cells := 0, slots := 0, locals := 41 }) (P0 D cI cR cM [.ref rd] sz [(rd, .inr (4, [y0, .ref tk, .ref bk, y3, y4, .ref r3, y6, y7, .ref r6, .int 0, .int (-1)])), (r3, .inl (cR, 8, .inr (.inr (.inr (.inr (va_up (va_up (va_up (va_up (va_up (va_up (va_up (va_up (fun _ => none) 0 (some w0)) 1 (some w1)) 2 (some w2)) 3 (some w3)) 4 (some w4)) 5 (some w5)) 6 (some w6)) 7 (some w7))))))), (r6, .inr (3, [y8, .int 0])), (w0, .inr (5, [a0, b0, d0, .int 0])), (w1, .inr (5, [a1, b1, d1, .int 0])), (w2, .inr (5, [a2, b2, d2, .int 0])), (w3, .inr (5, [a3, b3, d3, .int 0])), (w4, .inr (5, [a4, b4, d4, .int 0])), (w5, .inr (5, [a5, b5, d5, .int 0])), (w6, .inr (5, [a6, b6, d6, .int 0])), (w7, .inr (5, [a7, b7, d7, .int 0])), (bk, .inr (0, [.ref br, .ref bm, .int 0, .int 0])), (br, .inl (cR, 488, .inr (.inr (.inr (.inr (fun _ => none)))))), (bm, .inl (cM, 61, .inr (.inr (.inr (.inr (fun _ => none))))))]) (QG (S := Unit) (fun _ => none) (fun _ => [(bk, .inr (0, [.ref br, .ref bm, .int 1, .int 1]))]) (fun _ => True) D (va_A [(rd, .inr (4, [y0, .ref tk, .ref bk, y3, y4, .ref r3, y6, y7, .ref r6, .int 0, .int (-1)])), (r3, .inl (cR, 8, .inr (.inr (.inr (.inr (va_up (va_up (va_up (va_up (va_up (va_up (va_up (va_up (fun _ => none) 0 (some w0)) 1 (some w1)) 2 (some w2)) 3 (some w3)) 4 (some w4)) 5 (some w5)) 6 (some w6)) 7 (some w7))))))), (r6, .inr (3, [y8, .int 0])), (w0, .inr (5, [a0, b0, d0, .int 0])), (w1, .inr (5, [a1, b1, d1, .int 0])), (w2, .inr (5, [a2, b2, d2, .int 0])), (w3, .inr (5, [a3, b3, d3, .int 0])), (w4, .inr (5, [a4, b4, d4, .int 0])), (w5, .inr (5, [a5, b5, d5, .int 0])), (w6, .inr (5, [a6, b6, d6, .int 0])), (w7, .inr (5, [a7, b7, d7, .int 0])), (bk, .inr (0, [.ref br, .ref bm, .int 0, .int 0])), (br, .inl (cR, 488, .inr (.inr (.inr (.inr (fun _ => none)))))), (bm, .inl (cM, 61, .inr (.inr (.inr (.inr (fun _ => none))))))] sz)) 0 0 (va_A [(rd, .inr (4, [y0, .ref tk, .ref bk, y3, y4, .ref r3, y6, y7, .ref r6, .int 0, .int (-1)])), (r3, .inl (cR, 8, .inr (.inr (.inr (.inr (va_up (va_up (va_up (va_up (va_up (va_up (va_up (va_up (fun _ => none) 0 (some w0)) 1 (some w1)) 2 (some w2)) 3 (some w3)) 4 (some w4)) 5 (some w5)) 6 (some w6)) 7 (some w7))))))), (r6, .inr (3, [y8, .int 0])), (w0, .inr (5, [a0, b0, d0, .int 0])), (w1, .inr (5, [a1, b1, d1, .int 0])), (w2, .inr (5, [a2, b2, d2, .int 0])), (w3, .inr (5, [a3, b3, d3, .int 0])), (w4, .inr (5, [a4, b4, d4, .int 0])), (w5, .inr (5, [a5, b5, d5, .int 0])), (w6, .inr (5, [a6, b6, d6, .int 0])), (w7, .inr (5, [a7, b7, d7, .int 0])), (bk, .inr (0, [.ref br, .ref bm, .int 0, .int 0])), (br, .inl (cR, 488, .inr (.inr (.inr (.inr (fun _ => none)))))), (bm, .inl (cM, 61, .inr (.inr (.inr (.inr (fun _ => none))))))] sz) := by
  refine go (cc := cX4_tellAll) (maxL := 2) (ret := none) (by decide) rfl (Nat.le_of_ble_eq_true rfl) ?_
  intro p e s m below meth c ls args Q hQ hsz hx hb hr hml hts hown hlocks hnm hP hK hD hl
  subst hsz
  have hD := hD.self (sz := s.heap.size)
  generalize hAe : va_A [(rd, .inr (4, [y0, .ref tk, .ref bk, y3, y4, .ref r3, y6, y7, .ref r6, .int 0, .int (-1)])), (r3, .inl (cR, 8, .inr (.inr (.inr (.inr (va_up (va_up (va_up (va_up (va_up (va_up (va_up (va_up (fun _ => none) 0 (some w0)) 1 (some w1)) 2 (some w2)) 3 (some w3)) 4 (some w4)) 5 (some w5)) 6 (some w6)) 7 (some w7))))))), (r6, .inr (3, [y8, .int 0])), (w0, .inr (5, [a0, b0, d0, .int 0])), (w1, .inr (5, [a1, b1, d1, .int 0])), (w2, .inr (5, [a2, b2, d2, .int 0])), (w3, .inr (5, [a3, b3, d3, .int 0])), (w4, .inr (5, [a4, b4, d4, .int 0])), (w5, .inr (5, [a5, b5, d5, .int 0])), (w6, .inr (5, [a6, b6, d6, .int 0])), (w7, .inr (5, [a7, b7, d7, .int 0])), (bk, .inr (0, [.ref br, .ref bm, .int 0, .int 0])), (br, .inl (cR, 488, .inr (.inr (.inr (.inr (fun _ => none)))))), (bm, .inl (cM, 61, .inr (.inr (.inr (.inr (fun _ => none))))))] s.heap.size = A at hD hQ
  have hA : ∀ q, s.heap.size ≤ q → A q := fun q h => by rw [← hAe]; exact Or.inr h
  have hS : va_S A s.heap s.heap [] := va_S.rf
  have hl : lv_has ls 2 [(0, .ref rd)] := hl
  refine lv_aload_n hx hb dX4_tellAll_0 rfl (lv_at hl 0 rfl) ?_
  refine va_get (D := D) (ci := 4) (v := .ref bk) (C := RX4) (T := TX4) (N := 11) hx hb hts (by decide +kernel) hown hK.1 hP 0 rfl rfl 2 (by decide) (hts (.fieldLink RX4 45 "JugglingHall$Reader" "book" "LJugglingHall$Book;") (by decide +kernel)) (fun _ h9 => h9) rfl dX4_tellAll_1 ?_
  have hPc := hP.sub (ws' := [(bk, .inr (0, [.ref br, .ref bm, .int 0, .int 0])), (br, .inl (cR, 488, .inr (.inr (.inr (.inr (fun _ => none)))))), (bm, .inl (cM, 61, .inr (.inr (.inr (.inr (fun _ => none))))))]) [11, 12, 13] rfl
  have hDc := hD.sub (ws' := [(bk, .inr (0, [.ref br, .ref bm, .int 0, .int 0])), (br, .inl (cR, 488, .inr (.inr (.inr (.inr (fun _ => none)))))), (bm, .inl (cM, 61, .inr (.inr (.inr (.inr (fun _ => none))))))]) [11, 12, 13] (by decide) rfl
  refine call_g (wr := [(rd, .inr (4, [y0, .ref tk, .ref bk, y3, y4, .ref r3, y6, y7, .ref r6, .int 0, .int (-1)])), (r3, .inl (cR, 8, .inr (.inr (.inr (.inr (va_up (va_up (va_up (va_up (va_up (va_up (va_up (va_up (fun _ => none) 0 (some w0)) 1 (some w1)) 2 (some w2)) 3 (some w3)) 4 (some w4)) 5 (some w5)) 6 (some w6)) 7 (some w7))))))), (r6, .inr (3, [y8, .int 0])), (w0, .inr (5, [a0, b0, d0, .int 0])), (w1, .inr (5, [a1, b1, d1, .int 0])), (w2, .inr (5, [a2, b2, d2, .int 0])), (w3, .inr (5, [a3, b3, d3, .int 0])), (w4, .inr (5, [a4, b4, d4, .int 0])), (w5, .inr (5, [a5, b5, d5, .int 0])), (w6, .inr (5, [a6, b6, d6, .int 0])), (w7, .inr (5, [a7, b7, d7, .int 0]))]) (va_runV (As := []) (rest := []) ⟨hx, hb, hml, hown, hts⟩ (c_turnPage l D cI cR cM _ bk br bm) (cwV 0 hts gX4_tellAll_X0_turnPage rfl rfl rfl (by decide +kernel) ⟨Nat.le_of_ble_eq_true rfl, Nat.le_of_ble_eq_true rfl⟩) (pre_V hK hPc hDc 0 0 rfl rfl) rfl rfl hl.1 rfl (lv_room (Nat.le_of_ble_eq_true rfl)) dX4_tellAll_4 ⟨Nat.le_of_ble_eq_true rfl, Nat.le_of_ble_eq_true rfl⟩) hP hD hS hA [11, 12, 13] [0, 1, 2, 3, 4, 5, 6, 7, 8, 9, 10] rfl rfl (by decide) (by decide) (fun _u H locs hw hP hD hS => ?_)
  have hP : va_P D vwCl [(rd, .inr (4, [y0, .ref tk, .ref bk, y3, y4, .ref r3, y6, y7, .ref r6, .int 0, .int (-1)])), (r3, .inl (cR, 8, .inr (.inr (.inr (.inr (va_up (va_up (va_up (va_up (va_up (va_up (va_up (va_up (fun _ => none) 0 (some w0)) 1 (some w1)) 2 (some w2)) 3 (some w3)) 4 (some w4)) 5 (some w5)) 6 (some w6)) 7 (some w7))))))), (r6, .inr (3, [y8, .int 0])), (w0, .inr (5, [a0, b0, d0, .int 0])), (w1, .inr (5, [a1, b1, d1, .int 0])), (w2, .inr (5, [a2, b2, d2, .int 0])), (w3, .inr (5, [a3, b3, d3, .int 0])), (w4, .inr (5, [a4, b4, d4, .int 0])), (w5, .inr (5, [a5, b5, d5, .int 0])), (w6, .inr (5, [a6, b6, d6, .int 0])), (w7, .inr (5, [a7, b7, d7, .int 0])), (bk, .inr (0, [.ref br, .ref bm, .int 1, .int 1]))] H := hP
  have hD : va_D A [(rd, .inr (4, [y0, .ref tk, .ref bk, y3, y4, .ref r3, y6, y7, .ref r6, .int 0, .int (-1)])), (r3, .inl (cR, 8, .inr (.inr (.inr (.inr (va_up (va_up (va_up (va_up (va_up (va_up (va_up (va_up (fun _ => none) 0 (some w0)) 1 (some w1)) 2 (some w2)) 3 (some w3)) 4 (some w4)) 5 (some w5)) 6 (some w6)) 7 (some w7))))))), (r6, .inr (3, [y8, .int 0])), (w0, .inr (5, [a0, b0, d0, .int 0])), (w1, .inr (5, [a1, b1, d1, .int 0])), (w2, .inr (5, [a2, b2, d2, .int 0])), (w3, .inr (5, [a3, b3, d3, .int 0])), (w4, .inr (5, [a4, b4, d4, .int 0])), (w5, .inr (5, [a5, b5, d5, .int 0])), (w6, .inr (5, [a6, b6, d6, .int 0])), (w7, .inr (5, [a7, b7, d7, .int 0])), (bk, .inr (0, [.ref br, .ref bm, .int 1, .int 1]))] := hD
  refine lv_iconst (v := 0) hx hb dX4_tellAll_7 (by decide) ?_
  refine lv_istore_n (lv' := [(1, .int 0), (0, .ref rd)]) hx hb dX4_tellAll_8 rfl hl (by decide) rfl (fun ls hl => ?_)
  refine lv_iload_n hx hb dX4_tellAll_9 rfl (lv_at hl 0 rfl) ?_
  refine lv_aload_n hx hb dX4_tellAll_10 rfl (lv_at hl 1 rfl) ?_
  refine va_get (D := D) (ci := 4) (v := .ref r3) (C := RX4) (T := TX4) (N := 11) hx hb hts (by decide +kernel) hown hK.1 hP 0 rfl rfl 5 (by decide) (hts (.fieldLink RX4 21 "JugglingHall$Reader" "here" "[LJugglingHall$Row;") (by decide +kernel)) (fun _ h9 => h9) rfl dX4_tellAll_11 ?_
  refine va_alen (v := nI 8) hx hb hK.1 hP 1 1 rfl rfl rfl dX4_tellAll_14 ?_
  refine lv_icmp_ge (tgt := 53) hx hb dX4_tellAll_15 (by decide) (fun c15 => absurd c15 (by decide)) (fun c15 => ?_)
  refine lv_aload_n hx hb dX4_tellAll_18 rfl (lv_at hl 1 rfl) ?_
  refine va_get (D := D) (ci := 4) (v := .ref r3) (C := RX4) (T := TX4) (N := 11) hx hb hts (by decide +kernel) hown hK.1 hP 0 rfl rfl 5 (by decide) (hts (.fieldLink RX4 21 "JugglingHall$Reader" "here" "[LJugglingHall$Row;") (by decide +kernel)) (fun _ h9 => h9) rfl dX4_tellAll_19 ?_
  refine lv_iload_n hx hb dX4_tellAll_22 rfl (lv_at hl 0 rfl) ?_
  refine aald_n (k := 0) (v := .ref w0) hx hb hK.1 hP 1 1 rfl rfl (by decide) (by decide) (rfl) dX4_tellAll_23 ?_
  refine va_getN (D := D) (ci := 5) (v := .int 0) (C := RX5) (T := TX5) (N := 4) (host := "JugglingHall") hx hb hts (by decide +kernel) hown hK.1 hP 3 rfl rfl 3 (by decide) (hK.nw (.fieldLinkNest RX4 62 "JugglingHall$Row" "length" "I" "JugglingHall") (by decide +kernel) rfl) (fun _ h9 => h9) rfl dX4_tellAll_24 ?_
  refine lv_if_le (tgt := 47) hx hb dX4_tellAll_27 (by decide) (fun c27 => ?_) (fun c27 => absurd (by decide) c27)
  refine lv_iinc (v := 1) (lv' := [(1, .int 1), (0, .ref rd)]) hx hb dX4_tellAll_47 hl (k := 0) rfl (by decide) (by decide) rfl (fun ls hl => ?_)
  refine lv_goto (tgt := 9) hx hb dX4_tellAll_50 (by decide) ?_
  refine lv_iload_n hx hb dX4_tellAll_9 rfl (lv_at hl 0 rfl) ?_
  refine lv_aload_n hx hb dX4_tellAll_10 rfl (lv_at hl 1 rfl) ?_
  refine va_get (D := D) (ci := 4) (v := .ref r3) (C := RX4) (T := TX4) (N := 11) hx hb hts (by decide +kernel) hown hK.1 hP 0 rfl rfl 5 (by decide) (hts (.fieldLink RX4 21 "JugglingHall$Reader" "here" "[LJugglingHall$Row;") (by decide +kernel)) (fun _ h9 => h9) rfl dX4_tellAll_11 ?_
  refine va_alen (v := nI 8) hx hb hK.1 hP 1 1 rfl rfl rfl dX4_tellAll_14 ?_
  refine lv_icmp_ge (tgt := 53) hx hb dX4_tellAll_15 (by decide) (fun c15 => absurd c15 (by decide)) (fun c15 => ?_)
  refine lv_aload_n hx hb dX4_tellAll_18 rfl (lv_at hl 1 rfl) ?_
  refine va_get (D := D) (ci := 4) (v := .ref r3) (C := RX4) (T := TX4) (N := 11) hx hb hts (by decide +kernel) hown hK.1 hP 0 rfl rfl 5 (by decide) (hts (.fieldLink RX4 21 "JugglingHall$Reader" "here" "[LJugglingHall$Row;") (by decide +kernel)) (fun _ h9 => h9) rfl dX4_tellAll_19 ?_
  refine lv_iload_n hx hb dX4_tellAll_22 rfl (lv_at hl 0 rfl) ?_
  refine aald_n (k := 1) (v := .ref w1) hx hb hK.1 hP 1 1 rfl rfl (by decide) (by decide) (rfl) dX4_tellAll_23 ?_
  refine va_getN (D := D) (ci := 5) (v := .int 0) (C := RX5) (T := TX5) (N := 4) (host := "JugglingHall") hx hb hts (by decide +kernel) hown hK.1 hP 4 rfl rfl 3 (by decide) (hK.nw (.fieldLinkNest RX4 62 "JugglingHall$Row" "length" "I" "JugglingHall") (by decide +kernel) rfl) (fun _ h9 => h9) rfl dX4_tellAll_24 ?_
  refine lv_if_le (tgt := 47) hx hb dX4_tellAll_27 (by decide) (fun c27 => ?_) (fun c27 => absurd (by decide) c27)
  refine lv_iinc (v := 2) (lv' := [(1, .int 2), (0, .ref rd)]) hx hb dX4_tellAll_47 hl (k := 0) rfl (by decide) (by decide) rfl (fun ls hl => ?_)
  refine lv_goto (tgt := 9) hx hb dX4_tellAll_50 (by decide) ?_
  refine lv_iload_n hx hb dX4_tellAll_9 rfl (lv_at hl 0 rfl) ?_
  refine lv_aload_n hx hb dX4_tellAll_10 rfl (lv_at hl 1 rfl) ?_
  refine va_get (D := D) (ci := 4) (v := .ref r3) (C := RX4) (T := TX4) (N := 11) hx hb hts (by decide +kernel) hown hK.1 hP 0 rfl rfl 5 (by decide) (hts (.fieldLink RX4 21 "JugglingHall$Reader" "here" "[LJugglingHall$Row;") (by decide +kernel)) (fun _ h9 => h9) rfl dX4_tellAll_11 ?_
  refine va_alen (v := nI 8) hx hb hK.1 hP 1 1 rfl rfl rfl dX4_tellAll_14 ?_
  refine lv_icmp_ge (tgt := 53) hx hb dX4_tellAll_15 (by decide) (fun c15 => absurd c15 (by decide)) (fun c15 => ?_)
  refine lv_aload_n hx hb dX4_tellAll_18 rfl (lv_at hl 1 rfl) ?_
  refine va_get (D := D) (ci := 4) (v := .ref r3) (C := RX4) (T := TX4) (N := 11) hx hb hts (by decide +kernel) hown hK.1 hP 0 rfl rfl 5 (by decide) (hts (.fieldLink RX4 21 "JugglingHall$Reader" "here" "[LJugglingHall$Row;") (by decide +kernel)) (fun _ h9 => h9) rfl dX4_tellAll_19 ?_
  refine lv_iload_n hx hb dX4_tellAll_22 rfl (lv_at hl 0 rfl) ?_
  refine aald_n (k := 2) (v := .ref w2) hx hb hK.1 hP 1 1 rfl rfl (by decide) (by decide) (rfl) dX4_tellAll_23 ?_
  refine va_getN (D := D) (ci := 5) (v := .int 0) (C := RX5) (T := TX5) (N := 4) (host := "JugglingHall") hx hb hts (by decide +kernel) hown hK.1 hP 5 rfl rfl 3 (by decide) (hK.nw (.fieldLinkNest RX4 62 "JugglingHall$Row" "length" "I" "JugglingHall") (by decide +kernel) rfl) (fun _ h9 => h9) rfl dX4_tellAll_24 ?_
  refine lv_if_le (tgt := 47) hx hb dX4_tellAll_27 (by decide) (fun c27 => ?_) (fun c27 => absurd (by decide) c27)
  refine lv_iinc (v := 3) (lv' := [(1, .int 3), (0, .ref rd)]) hx hb dX4_tellAll_47 hl (k := 0) rfl (by decide) (by decide) rfl (fun ls hl => ?_)
  refine lv_goto (tgt := 9) hx hb dX4_tellAll_50 (by decide) ?_
  refine lv_iload_n hx hb dX4_tellAll_9 rfl (lv_at hl 0 rfl) ?_
  refine lv_aload_n hx hb dX4_tellAll_10 rfl (lv_at hl 1 rfl) ?_
  refine va_get (D := D) (ci := 4) (v := .ref r3) (C := RX4) (T := TX4) (N := 11) hx hb hts (by decide +kernel) hown hK.1 hP 0 rfl rfl 5 (by decide) (hts (.fieldLink RX4 21 "JugglingHall$Reader" "here" "[LJugglingHall$Row;") (by decide +kernel)) (fun _ h9 => h9) rfl dX4_tellAll_11 ?_
  refine va_alen (v := nI 8) hx hb hK.1 hP 1 1 rfl rfl rfl dX4_tellAll_14 ?_
  refine lv_icmp_ge (tgt := 53) hx hb dX4_tellAll_15 (by decide) (fun c15 => absurd c15 (by decide)) (fun c15 => ?_)
  refine lv_aload_n hx hb dX4_tellAll_18 rfl (lv_at hl 1 rfl) ?_
  refine va_get (D := D) (ci := 4) (v := .ref r3) (C := RX4) (T := TX4) (N := 11) hx hb hts (by decide +kernel) hown hK.1 hP 0 rfl rfl 5 (by decide) (hts (.fieldLink RX4 21 "JugglingHall$Reader" "here" "[LJugglingHall$Row;") (by decide +kernel)) (fun _ h9 => h9) rfl dX4_tellAll_19 ?_
  refine lv_iload_n hx hb dX4_tellAll_22 rfl (lv_at hl 0 rfl) ?_
  refine aald_n (k := 3) (v := .ref w3) hx hb hK.1 hP 1 1 rfl rfl (by decide) (by decide) (rfl) dX4_tellAll_23 ?_
  refine va_getN (D := D) (ci := 5) (v := .int 0) (C := RX5) (T := TX5) (N := 4) (host := "JugglingHall") hx hb hts (by decide +kernel) hown hK.1 hP 6 rfl rfl 3 (by decide) (hK.nw (.fieldLinkNest RX4 62 "JugglingHall$Row" "length" "I" "JugglingHall") (by decide +kernel) rfl) (fun _ h9 => h9) rfl dX4_tellAll_24 ?_
  refine lv_if_le (tgt := 47) hx hb dX4_tellAll_27 (by decide) (fun c27 => ?_) (fun c27 => absurd (by decide) c27)
  refine lv_iinc (v := 4) (lv' := [(1, .int 4), (0, .ref rd)]) hx hb dX4_tellAll_47 hl (k := 0) rfl (by decide) (by decide) rfl (fun ls hl => ?_)
  refine lv_goto (tgt := 9) hx hb dX4_tellAll_50 (by decide) ?_
  refine lv_iload_n hx hb dX4_tellAll_9 rfl (lv_at hl 0 rfl) ?_
  refine lv_aload_n hx hb dX4_tellAll_10 rfl (lv_at hl 1 rfl) ?_
  refine va_get (D := D) (ci := 4) (v := .ref r3) (C := RX4) (T := TX4) (N := 11) hx hb hts (by decide +kernel) hown hK.1 hP 0 rfl rfl 5 (by decide) (hts (.fieldLink RX4 21 "JugglingHall$Reader" "here" "[LJugglingHall$Row;") (by decide +kernel)) (fun _ h9 => h9) rfl dX4_tellAll_11 ?_
  refine va_alen (v := nI 8) hx hb hK.1 hP 1 1 rfl rfl rfl dX4_tellAll_14 ?_
  refine lv_icmp_ge (tgt := 53) hx hb dX4_tellAll_15 (by decide) (fun c15 => absurd c15 (by decide)) (fun c15 => ?_)
  refine lv_aload_n hx hb dX4_tellAll_18 rfl (lv_at hl 1 rfl) ?_
  refine va_get (D := D) (ci := 4) (v := .ref r3) (C := RX4) (T := TX4) (N := 11) hx hb hts (by decide +kernel) hown hK.1 hP 0 rfl rfl 5 (by decide) (hts (.fieldLink RX4 21 "JugglingHall$Reader" "here" "[LJugglingHall$Row;") (by decide +kernel)) (fun _ h9 => h9) rfl dX4_tellAll_19 ?_
  refine lv_iload_n hx hb dX4_tellAll_22 rfl (lv_at hl 0 rfl) ?_
  refine aald_n (k := 4) (v := .ref w4) hx hb hK.1 hP 1 1 rfl rfl (by decide) (by decide) (rfl) dX4_tellAll_23 ?_
  refine va_getN (D := D) (ci := 5) (v := .int 0) (C := RX5) (T := TX5) (N := 4) (host := "JugglingHall") hx hb hts (by decide +kernel) hown hK.1 hP 7 rfl rfl 3 (by decide) (hK.nw (.fieldLinkNest RX4 62 "JugglingHall$Row" "length" "I" "JugglingHall") (by decide +kernel) rfl) (fun _ h9 => h9) rfl dX4_tellAll_24 ?_
  refine lv_if_le (tgt := 47) hx hb dX4_tellAll_27 (by decide) (fun c27 => ?_) (fun c27 => absurd (by decide) c27)
  refine lv_iinc (v := 5) (lv' := [(1, .int 5), (0, .ref rd)]) hx hb dX4_tellAll_47 hl (k := 0) rfl (by decide) (by decide) rfl (fun ls hl => ?_)
  refine lv_goto (tgt := 9) hx hb dX4_tellAll_50 (by decide) ?_
  refine lv_iload_n hx hb dX4_tellAll_9 rfl (lv_at hl 0 rfl) ?_
  refine lv_aload_n hx hb dX4_tellAll_10 rfl (lv_at hl 1 rfl) ?_
  refine va_get (D := D) (ci := 4) (v := .ref r3) (C := RX4) (T := TX4) (N := 11) hx hb hts (by decide +kernel) hown hK.1 hP 0 rfl rfl 5 (by decide) (hts (.fieldLink RX4 21 "JugglingHall$Reader" "here" "[LJugglingHall$Row;") (by decide +kernel)) (fun _ h9 => h9) rfl dX4_tellAll_11 ?_
  refine va_alen (v := nI 8) hx hb hK.1 hP 1 1 rfl rfl rfl dX4_tellAll_14 ?_
  refine lv_icmp_ge (tgt := 53) hx hb dX4_tellAll_15 (by decide) (fun c15 => absurd c15 (by decide)) (fun c15 => ?_)
  refine lv_aload_n hx hb dX4_tellAll_18 rfl (lv_at hl 1 rfl) ?_
  refine va_get (D := D) (ci := 4) (v := .ref r3) (C := RX4) (T := TX4) (N := 11) hx hb hts (by decide +kernel) hown hK.1 hP 0 rfl rfl 5 (by decide) (hts (.fieldLink RX4 21 "JugglingHall$Reader" "here" "[LJugglingHall$Row;") (by decide +kernel)) (fun _ h9 => h9) rfl dX4_tellAll_19 ?_
  refine lv_iload_n hx hb dX4_tellAll_22 rfl (lv_at hl 0 rfl) ?_
  refine aald_n (k := 5) (v := .ref w5) hx hb hK.1 hP 1 1 rfl rfl (by decide) (by decide) (rfl) dX4_tellAll_23 ?_
  refine va_getN (D := D) (ci := 5) (v := .int 0) (C := RX5) (T := TX5) (N := 4) (host := "JugglingHall") hx hb hts (by decide +kernel) hown hK.1 hP 8 rfl rfl 3 (by decide) (hK.nw (.fieldLinkNest RX4 62 "JugglingHall$Row" "length" "I" "JugglingHall") (by decide +kernel) rfl) (fun _ h9 => h9) rfl dX4_tellAll_24 ?_
  refine lv_if_le (tgt := 47) hx hb dX4_tellAll_27 (by decide) (fun c27 => ?_) (fun c27 => absurd (by decide) c27)
  refine lv_iinc (v := 6) (lv' := [(1, .int 6), (0, .ref rd)]) hx hb dX4_tellAll_47 hl (k := 0) rfl (by decide) (by decide) rfl (fun ls hl => ?_)
  refine lv_goto (tgt := 9) hx hb dX4_tellAll_50 (by decide) ?_
  refine lv_iload_n hx hb dX4_tellAll_9 rfl (lv_at hl 0 rfl) ?_
  refine lv_aload_n hx hb dX4_tellAll_10 rfl (lv_at hl 1 rfl) ?_
  refine va_get (D := D) (ci := 4) (v := .ref r3) (C := RX4) (T := TX4) (N := 11) hx hb hts (by decide +kernel) hown hK.1 hP 0 rfl rfl 5 (by decide) (hts (.fieldLink RX4 21 "JugglingHall$Reader" "here" "[LJugglingHall$Row;") (by decide +kernel)) (fun _ h9 => h9) rfl dX4_tellAll_11 ?_
  refine va_alen (v := nI 8) hx hb hK.1 hP 1 1 rfl rfl rfl dX4_tellAll_14 ?_
  refine lv_icmp_ge (tgt := 53) hx hb dX4_tellAll_15 (by decide) (fun c15 => absurd c15 (by decide)) (fun c15 => ?_)
  refine lv_aload_n hx hb dX4_tellAll_18 rfl (lv_at hl 1 rfl) ?_
  refine va_get (D := D) (ci := 4) (v := .ref r3) (C := RX4) (T := TX4) (N := 11) hx hb hts (by decide +kernel) hown hK.1 hP 0 rfl rfl 5 (by decide) (hts (.fieldLink RX4 21 "JugglingHall$Reader" "here" "[LJugglingHall$Row;") (by decide +kernel)) (fun _ h9 => h9) rfl dX4_tellAll_19 ?_
  refine lv_iload_n hx hb dX4_tellAll_22 rfl (lv_at hl 0 rfl) ?_
  refine aald_n (k := 6) (v := .ref w6) hx hb hK.1 hP 1 1 rfl rfl (by decide) (by decide) (rfl) dX4_tellAll_23 ?_
  refine va_getN (D := D) (ci := 5) (v := .int 0) (C := RX5) (T := TX5) (N := 4) (host := "JugglingHall") hx hb hts (by decide +kernel) hown hK.1 hP 9 rfl rfl 3 (by decide) (hK.nw (.fieldLinkNest RX4 62 "JugglingHall$Row" "length" "I" "JugglingHall") (by decide +kernel) rfl) (fun _ h9 => h9) rfl dX4_tellAll_24 ?_
  refine lv_if_le (tgt := 47) hx hb dX4_tellAll_27 (by decide) (fun c27 => ?_) (fun c27 => absurd (by decide) c27)
  refine lv_iinc (v := 7) (lv' := [(1, .int 7), (0, .ref rd)]) hx hb dX4_tellAll_47 hl (k := 0) rfl (by decide) (by decide) rfl (fun ls hl => ?_)
  refine lv_goto (tgt := 9) hx hb dX4_tellAll_50 (by decide) ?_
  refine lv_iload_n hx hb dX4_tellAll_9 rfl (lv_at hl 0 rfl) ?_
  refine lv_aload_n hx hb dX4_tellAll_10 rfl (lv_at hl 1 rfl) ?_
  refine va_get (D := D) (ci := 4) (v := .ref r3) (C := RX4) (T := TX4) (N := 11) hx hb hts (by decide +kernel) hown hK.1 hP 0 rfl rfl 5 (by decide) (hts (.fieldLink RX4 21 "JugglingHall$Reader" "here" "[LJugglingHall$Row;") (by decide +kernel)) (fun _ h9 => h9) rfl dX4_tellAll_11 ?_
  refine va_alen (v := nI 8) hx hb hK.1 hP 1 1 rfl rfl rfl dX4_tellAll_14 ?_
  refine lv_icmp_ge (tgt := 53) hx hb dX4_tellAll_15 (by decide) (fun c15 => absurd c15 (by decide)) (fun c15 => ?_)
  refine lv_aload_n hx hb dX4_tellAll_18 rfl (lv_at hl 1 rfl) ?_
  refine va_get (D := D) (ci := 4) (v := .ref r3) (C := RX4) (T := TX4) (N := 11) hx hb hts (by decide +kernel) hown hK.1 hP 0 rfl rfl 5 (by decide) (hts (.fieldLink RX4 21 "JugglingHall$Reader" "here" "[LJugglingHall$Row;") (by decide +kernel)) (fun _ h9 => h9) rfl dX4_tellAll_19 ?_
  refine lv_iload_n hx hb dX4_tellAll_22 rfl (lv_at hl 0 rfl) ?_
  refine aald_n (k := 7) (v := .ref w7) hx hb hK.1 hP 1 1 rfl rfl (by decide) (by decide) (rfl) dX4_tellAll_23 ?_
  refine va_getN (D := D) (ci := 5) (v := .int 0) (C := RX5) (T := TX5) (N := 4) (host := "JugglingHall") hx hb hts (by decide +kernel) hown hK.1 hP 10 rfl rfl 3 (by decide) (hK.nw (.fieldLinkNest RX4 62 "JugglingHall$Row" "length" "I" "JugglingHall") (by decide +kernel) rfl) (fun _ h9 => h9) rfl dX4_tellAll_24 ?_
  refine lv_if_le (tgt := 47) hx hb dX4_tellAll_27 (by decide) (fun c27 => ?_) (fun c27 => absurd (by decide) c27)
  refine lv_iinc (v := 8) (lv' := [(1, .int 8), (0, .ref rd)]) hx hb dX4_tellAll_47 hl (k := 0) rfl (by decide) (by decide) rfl (fun ls hl => ?_)
  refine lv_goto (tgt := 9) hx hb dX4_tellAll_50 (by decide) ?_
  refine lv_iload_n hx hb dX4_tellAll_9 rfl (lv_at hl 0 rfl) ?_
  refine lv_aload_n hx hb dX4_tellAll_10 rfl (lv_at hl 1 rfl) ?_
  refine va_get (D := D) (ci := 4) (v := .ref r3) (C := RX4) (T := TX4) (N := 11) hx hb hts (by decide +kernel) hown hK.1 hP 0 rfl rfl 5 (by decide) (hts (.fieldLink RX4 21 "JugglingHall$Reader" "here" "[LJugglingHall$Row;") (by decide +kernel)) (fun _ h9 => h9) rfl dX4_tellAll_11 ?_
  refine va_alen (v := nI 8) hx hb hK.1 hP 1 1 rfl rfl rfl dX4_tellAll_14 ?_
  refine lv_icmp_ge (tgt := 53) hx hb dX4_tellAll_15 (by decide) (fun c15 => ?_) (fun c15 => absurd (by decide) c15)
  refine lv_aload_n hx hb dX4_tellAll_53 rfl (lv_at hl 1 rfl) ?_
  refine va_get (D := D) (ci := 4) (v := .ref r6) (C := RX4) (T := TX4) (N := 11) hx hb hts (by decide +kernel) hown hK.1 hP 0 rfl rfl 8 (by decide) (hts (.fieldLink RX4 27 "JugglingHall$Reader" "marks" "LJugglingHall$Marks;") (by decide +kernel)) (fun _ h9 => h9) rfl dX4_tellAll_54 ?_
  refine va_getN (D := D) (ci := 3) (v := .int 0) (C := RX3) (T := TX3) (N := 2) (host := "JugglingHall") hx hb hts (by decide +kernel) hown hK.1 hP 2 rfl rfl 1 (by decide) (hK.nw (.fieldLinkNest RX4 59 "JugglingHall$Marks" "count" "I" "JugglingHall") (by decide +kernel) rfl) (fun _ h9 => h9) rfl dX4_tellAll_57 ?_
  refine lv_if_le (tgt := 77) hx hb dX4_tellAll_60 (by decide) (fun c60 => ?_) (fun c60 => absurd (by decide) c60)
  exact g_vret (()) hx hb hr hlocks hS rfl (trivial) (hP.sub [11] rfl) (hD.sub [11] (by decide) rfl) hQ (Nat.le_of_ble_eq_true rfl) (Nat.le_of_ble_eq_true rfl) dX4_tellAll_77
set_option maxRecDepth 100000 in
set_option maxHeartbeats 4000000 in
theorem c_text (l : Launch) (D : va_G) (cI cR cM : ClassId) (sz : Nat) (hh : Nat) (x0 x4 x5 x6 x7 : Value) (br bm : Nat) (tk tp t1 t2 t3 : Nat) (tb : Nat) (rd bk r3 r6 w0 w1 w2 w3 w4 w5 w6 w7 : Nat) (y0 y3 y4 y6 y7 y8 a0 b0 d0 a1 b1 d1 a2 b2 d2 a3 b3 d3 a4 b4 d4 a5 b5 d5 a6 b6 d6 a7 b7 d7 : Value) : Met l yX10_text wsX10_text ({ frames := 3, cells := 0, slots := 0, locals := 68 }) (P0 D cI cR cM [.ref hh] sz [(hh, .inr (10, [x0, .ref tp, .ref bk, .ref rd, x4, x5, x6, x7])), (tp, .inr (7, [.ref tb, .int 0])), (bk, .inr (0, [.ref br, .ref bm, .int 0, .int 0])), (br, .inl (cR, 488, .inr (.inr (.inr (.inr (fun _ => none)))))), (bm, .inl (cM, 61, .inr (.inr (.inr (.inr (fun _ => none)))))), (rd, .inr (4, [y0, .ref tk, .ref bk, y3, y4, .ref r3, y6, y7, .ref r6, .int (-1), .int (-1)])), (r3, .inl (cR, 8, .inr (.inr (.inr (.inr (va_up (va_up (va_up (va_up (va_up (va_up (va_up (va_up (fun _ => none) 0 (some w0)) 1 (some w1)) 2 (some w2)) 3 (some w3)) 4 (some w4)) 5 (some w5)) 6 (some w6)) 7 (some w7))))))), (r6, .inr (3, [y8, .int 0])), (w0, .inr (5, [a0, b0, d0, .int 0])), (w1, .inr (5, [a1, b1, d1, .int 0])), (w2, .inr (5, [a2, b2, d2, .int 0])), (w3, .inr (5, [a3, b3, d3, .int 0])), (w4, .inr (5, [a4, b4, d4, .int 0])), (w5, .inr (5, [a5, b5, d5, .int 0])), (w6, .inr (5, [a6, b6, d6, .int 0])), (w7, .inr (5, [a7, b7, d7, .int 0])), (tk, .inr (8, [.ref tp, .ref t1, .ref t2, .ref t3, .int 0, .int 0, .int 0, .int 0, .int 0, .int 0])), (t1, .inl (cI, 301, .inl (fun _ => 0))), (t2, .inl (cI, 301, .inl (fun _ => 0))), (t3, .inl (cI, 301, .inl (fun _ => 0)))]) (QG (S := Unit) (fun _ => some (.int 1)) (fun _ => []) (fun _ => True) D (va_A [(hh, .inr (10, [x0, .ref tp, .ref bk, .ref rd, x4, x5, x6, x7])), (tp, .inr (7, [.ref tb, .int 0])), (bk, .inr (0, [.ref br, .ref bm, .int 0, .int 0])), (br, .inl (cR, 488, .inr (.inr (.inr (.inr (fun _ => none)))))), (bm, .inl (cM, 61, .inr (.inr (.inr (.inr (fun _ => none)))))), (rd, .inr (4, [y0, .ref tk, .ref bk, y3, y4, .ref r3, y6, y7, .ref r6, .int (-1), .int (-1)])), (r3, .inl (cR, 8, .inr (.inr (.inr (.inr (va_up (va_up (va_up (va_up (va_up (va_up (va_up (va_up (fun _ => none) 0 (some w0)) 1 (some w1)) 2 (some w2)) 3 (some w3)) 4 (some w4)) 5 (some w5)) 6 (some w6)) 7 (some w7))))))), (r6, .inr (3, [y8, .int 0])), (w0, .inr (5, [a0, b0, d0, .int 0])), (w1, .inr (5, [a1, b1, d1, .int 0])), (w2, .inr (5, [a2, b2, d2, .int 0])), (w3, .inr (5, [a3, b3, d3, .int 0])), (w4, .inr (5, [a4, b4, d4, .int 0])), (w5, .inr (5, [a5, b5, d5, .int 0])), (w6, .inr (5, [a6, b6, d6, .int 0])), (w7, .inr (5, [a7, b7, d7, .int 0])), (tk, .inr (8, [.ref tp, .ref t1, .ref t2, .ref t3, .int 0, .int 0, .int 0, .int 0, .int 0, .int 0])), (t1, .inl (cI, 301, .inl (fun _ => 0))), (t2, .inl (cI, 301, .inl (fun _ => 0))), (t3, .inl (cI, 301, .inl (fun _ => 0)))] sz)) 0 0 (va_A [(hh, .inr (10, [x0, .ref tp, .ref bk, .ref rd, x4, x5, x6, x7])), (tp, .inr (7, [.ref tb, .int 0])), (bk, .inr (0, [.ref br, .ref bm, .int 0, .int 0])), (br, .inl (cR, 488, .inr (.inr (.inr (.inr (fun _ => none)))))), (bm, .inl (cM, 61, .inr (.inr (.inr (.inr (fun _ => none)))))), (rd, .inr (4, [y0, .ref tk, .ref bk, y3, y4, .ref r3, y6, y7, .ref r6, .int (-1), .int (-1)])), (r3, .inl (cR, 8, .inr (.inr (.inr (.inr (va_up (va_up (va_up (va_up (va_up (va_up (va_up (va_up (fun _ => none) 0 (some w0)) 1 (some w1)) 2 (some w2)) 3 (some w3)) 4 (some w4)) 5 (some w5)) 6 (some w6)) 7 (some w7))))))), (r6, .inr (3, [y8, .int 0])), (w0, .inr (5, [a0, b0, d0, .int 0])), (w1, .inr (5, [a1, b1, d1, .int 0])), (w2, .inr (5, [a2, b2, d2, .int 0])), (w3, .inr (5, [a3, b3, d3, .int 0])), (w4, .inr (5, [a4, b4, d4, .int 0])), (w5, .inr (5, [a5, b5, d5, .int 0])), (w6, .inr (5, [a6, b6, d6, .int 0])), (w7, .inr (5, [a7, b7, d7, .int 0])), (tk, .inr (8, [.ref tp, .ref t1, .ref t2, .ref t3, .int 0, .int 0, .int 0, .int 0, .int 0, .int 0])), (t1, .inl (cI, 301, .inl (fun _ => 0))), (t2, .inl (cI, 301, .inl (fun _ => 0))), (t3, .inl (cI, 301, .inl (fun _ => 0)))] sz) := by
  refine go (cc := cX10_text) (maxL := 2) (ret := (some .int)) (by decide) rfl (Nat.le_of_ble_eq_true rfl) ?_
  intro p e s m below meth c ls args Q hQ hsz hx hb hr hml hts hown hlocks hnm hP hK hD hl
  subst hsz
  have hD := hD.self (sz := s.heap.size)
  generalize hAe : va_A [(hh, .inr (10, [x0, .ref tp, .ref bk, .ref rd, x4, x5, x6, x7])), (tp, .inr (7, [.ref tb, .int 0])), (bk, .inr (0, [.ref br, .ref bm, .int 0, .int 0])), (br, .inl (cR, 488, .inr (.inr (.inr (.inr (fun _ => none)))))), (bm, .inl (cM, 61, .inr (.inr (.inr (.inr (fun _ => none)))))), (rd, .inr (4, [y0, .ref tk, .ref bk, y3, y4, .ref r3, y6, y7, .ref r6, .int (-1), .int (-1)])), (r3, .inl (cR, 8, .inr (.inr (.inr (.inr (va_up (va_up (va_up (va_up (va_up (va_up (va_up (va_up (fun _ => none) 0 (some w0)) 1 (some w1)) 2 (some w2)) 3 (some w3)) 4 (some w4)) 5 (some w5)) 6 (some w6)) 7 (some w7))))))), (r6, .inr (3, [y8, .int 0])), (w0, .inr (5, [a0, b0, d0, .int 0])), (w1, .inr (5, [a1, b1, d1, .int 0])), (w2, .inr (5, [a2, b2, d2, .int 0])), (w3, .inr (5, [a3, b3, d3, .int 0])), (w4, .inr (5, [a4, b4, d4, .int 0])), (w5, .inr (5, [a5, b5, d5, .int 0])), (w6, .inr (5, [a6, b6, d6, .int 0])), (w7, .inr (5, [a7, b7, d7, .int 0])), (tk, .inr (8, [.ref tp, .ref t1, .ref t2, .ref t3, .int 0, .int 0, .int 0, .int 0, .int 0, .int 0])), (t1, .inl (cI, 301, .inl (fun _ => 0))), (t2, .inl (cI, 301, .inl (fun _ => 0))), (t3, .inl (cI, 301, .inl (fun _ => 0)))] s.heap.size = A at hD hQ
  have hA : ∀ q, s.heap.size ≤ q → A q := fun q h => by rw [← hAe]; exact Or.inr h
  have hS : va_S A s.heap s.heap [] := va_S.rf
  have hl : lv_has ls 2 [(0, .ref hh)] := hl
  refine lv_aload_n hx hb dX10_text_0 rfl (lv_at hl 0 rfl) ?_
  refine va_get (D := D) (ci := 10) (v := .ref bk) (C := RX10) (T := TX10) (N := 8) hx hb hts (by decide +kernel) hown hK.1 hP 0 rfl rfl 2 (by decide) (hts (.fieldLink RX10 32 "JugglingHall" "book" "LJugglingHall$Book;") (by decide +kernel)) (fun _ h9 => h9) rfl dX10_text_1 ?_
  have hPc := hP.sub (ws' := [(bk, .inr (0, [.ref br, .ref bm, .int 0, .int 0]))]) [2] rfl
  have hDc := hD.sub (ws' := [(bk, .inr (0, [.ref br, .ref bm, .int 0, .int 0]))]) [2] (by decide) rfl
  refine ro (va_runV (As := []) (rest := []) ⟨hx, hb, hml, hown, hts⟩ (c_isFull l D cI cR cM _ bk br bm) (cwV 0 hts gX10_text_X0_isFull rfl rfl rfl (by decide +kernel) ⟨Nat.le_of_ble_eq_true rfl, Nat.le_of_ble_eq_true rfl⟩) (pre_V hK hPc hDc 0 0 rfl rfl) rfl rfl hl.1 rfl (lv_room (Nat.le_of_ble_eq_true rfl)) dX10_text_4 ⟨Nat.le_of_ble_eq_true rfl, Nat.le_of_ble_eq_true rfl⟩) hS hA hP (fun H locs hP hS => ?_)
  refine lv_if_eq (tgt := 12) hx hb dX10_text_7 (by decide) (fun c7 => ?_) (fun c7 => absurd (by decide) c7)
  refine lv_aload_n hx hb dX10_text_12 rfl (lv_at hl 0 rfl) ?_
  refine va_get (D := D) (ci := 10) (v := .ref rd) (C := RX10) (T := TX10) (N := 8) hx hb hts (by decide +kernel) hown hK.1 hP 0 rfl rfl 3 (by decide) (hts (.fieldLink RX10 46 "JugglingHall" "reader" "LJugglingHall$Reader;") (by decide +kernel)) (fun _ h9 => h9) rfl dX10_text_13 ?_
  have hPc := hP.sub (ws' := [(rd, .inr (4, [y0, .ref tk, .ref bk, y3, y4, .ref r3, y6, y7, .ref r6, .int (-1), .int (-1)])), (r3, .inl (cR, 8, .inr (.inr (.inr (.inr (va_up (va_up (va_up (va_up (va_up (va_up (va_up (va_up (fun _ => none) 0 (some w0)) 1 (some w1)) 2 (some w2)) 3 (some w3)) 4 (some w4)) 5 (some w5)) 6 (some w6)) 7 (some w7))))))), (r6, .inr (3, [y8, .int 0])), (w0, .inr (5, [a0, b0, d0, .int 0])), (w1, .inr (5, [a1, b1, d1, .int 0])), (w2, .inr (5, [a2, b2, d2, .int 0])), (w3, .inr (5, [a3, b3, d3, .int 0])), (w4, .inr (5, [a4, b4, d4, .int 0])), (w5, .inr (5, [a5, b5, d5, .int 0])), (w6, .inr (5, [a6, b6, d6, .int 0])), (w7, .inr (5, [a7, b7, d7, .int 0])), (tk, .inr (8, [.ref tp, .ref t1, .ref t2, .ref t3, .int 0, .int 0, .int 0, .int 0, .int 0, .int 0])), (t1, .inl (cI, 301, .inl (fun _ => 0))), (t2, .inl (cI, 301, .inl (fun _ => 0))), (t3, .inl (cI, 301, .inl (fun _ => 0))), (tp, .inr (7, [.ref tb, .int 0]))]) [5, 6, 7, 8, 9, 10, 11, 12, 13, 14, 15, 16, 17, 18, 19, 1] rfl
  have hDc := hD.sub (ws' := [(rd, .inr (4, [y0, .ref tk, .ref bk, y3, y4, .ref r3, y6, y7, .ref r6, .int (-1), .int (-1)])), (r3, .inl (cR, 8, .inr (.inr (.inr (.inr (va_up (va_up (va_up (va_up (va_up (va_up (va_up (va_up (fun _ => none) 0 (some w0)) 1 (some w1)) 2 (some w2)) 3 (some w3)) 4 (some w4)) 5 (some w5)) 6 (some w6)) 7 (some w7))))))), (r6, .inr (3, [y8, .int 0])), (w0, .inr (5, [a0, b0, d0, .int 0])), (w1, .inr (5, [a1, b1, d1, .int 0])), (w2, .inr (5, [a2, b2, d2, .int 0])), (w3, .inr (5, [a3, b3, d3, .int 0])), (w4, .inr (5, [a4, b4, d4, .int 0])), (w5, .inr (5, [a5, b5, d5, .int 0])), (w6, .inr (5, [a6, b6, d6, .int 0])), (w7, .inr (5, [a7, b7, d7, .int 0])), (tk, .inr (8, [.ref tp, .ref t1, .ref t2, .ref t3, .int 0, .int 0, .int 0, .int 0, .int 0, .int 0])), (t1, .inl (cI, 301, .inl (fun _ => 0))), (t2, .inl (cI, 301, .inl (fun _ => 0))), (t3, .inl (cI, 301, .inl (fun _ => 0))), (tp, .inr (7, [.ref tb, .int 0]))]) [5, 6, 7, 8, 9, 10, 11, 12, 13, 14, 15, 16, 17, 18, 19, 1] (by decide) rfl
  refine call_g (wr := [(hh, .inr (10, [x0, .ref tp, .ref bk, .ref rd, x4, x5, x6, x7])), (bk, .inr (0, [.ref br, .ref bm, .int 0, .int 0])), (br, .inl (cR, 488, .inr (.inr (.inr (.inr (fun _ => none)))))), (bm, .inl (cM, 61, .inr (.inr (.inr (.inr (fun _ => none))))))]) (va_runV (As := []) (rest := []) ⟨hx, hb, hml, hown, hts⟩ (c_readTape l D cI cR cM _ tk tp t1 t2 t3 tb rd bk r3 r6 w0 w1 w2 w3 w4 w5 w6 w7 y0 y3 y4 y6 y7 y8 a0 b0 d0 a1 b1 d1 a2 b2 d2 a3 b3 d3 a4 b4 d4 a5 b5 d5 a6 b6 d6 a7 b7 d7) (cwV 0 hts gX10_text_X4_readTape rfl rfl rfl (by decide +kernel) ⟨Nat.le_of_ble_eq_true rfl, Nat.le_of_ble_eq_true rfl⟩) (pre_V hK hPc hDc 0 4 rfl rfl) rfl rfl hl.1 rfl (lv_room (Nat.le_of_ble_eq_true rfl)) dX10_text_16 ⟨Nat.le_of_ble_eq_true rfl, Nat.le_of_ble_eq_true rfl⟩) hP hD hS hA [5, 6, 7, 8, 9, 10, 11, 12, 13, 14, 15, 16, 17, 18, 19, 1] [0, 2, 3, 4] rfl rfl (by decide) (by decide) (fun _u H locs hw hP hD hS => ?_)
  have hP : va_P D vwCl [(hh, .inr (10, [x0, .ref tp, .ref bk, .ref rd, x4, x5, x6, x7])), (bk, .inr (0, [.ref br, .ref bm, .int 0, .int 0])), (br, .inl (cR, 488, .inr (.inr (.inr (.inr (fun _ => none)))))), (bm, .inl (cM, 61, .inr (.inr (.inr (.inr (fun _ => none)))))), (rd, .inr (4, [y0, .ref tk, .ref bk, y3, y4, .ref r3, y6, y7, .ref r6, .int 0, .int (-1)])), (r3, .inl (cR, 8, .inr (.inr (.inr (.inr (va_up (va_up (va_up (va_up (va_up (va_up (va_up (va_up (fun _ => none) 0 (some w0)) 1 (some w1)) 2 (some w2)) 3 (some w3)) 4 (some w4)) 5 (some w5)) 6 (some w6)) 7 (some w7))))))), (r6, .inr (3, [y8, .int 0])), (w0, .inr (5, [a0, b0, d0, .int 0])), (w1, .inr (5, [a1, b1, d1, .int 0])), (w2, .inr (5, [a2, b2, d2, .int 0])), (w3, .inr (5, [a3, b3, d3, .int 0])), (w4, .inr (5, [a4, b4, d4, .int 0])), (w5, .inr (5, [a5, b5, d5, .int 0])), (w6, .inr (5, [a6, b6, d6, .int 0])), (w7, .inr (5, [a7, b7, d7, .int 0])), (tp, .inr (7, [.ref tb, .int 0]))] H := hP
  have hD : va_D A [(hh, .inr (10, [x0, .ref tp, .ref bk, .ref rd, x4, x5, x6, x7])), (bk, .inr (0, [.ref br, .ref bm, .int 0, .int 0])), (br, .inl (cR, 488, .inr (.inr (.inr (.inr (fun _ => none)))))), (bm, .inl (cM, 61, .inr (.inr (.inr (.inr (fun _ => none)))))), (rd, .inr (4, [y0, .ref tk, .ref bk, y3, y4, .ref r3, y6, y7, .ref r6, .int 0, .int (-1)])), (r3, .inl (cR, 8, .inr (.inr (.inr (.inr (va_up (va_up (va_up (va_up (va_up (va_up (va_up (va_up (fun _ => none) 0 (some w0)) 1 (some w1)) 2 (some w2)) 3 (some w3)) 4 (some w4)) 5 (some w5)) 6 (some w6)) 7 (some w7))))))), (r6, .inr (3, [y8, .int 0])), (w0, .inr (5, [a0, b0, d0, .int 0])), (w1, .inr (5, [a1, b1, d1, .int 0])), (w2, .inr (5, [a2, b2, d2, .int 0])), (w3, .inr (5, [a3, b3, d3, .int 0])), (w4, .inr (5, [a4, b4, d4, .int 0])), (w5, .inr (5, [a5, b5, d5, .int 0])), (w6, .inr (5, [a6, b6, d6, .int 0])), (w7, .inr (5, [a7, b7, d7, .int 0])), (tp, .inr (7, [.ref tb, .int 0]))] := hD
  refine lv_istore_n (lv' := [(1, .int 1), (0, .ref hh)]) hx hb dX10_text_19 rfl hl (by decide) rfl (fun ls hl => ?_)
  refine lv_aload_n hx hb dX10_text_20 rfl (lv_at hl 1 rfl) ?_
  refine va_get (D := D) (ci := 10) (v := .ref tp) (C := RX10) (T := TX10) (N := 8) hx hb hts (by decide +kernel) hown hK.1 hP 0 rfl rfl 1 (by decide) (hts (.fieldLink RX10 25 "JugglingHall" "tape" "LJugglingHall$Tape;") (by decide +kernel)) (fun _ h9 => h9) rfl dX10_text_21 ?_
  refine lv_iconst (v := 0) hx hb dX10_text_24 (by decide) ?_
  refine va_putN (D := D) (ci := 7) (v := .int 0) (ty := .int) (C := RX7) (T := TX7) (N := 2) (host := "JugglingHall") hx hb hts (by decide +kernel) tyX7 tyX7_ok nmX7 hown hK.1 hP hD hS 15 rfl rfl 1 (by decide) (hK.nw (.fieldLinkNest RX10 86 "JugglingHall$Tape" "length" "I" "JugglingHall") (by decide +kernel) rfl) (fun _ h9 => h9) rfl (by decide +kernel) rfl rfl (Nat.le_of_ble_eq_true rfl) dX10_text_25 (fun H locs hP hD hS => ?_)
  have hP : va_P D vwCl [(hh, .inr (10, [x0, .ref tp, .ref bk, .ref rd, x4, x5, x6, x7])), (bk, .inr (0, [.ref br, .ref bm, .int 0, .int 0])), (br, .inl (cR, 488, .inr (.inr (.inr (.inr (fun _ => none)))))), (bm, .inl (cM, 61, .inr (.inr (.inr (.inr (fun _ => none)))))), (rd, .inr (4, [y0, .ref tk, .ref bk, y3, y4, .ref r3, y6, y7, .ref r6, .int 0, .int (-1)])), (r3, .inl (cR, 8, .inr (.inr (.inr (.inr (va_up (va_up (va_up (va_up (va_up (va_up (va_up (va_up (fun _ => none) 0 (some w0)) 1 (some w1)) 2 (some w2)) 3 (some w3)) 4 (some w4)) 5 (some w5)) 6 (some w6)) 7 (some w7))))))), (r6, .inr (3, [y8, .int 0])), (w0, .inr (5, [a0, b0, d0, .int 0])), (w1, .inr (5, [a1, b1, d1, .int 0])), (w2, .inr (5, [a2, b2, d2, .int 0])), (w3, .inr (5, [a3, b3, d3, .int 0])), (w4, .inr (5, [a4, b4, d4, .int 0])), (w5, .inr (5, [a5, b5, d5, .int 0])), (w6, .inr (5, [a6, b6, d6, .int 0])), (w7, .inr (5, [a7, b7, d7, .int 0])), (tp, .inr (7, [.ref tb, .int 0]))] H := hP
  have hD : va_D A [(hh, .inr (10, [x0, .ref tp, .ref bk, .ref rd, x4, x5, x6, x7])), (bk, .inr (0, [.ref br, .ref bm, .int 0, .int 0])), (br, .inl (cR, 488, .inr (.inr (.inr (.inr (fun _ => none)))))), (bm, .inl (cM, 61, .inr (.inr (.inr (.inr (fun _ => none)))))), (rd, .inr (4, [y0, .ref tk, .ref bk, y3, y4, .ref r3, y6, y7, .ref r6, .int 0, .int (-1)])), (r3, .inl (cR, 8, .inr (.inr (.inr (.inr (va_up (va_up (va_up (va_up (va_up (va_up (va_up (va_up (fun _ => none) 0 (some w0)) 1 (some w1)) 2 (some w2)) 3 (some w3)) 4 (some w4)) 5 (some w5)) 6 (some w6)) 7 (some w7))))))), (r6, .inr (3, [y8, .int 0])), (w0, .inr (5, [a0, b0, d0, .int 0])), (w1, .inr (5, [a1, b1, d1, .int 0])), (w2, .inr (5, [a2, b2, d2, .int 0])), (w3, .inr (5, [a3, b3, d3, .int 0])), (w4, .inr (5, [a4, b4, d4, .int 0])), (w5, .inr (5, [a5, b5, d5, .int 0])), (w6, .inr (5, [a6, b6, d6, .int 0])), (w7, .inr (5, [a7, b7, d7, .int 0])), (tp, .inr (7, [.ref tb, .int 0]))] := hD
  refine lv_iload_n hx hb dX10_text_28 rfl (lv_at hl 0 rfl) ?_
  refine lv_if_ne (tgt := 34) hx hb dX10_text_29 (by decide) (fun c29 => ?_) (fun c29 => absurd c29 (by decide))
  refine lv_aload_n hx hb dX10_text_34 rfl (lv_at hl 1 rfl) ?_
  refine va_get (D := D) (ci := 10) (v := .ref rd) (C := RX10) (T := TX10) (N := 8) hx hb hts (by decide +kernel) hown hK.1 hP 0 rfl rfl 3 (by decide) (hts (.fieldLink RX10 46 "JugglingHall" "reader" "LJugglingHall$Reader;") (by decide +kernel)) (fun _ h9 => h9) rfl dX10_text_35 ?_
  have hPc := hP.sub (ws' := [(rd, .inr (4, [y0, .ref tk, .ref bk, y3, y4, .ref r3, y6, y7, .ref r6, .int 0, .int (-1)])), (r3, .inl (cR, 8, .inr (.inr (.inr (.inr (va_up (va_up (va_up (va_up (va_up (va_up (va_up (va_up (fun _ => none) 0 (some w0)) 1 (some w1)) 2 (some w2)) 3 (some w3)) 4 (some w4)) 5 (some w5)) 6 (some w6)) 7 (some w7))))))), (r6, .inr (3, [y8, .int 0])), (w0, .inr (5, [a0, b0, d0, .int 0])), (w1, .inr (5, [a1, b1, d1, .int 0])), (w2, .inr (5, [a2, b2, d2, .int 0])), (w3, .inr (5, [a3, b3, d3, .int 0])), (w4, .inr (5, [a4, b4, d4, .int 0])), (w5, .inr (5, [a5, b5, d5, .int 0])), (w6, .inr (5, [a6, b6, d6, .int 0])), (w7, .inr (5, [a7, b7, d7, .int 0])), (bk, .inr (0, [.ref br, .ref bm, .int 0, .int 0])), (br, .inl (cR, 488, .inr (.inr (.inr (.inr (fun _ => none)))))), (bm, .inl (cM, 61, .inr (.inr (.inr (.inr (fun _ => none))))))]) [4, 5, 6, 7, 8, 9, 10, 11, 12, 13, 14, 1, 2, 3] rfl
  have hDc := hD.sub (ws' := [(rd, .inr (4, [y0, .ref tk, .ref bk, y3, y4, .ref r3, y6, y7, .ref r6, .int 0, .int (-1)])), (r3, .inl (cR, 8, .inr (.inr (.inr (.inr (va_up (va_up (va_up (va_up (va_up (va_up (va_up (va_up (fun _ => none) 0 (some w0)) 1 (some w1)) 2 (some w2)) 3 (some w3)) 4 (some w4)) 5 (some w5)) 6 (some w6)) 7 (some w7))))))), (r6, .inr (3, [y8, .int 0])), (w0, .inr (5, [a0, b0, d0, .int 0])), (w1, .inr (5, [a1, b1, d1, .int 0])), (w2, .inr (5, [a2, b2, d2, .int 0])), (w3, .inr (5, [a3, b3, d3, .int 0])), (w4, .inr (5, [a4, b4, d4, .int 0])), (w5, .inr (5, [a5, b5, d5, .int 0])), (w6, .inr (5, [a6, b6, d6, .int 0])), (w7, .inr (5, [a7, b7, d7, .int 0])), (bk, .inr (0, [.ref br, .ref bm, .int 0, .int 0])), (br, .inl (cR, 488, .inr (.inr (.inr (.inr (fun _ => none)))))), (bm, .inl (cM, 61, .inr (.inr (.inr (.inr (fun _ => none))))))]) [4, 5, 6, 7, 8, 9, 10, 11, 12, 13, 14, 1, 2, 3] (by decide) rfl
  refine call_g (wr := [(hh, .inr (10, [x0, .ref tp, .ref bk, .ref rd, x4, x5, x6, x7])), (tp, .inr (7, [.ref tb, .int 0]))]) (va_runV (As := []) (rest := []) ⟨hx, hb, hml, hown, hts⟩ (c_tellAll l D cI cR cM _ tk br bm rd bk r3 r6 w0 w1 w2 w3 w4 w5 w6 w7 y0 y3 y4 y6 y7 y8 a0 b0 d0 a1 b1 d1 a2 b2 d2 a3 b3 d3 a4 b4 d4 a5 b5 d5 a6 b6 d6 a7 b7 d7) (cwV 0 hts gX10_text_X4_tellAll rfl rfl rfl (by decide +kernel) ⟨Nat.le_of_ble_eq_true rfl, Nat.le_of_ble_eq_true rfl⟩) (pre_V hK hPc hDc 0 4 rfl rfl) rfl rfl hl.1 rfl (lv_room (Nat.le_of_ble_eq_true rfl)) dX10_text_38 ⟨Nat.le_of_ble_eq_true rfl, Nat.le_of_ble_eq_true rfl⟩) hP hD hS hA [4, 5, 6, 7, 8, 9, 10, 11, 12, 13, 14, 1, 2, 3] [0, 15] rfl rfl (by decide) (by decide) (fun _u H locs hw hP hD hS => ?_)
  have hP : va_P D vwCl [(hh, .inr (10, [x0, .ref tp, .ref bk, .ref rd, x4, x5, x6, x7])), (tp, .inr (7, [.ref tb, .int 0])), (bk, .inr (0, [.ref br, .ref bm, .int 1, .int 1]))] H := hP
  have hD : va_D A [(hh, .inr (10, [x0, .ref tp, .ref bk, .ref rd, x4, x5, x6, x7])), (tp, .inr (7, [.ref tb, .int 0])), (bk, .inr (0, [.ref br, .ref bm, .int 1, .int 1]))] := hD
  refine lv_aload_n hx hb dX10_text_41 rfl (lv_at hl 1 rfl) ?_
  refine va_get (D := D) (ci := 10) (v := .ref bk) (C := RX10) (T := TX10) (N := 8) hx hb hts (by decide +kernel) hown hK.1 hP 0 rfl rfl 2 (by decide) (hts (.fieldLink RX10 32 "JugglingHall" "book" "LJugglingHall$Book;") (by decide +kernel)) (fun _ h9 => h9) rfl dX10_text_42 ?_
  refine va_getN (D := D) (ci := 0) (v := .int 1) (C := RX0) (T := TX0) (N := 4) (host := "JugglingHall") hx hb hts (by decide +kernel) hown hK.1 hP 2 rfl rfl 2 (by decide) (hK.nw (.fieldLinkNest RX10 99 "JugglingHall$Book" "time" "I" "JugglingHall") (by decide +kernel) rfl) (fun _ h9 => h9) rfl dX10_text_45 ?_
  exact g_iret (()) hx hb hr hlocks hS rfl (trivial) va_P_nil va_D_nil hQ (Nat.le_of_ble_eq_true rfl) (Nat.le_of_ble_eq_true rfl) dX10_text_48
