theorem dX11_rowClause_0 : decode cX11_rowClause 0 = .ok (.aload_n 0, 1) := by decide +kernel
theorem dX11_rowClause_1 : decode cX11_rowClause 1 = .ok (.invokevirtual 163, 3) := by decide +kernel
theorem dX11_rowClause_4 : decode cX11_rowClause 4 = .ok (.aload_n 0, 1) := by decide +kernel
theorem dX11_rowClause_5 : decode cX11_rowClause 5 = .ok (.getfield 131, 3) := by decide +kernel
theorem dX11_rowClause_8 : decode cX11_rowClause 8 = .ok (.iconst 2, 1) := by decide +kernel
theorem dX11_rowClause_9 : decode cX11_rowClause 9 = .ok (.if_icmp .eq 13, 3) := by decide +kernel
theorem dX11_rowClause_12 : decode cX11_rowClause 12 = .ok (.aload_n 0, 1) := by decide +kernel
theorem dX11_rowClause_13 : decode cX11_rowClause 13 = .ok (.iconst 1, 1) := by decide +kernel
theorem dX11_rowClause_14 : decode cX11_rowClause 14 = .ok (.aload_n 0, 1) := by decide +kernel
theorem dX11_rowClause_15 : decode cX11_rowClause 15 = .ok (.getfield 120, 3) := by decide +kernel
theorem dX11_rowClause_18 : decode cX11_rowClause 18 = .ok (.invokevirtual 157, 3) := by decide +kernel
theorem dX11_rowClause_21 : decode cX11_rowClause 21 = .ok (.ireturn, 1) := by decide +kernel
theorem dX11_rowClause_22 : decode cX11_rowClause 22 = .ok (.aload_n 0, 1) := by decide +kernel
theorem dX11_rowClause_23 : decode cX11_rowClause 23 = .ok (.getfield 138, 3) := by decide +kernel
theorem dX11_rowClause_26 : decode cX11_rowClause 26 = .ok (.istore_n 1, 1) := by decide +kernel
theorem dX11_rowClause_27 : decode cX11_rowClause 27 = .ok (.aload_n 0, 1) := by decide +kernel
theorem dX11_rowClause_28 : decode cX11_rowClause 28 = .ok (.invokevirtual 163, 3) := by decide +kernel
theorem dX11_rowClause_31 : decode cX11_rowClause 31 = .ok (.aload_n 0, 1) := by decide +kernel
theorem dX11_rowClause_32 : decode cX11_rowClause 32 = .ok (.getfield 131, 3) := by decide +kernel
theorem dX11_rowClause_35 : decode cX11_rowClause 35 = .ok (.bipush 61, 2) := by decide +kernel
theorem dX11_rowClause_37 : decode cX11_rowClause 37 = .ok (.if_icmp .eq 13, 3) := by decide +kernel
theorem dX11_rowClause_40 : decode cX11_rowClause 40 = .ok (.aload_n 0, 1) := by decide +kernel
theorem dX11_rowClause_41 : decode cX11_rowClause 41 = .ok (.iconst 1, 1) := by decide +kernel
theorem dX11_rowClause_42 : decode cX11_rowClause 42 = .ok (.aload_n 0, 1) := by decide +kernel
theorem dX11_rowClause_43 : decode cX11_rowClause 43 = .ok (.getfield 120, 3) := by decide +kernel
theorem dX11_rowClause_46 : decode cX11_rowClause 46 = .ok (.invokevirtual 157, 3) := by decide +kernel
theorem dX11_rowClause_49 : decode cX11_rowClause 49 = .ok (.ireturn, 1) := by decide +kernel
theorem dX11_rowClause_50 : decode cX11_rowClause 50 = .ok (.aload_n 0, 1) := by decide +kernel
theorem dX11_rowClause_51 : decode cX11_rowClause 51 = .ok (.invokevirtual 163, 3) := by decide +kernel
theorem dX11_rowClause_54 : decode cX11_rowClause 54 = .ok (.aload_n 0, 1) := by decide +kernel
theorem dX11_rowClause_55 : decode cX11_rowClause 55 = .ok (.invokevirtual 221, 3) := by decide +kernel
theorem dX11_rowClause_58 : decode cX11_rowClause 58 = .ok (.istore_n 2, 1) := by decide +kernel
theorem dX11_rowClause_59 : decode cX11_rowClause 59 = .ok (.iload_n 2, 1) := by decide +kernel
theorem dX11_rowClause_60 : decode cX11_rowClause 60 = .ok (.ifCond .eq 5, 3) := by decide +kernel
theorem dX11_rowClause_63 : decode cX11_rowClause 63 = .ok (.iload_n 2, 1) := by decide +kernel
theorem dX11_rowClause_64 : decode cX11_rowClause 64 = .ok (.ireturn, 1) := by decide +kernel
theorem dX11_rowClause_65 : decode cX11_rowClause 65 = .ok (.aload_n 0, 1) := by decide +kernel
theorem dX11_rowClause_66 : decode cX11_rowClause 66 = .ok (.getfield 131, 3) := by decide +kernel
theorem dX11_rowClause_69 : decode cX11_rowClause 69 = .ok (.bipush 59, 2) := by decide +kernel
theorem dX11_rowClause_71 : decode cX11_rowClause 71 = .ok (.if_icmp .eq 13, 3) := by decide +kernel
theorem dX11_rowClause_74 : decode cX11_rowClause 74 = .ok (.aload_n 0, 1) := by decide +kernel
theorem dX11_rowClause_75 : decode cX11_rowClause 75 = .ok (.iconst 1, 1) := by decide +kernel
theorem dX11_rowClause_76 : decode cX11_rowClause 76 = .ok (.aload_n 0, 1) := by decide +kernel
theorem dX11_rowClause_77 : decode cX11_rowClause 77 = .ok (.getfield 120, 3) := by decide +kernel
theorem dX11_rowClause_80 : decode cX11_rowClause 80 = .ok (.invokevirtual 157, 3) := by decide +kernel
theorem dX11_rowClause_83 : decode cX11_rowClause 83 = .ok (.ireturn, 1) := by decide +kernel
theorem dX11_rowClause_84 : decode cX11_rowClause 84 = .ok (.aload_n 0, 1) := by decide +kernel
theorem dX11_rowClause_85 : decode cX11_rowClause 85 = .ok (.getfield 42, 3) := by decide +kernel
theorem dX11_rowClause_88 : decode cX11_rowClause 88 = .ok (.iload_n 1, 1) := by decide +kernel
theorem dX11_rowClause_89 : decode cX11_rowClause 89 = .ok (.aload_n 0, 1) := by decide +kernel
theorem dX11_rowClause_90 : decode cX11_rowClause 90 = .ok (.getfield 151, 3) := by decide +kernel
theorem dX11_rowClause_93 : decode cX11_rowClause 93 = .ok (.iastore, 1) := by decide +kernel
theorem dX11_rowClause_94 : decode cX11_rowClause 94 = .ok (.iconst 0, 1) := by decide +kernel
theorem dX11_rowClause_95 : decode cX11_rowClause 95 = .ok (.istore_n 3, 1) := by decide +kernel
theorem dX11_rowClause_96 : decode cX11_rowClause 96 = .ok (.iload_n 3, 1) := by decide +kernel
theorem dX11_rowClause_97 : decode cX11_rowClause 97 = .ok (.bipush 6, 2) := by decide +kernel
theorem dX11_rowClause_99 : decode cX11_rowClause 99 = .ok (.aload_n 0, 1) := by decide +kernel
theorem dX11_rowClause_100 : decode cX11_rowClause 100 = .ok (.getfield 151, 3) := by decide +kernel
theorem dX11_rowClause_103 : decode cX11_rowClause 103 = .ok (.imul, 1) := by decide +kernel
theorem dX11_rowClause_104 : decode cX11_rowClause 104 = .ok (.if_icmp .ge 27, 3) := by decide +kernel
theorem dX11_rowClause_107 : decode cX11_rowClause 107 = .ok (.aload_n 0, 1) := by decide +kernel
theorem dX11_rowClause_108 : decode cX11_rowClause 108 = .ok (.getfield 45, 3) := by decide +kernel
theorem dX11_rowClause_111 : decode cX11_rowClause 111 = .ok (.sipush 144, 3) := by decide +kernel
theorem dX11_rowClause_114 : decode cX11_rowClause 114 = .ok (.iload_n 1, 1) := by decide +kernel
theorem dX11_rowClause_115 : decode cX11_rowClause 115 = .ok (.imul, 1) := by decide +kernel
theorem dX11_rowClause_116 : decode cX11_rowClause 116 = .ok (.iload_n 3, 1) := by decide +kernel
theorem dX11_rowClause_117 : decode cX11_rowClause 117 = .ok (.iadd, 1) := by decide +kernel
theorem dX11_rowClause_118 : decode cX11_rowClause 118 = .ok (.aload_n 0, 1) := by decide +kernel
theorem dX11_rowClause_119 : decode cX11_rowClause 119 = .ok (.getfield 27, 3) := by decide +kernel
theorem dX11_rowClause_122 : decode cX11_rowClause 122 = .ok (.iload_n 3, 1) := by decide +kernel
theorem dX11_rowClause_123 : decode cX11_rowClause 123 = .ok (.iaload, 1) := by decide +kernel
theorem dX11_rowClause_124 : decode cX11_rowClause 124 = .ok (.iastore, 1) := by decide +kernel
theorem dX11_rowClause_125 : decode cX11_rowClause 125 = .ok (.iinc 3 1, 3) := by decide +kernel
theorem dX11_rowClause_128 : decode cX11_rowClause 128 = .ok (.goto (-32), 3) := by decide +kernel
theorem dX11_rowClause_131 : decode cX11_rowClause 131 = .ok (.iconst 0, 1) := by decide +kernel
theorem dX11_rowClause_132 : decode cX11_rowClause 132 = .ok (.ireturn, 1) := by decide +kernel
theorem dX11_seenClause_0 : decode cX11_seenClause 0 = .ok (.aload_n 0, 1) := by decide +kernel
theorem dX11_seenClause_1 : decode cX11_seenClause 1 = .ok (.invokevirtual 163, 3) := by decide +kernel
theorem dX11_seenClause_4 : decode cX11_seenClause 4 = .ok (.iconst 0, 1) := by decide +kernel
theorem dX11_seenClause_5 : decode cX11_seenClause 5 = .ok (.istore_n 1, 1) := by decide +kernel
theorem dX11_seenClause_6 : decode cX11_seenClause 6 = .ok (.aload_n 0, 1) := by decide +kernel
theorem dX11_seenClause_7 : decode cX11_seenClause 7 = .ok (.getfield 131, 3) := by decide +kernel
theorem dX11_seenClause_10 : decode cX11_seenClause 10 = .ok (.iconst 1, 1) := by decide +kernel
theorem dX11_seenClause_11 : decode cX11_seenClause 11 = .ok (.if_icmp .eq 12, 3) := by decide +kernel
theorem dX11_seenClause_14 : decode cX11_seenClause 14 = .ok (.aload_n 0, 1) := by decide +kernel
theorem dX11_seenClause_15 : decode cX11_seenClause 15 = .ok (.getfield 131, 3) := by decide +kernel
theorem dX11_seenClause_18 : decode cX11_seenClause 18 = .ok (.bipush 63, 2) := by decide +kernel
theorem dX11_seenClause_20 : decode cX11_seenClause 20 = .ok (.if_icmp .ne 53, 3) := by decide +kernel
theorem dX11_seenClause_23 : decode cX11_seenClause 23 = .ok (.iload_n 1, 1) := by decide +kernel
theorem dX11_seenClause_24 : decode cX11_seenClause 24 = .ok (.bipush 7, 2) := by decide +kernel
theorem dX11_seenClause_26 : decode cX11_seenClause 26 = .ok (.if_icmp .ne 13, 3) := by decide +kernel
theorem dX11_seenClause_29 : decode cX11_seenClause 29 = .ok (.aload_n 0, 1) := by decide +kernel
theorem dX11_seenClause_30 : decode cX11_seenClause 30 = .ok (.iconst 4, 1) := by decide +kernel
theorem dX11_seenClause_31 : decode cX11_seenClause 31 = .ok (.aload_n 0, 1) := by decide +kernel
theorem dX11_seenClause_32 : decode cX11_seenClause 32 = .ok (.getfield 120, 3) := by decide +kernel
theorem dX11_seenClause_35 : decode cX11_seenClause 35 = .ok (.invokevirtual 157, 3) := by decide +kernel
theorem dX11_seenClause_38 : decode cX11_seenClause 38 = .ok (.ireturn, 1) := by decide +kernel
theorem dX11_seenClause_39 : decode cX11_seenClause 39 = .ok (.iinc 1 1, 3) := by decide +kernel
theorem dX11_seenClause_42 : decode cX11_seenClause 42 = .ok (.aload_n 0, 1) := by decide +kernel
theorem dX11_seenClause_43 : decode cX11_seenClause 43 = .ok (.getfield 51, 3) := by decide +kernel
theorem dX11_seenClause_46 : decode cX11_seenClause 46 = .ok (.iload_n 1, 1) := by decide +kernel
theorem dX11_seenClause_47 : decode cX11_seenClause 47 = .ok (.aload_n 0, 1) := by decide +kernel
theorem dX11_seenClause_48 : decode cX11_seenClause 48 = .ok (.getfield 131, 3) := by decide +kernel
theorem dX11_seenClause_51 : decode cX11_seenClause 51 = .ok (.bipush 63, 2) := by decide +kernel
theorem dX11_seenClause_53 : decode cX11_seenClause 53 = .ok (.if_icmp .ne 8, 3) := by decide +kernel
theorem dX11_seenClause_56 : decode cX11_seenClause 56 = .ok (.bipush 10, 2) := by decide +kernel
theorem dX11_seenClause_58 : decode cX11_seenClause 58 = .ok (.goto 7, 3) := by decide +kernel
theorem dX11_seenClause_61 : decode cX11_seenClause 61 = .ok (.aload_n 0, 1) := by decide +kernel
theorem dX11_seenClause_62 : decode cX11_seenClause 62 = .ok (.getfield 138, 3) := by decide +kernel
theorem dX11_seenClause_65 : decode cX11_seenClause 65 = .ok (.iastore, 1) := by decide +kernel
theorem dX11_seenClause_66 : decode cX11_seenClause 66 = .ok (.aload_n 0, 1) := by decide +kernel
theorem dX11_seenClause_67 : decode cX11_seenClause 67 = .ok (.invokevirtual 163, 3) := by decide +kernel
theorem dX11_seenClause_70 : decode cX11_seenClause 70 = .ok (.goto (-64), 3) := by decide +kernel
theorem dX11_seenClause_73 : decode cX11_seenClause 73 = .ok (.iload_n 1, 1) := by decide +kernel
theorem dX11_seenClause_74 : decode cX11_seenClause 74 = .ok (.ifCond .eq 12, 3) := by decide +kernel
theorem dX11_seenClause_77 : decode cX11_seenClause 77 = .ok (.aload_n 0, 1) := by decide +kernel
theorem dX11_seenClause_78 : decode cX11_seenClause 78 = .ok (.getfield 131, 3) := by decide +kernel
theorem dX11_seenClause_81 : decode cX11_seenClause 81 = .ok (.bipush 59, 2) := by decide +kernel
theorem dX11_seenClause_83 : decode cX11_seenClause 83 = .ok (.if_icmp .eq 13, 3) := by decide +kernel
theorem dX11_seenClause_86 : decode cX11_seenClause 86 = .ok (.aload_n 0, 1) := by decide +kernel
theorem dX11_seenClause_87 : decode cX11_seenClause 87 = .ok (.iconst 1, 1) := by decide +kernel
theorem dX11_seenClause_88 : decode cX11_seenClause 88 = .ok (.aload_n 0, 1) := by decide +kernel
theorem dX11_seenClause_89 : decode cX11_seenClause 89 = .ok (.getfield 120, 3) := by decide +kernel
theorem dX11_seenClause_92 : decode cX11_seenClause 92 = .ok (.invokevirtual 157, 3) := by decide +kernel
theorem dX11_seenClause_95 : decode cX11_seenClause 95 = .ok (.ireturn, 1) := by decide +kernel
theorem dX11_seenClause_96 : decode cX11_seenClause 96 = .ok (.aload_n 0, 1) := by decide +kernel
theorem dX11_seenClause_97 : decode cX11_seenClause 97 = .ok (.getfield 51, 3) := by decide +kernel
theorem dX11_seenClause_100 : decode cX11_seenClause 100 = .ok (.iconst 0, 1) := by decide +kernel
theorem dX11_seenClause_101 : decode cX11_seenClause 101 = .ok (.iload_n 1, 1) := by decide +kernel
theorem dX11_seenClause_102 : decode cX11_seenClause 102 = .ok (.iastore, 1) := by decide +kernel
theorem dX11_seenClause_103 : decode cX11_seenClause 103 = .ok (.iconst 0, 1) := by decide +kernel
theorem dX11_seenClause_104 : decode cX11_seenClause 104 = .ok (.istore_n 2, 1) := by decide +kernel
theorem dX11_seenClause_105 : decode cX11_seenClause 105 = .ok (.iload_n 2, 1) := by decide +kernel
theorem dX11_seenClause_106 : decode cX11_seenClause 106 = .ok (.iload_n 1, 1) := by decide +kernel
theorem dX11_seenClause_107 : decode cX11_seenClause 107 = .ok (.if_icmp .gt 21, 3) := by decide +kernel
theorem dX11_seenClause_110 : decode cX11_seenClause 110 = .ok (.aload_n 0, 1) := by decide +kernel
theorem dX11_seenClause_111 : decode cX11_seenClause 111 = .ok (.getfield 48, 3) := by decide +kernel
theorem dX11_seenClause_114 : decode cX11_seenClause 114 = .ok (.iload_n 2, 1) := by decide +kernel
theorem dX11_seenClause_115 : decode cX11_seenClause 115 = .ok (.aload_n 0, 1) := by decide +kernel
theorem dX11_seenClause_116 : decode cX11_seenClause 116 = .ok (.getfield 51, 3) := by decide +kernel
theorem dX11_seenClause_119 : decode cX11_seenClause 119 = .ok (.iload_n 2, 1) := by decide +kernel
theorem dX11_seenClause_120 : decode cX11_seenClause 120 = .ok (.iaload, 1) := by decide +kernel
theorem dX11_seenClause_121 : decode cX11_seenClause 121 = .ok (.iastore, 1) := by decide +kernel
theorem dX11_seenClause_122 : decode cX11_seenClause 122 = .ok (.iinc 2 1, 3) := by decide +kernel
theorem dX11_seenClause_125 : decode cX11_seenClause 125 = .ok (.goto (-20), 3) := by decide +kernel
theorem dX11_seenClause_128 : decode cX11_seenClause 128 = .ok (.iconst 0, 1) := by decide +kernel
theorem dX11_seenClause_129 : decode cX11_seenClause 129 = .ok (.ireturn, 1) := by decide +kernel
theorem dX11_readText_0 : decode cX11_readText 0 = .ok (.iconst 0, 1) := by decide +kernel
theorem dX11_readText_1 : decode cX11_readText 1 = .ok (.istore_n 1, 1) := by decide +kernel
theorem dX11_readText_2 : decode cX11_readText 2 = .ok (.iload_n 1, 1) := by decide +kernel
theorem dX11_readText_3 : decode cX11_readText 3 = .ok (.bipush 8, 2) := by decide +kernel
theorem dX11_readText_5 : decode cX11_readText 5 = .ok (.if_icmp .ge 16, 3) := by decide +kernel
theorem dX11_readText_8 : decode cX11_readText 8 = .ok (.aload_n 0, 1) := by decide +kernel
theorem dX11_readText_9 : decode cX11_readText 9 = .ok (.getfield 42, 3) := by decide +kernel
theorem dX11_readText_12 : decode cX11_readText 12 = .ok (.iload_n 1, 1) := by decide +kernel
theorem dX11_readText_13 : decode cX11_readText 13 = .ok (.iconst 0, 1) := by decide +kernel
theorem dX11_readText_14 : decode cX11_readText 14 = .ok (.iastore, 1) := by decide +kernel
theorem dX11_readText_15 : decode cX11_readText 15 = .ok (.iinc 1 1, 3) := by decide +kernel
theorem dX11_readText_18 : decode cX11_readText 18 = .ok (.goto (-16), 3) := by decide +kernel
theorem dX11_readText_21 : decode cX11_readText 21 = .ok (.aload_n 0, 1) := by decide +kernel
theorem dX11_readText_22 : decode cX11_readText 22 = .ok (.getfield 48, 3) := by decide +kernel
theorem dX11_readText_25 : decode cX11_readText 25 = .ok (.iconst 0, 1) := by decide +kernel
theorem dX11_readText_26 : decode cX11_readText 26 = .ok (.iconst 0, 1) := by decide +kernel
theorem dX11_readText_27 : decode cX11_readText 27 = .ok (.iastore, 1) := by decide +kernel
theorem dX11_readText_28 : decode cX11_readText 28 = .ok (.aload_n 0, 1) := by decide +kernel
theorem dX11_readText_29 : decode cX11_readText 29 = .ok (.iconst 0, 1) := by decide +kernel
theorem dX11_readText_30 : decode cX11_readText 30 = .ok (.putfield 117, 3) := by decide +kernel
theorem dX11_readText_33 : decode cX11_readText 33 = .ok (.aload_n 0, 1) := by decide +kernel
theorem dX11_readText_34 : decode cX11_readText 34 = .ok (.invokevirtual 163, 3) := by decide +kernel
theorem dX11_readText_37 : decode cX11_readText 37 = .ok (.aload_n 0, 1) := by decide +kernel
theorem dX11_readText_38 : decode cX11_readText 38 = .ok (.getfield 131, 3) := by decide +kernel
theorem dX11_readText_41 : decode cX11_readText 41 = .ok (.ifCond .eq 57, 3) := by decide +kernel
theorem dX11_readText_44 : decode cX11_readText 44 = .ok (.aload_n 0, 1) := by decide +kernel
theorem dX11_readText_45 : decode cX11_readText 45 = .ok (.getfield 131, 3) := by decide +kernel
theorem dX11_readText_48 : decode cX11_readText 48 = .ok (.iconst 5, 1) := by decide +kernel
theorem dX11_readText_49 : decode cX11_readText 49 = .ok (.if_icmp .ne 10, 3) := by decide +kernel
theorem dX11_readText_52 : decode cX11_readText 52 = .ok (.aload_n 0, 1) := by decide +kernel
theorem dX11_readText_53 : decode cX11_readText 53 = .ok (.invokevirtual 224, 3) := by decide +kernel
theorem dX11_readText_56 : decode cX11_readText 56 = .ok (.goto 28, 3) := by decide +kernel
theorem dX11_readText_59 : decode cX11_readText 59 = .ok (.aload_n 0, 1) := by decide +kernel
theorem dX11_readText_60 : decode cX11_readText 60 = .ok (.getfield 131, 3) := by decide +kernel
theorem dX11_readText_63 : decode cX11_readText 63 = .ok (.bipush 6, 2) := by decide +kernel
theorem dX11_readText_65 : decode cX11_readText 65 = .ok (.if_icmp .ne 10, 3) := by decide +kernel
theorem dX11_readText_68 : decode cX11_readText 68 = .ok (.aload_n 0, 1) := by decide +kernel
theorem dX11_readText_69 : decode cX11_readText 69 = .ok (.invokevirtual 227, 3) := by decide +kernel
theorem dX11_readText_72 : decode cX11_readText 72 = .ok (.goto 12, 3) := by decide +kernel
theorem dX11_readText_75 : decode cX11_readText 75 = .ok (.aload_n 0, 1) := by decide +kernel
theorem dX11_readText_76 : decode cX11_readText 76 = .ok (.iconst 1, 1) := by decide +kernel
theorem dX11_readText_77 : decode cX11_readText 77 = .ok (.aload_n 0, 1) := by decide +kernel
theorem dX11_readText_78 : decode cX11_readText 78 = .ok (.getfield 120, 3) := by decide +kernel
theorem dX11_readText_81 : decode cX11_readText 81 = .ok (.invokevirtual 157, 3) := by decide +kernel
theorem dX11_readText_84 : decode cX11_readText 84 = .ok (.istore_n 1, 1) := by decide +kernel
theorem dX11_readText_85 : decode cX11_readText 85 = .ok (.iload_n 1, 1) := by decide +kernel
theorem dX11_readText_86 : decode cX11_readText 86 = .ok (.ifCond .eq 5, 3) := by decide +kernel
theorem dX11_readText_89 : decode cX11_readText 89 = .ok (.iload_n 1, 1) := by decide +kernel
theorem dX11_readText_90 : decode cX11_readText 90 = .ok (.ireturn, 1) := by decide +kernel
theorem dX11_readText_91 : decode cX11_readText 91 = .ok (.aload_n 0, 1) := by decide +kernel
theorem dX11_readText_92 : decode cX11_readText 92 = .ok (.invokevirtual 163, 3) := by decide +kernel
theorem dX11_readText_95 : decode cX11_readText 95 = .ok (.goto (-58), 3) := by decide +kernel
theorem dX11_readText_98 : decode cX11_readText 98 = .ok (.iconst 0, 1) := by decide +kernel
theorem dX11_readText_99 : decode cX11_readText 99 = .ok (.ireturn, 1) := by decide +kernel
set_option maxRecDepth 100000 in
set_option maxHeartbeats 4000000 in
theorem ggX11_rowClause_X11_nextToken : GoodIn wsX11_rowClause wsX11_nextToken := goodIn_r _ [12, 13, 2, 1, 3, 14, 15, 16, 11, 17, 18, 19, 20, 21, 22, 23, 24, 25, 26, 27, 28, 29, 30, 31, 32, 33, 34, 35, 36, 118, 119, 120, 121, 122, 123, 124, 125, 126, 127, 128, 129, 130, 131, 132, 133, 134, 135, 136, 137, 138, 139, 140, 141, 142, 143, 144, 145, 146, 147, 148, 149, 150, 151, 152, 153, 154, 155, 156, 157, 158, 159, 160, 161, 162, 163, 164] (by with_unfolding_all rfl) (by decide +kernel)
set_option maxRecDepth 20000 in
theorem gX11_rowClause_X11_nextToken : GoodIn wsX11_rowClause (wsV RX11 163 RX11 yX11_nextToken wsX11_nextToken) := goodIn_app (goodIn_of _ (by decide +kernel)) ggX11_rowClause_X11_nextToken
set_option maxRecDepth 20000 in
theorem ggX11_rowClause_X11_fails : GoodIn wsX11_rowClause wsX11_fails := goodIn_r _ [40, 41, 118, 119, 120, 121, 122, 123, 124, 125, 126, 127, 128, 129, 130, 131, 132, 133, 134, 135, 136, 137, 138, 139, 140, 141, 142, 143, 144, 145, 146, 147, 148, 149, 150, 151, 152, 153, 154, 155, 156, 157, 158, 159, 160, 161, 162, 163, 164] (by decide +kernel) (by decide +kernel)
set_option maxRecDepth 20000 in
theorem gX11_rowClause_X11_fails : GoodIn wsX11_rowClause (wsV RX11 157 RX11 yX11_fails wsX11_fails) := goodIn_app (goodIn_of _ (by decide +kernel)) ggX11_rowClause_X11_fails
set_option maxRecDepth 100000 in
set_option maxHeartbeats 4000000 in
theorem ggX11_rowClause_X11_sequence : GoodIn wsX11_rowClause wsX11_sequence := goodIn_r _ [45, 5, 46, 47, 1, 2, 48, 49, 50, 11, 51, 3, 52, 7, 8, 9, 10, 12, 13, 14, 15, 16, 17, 18, 19, 20, 21, 22, 23, 24, 25, 26, 27, 28, 29, 30, 31, 32, 33, 34, 35, 36, 37, 38, 39, 40, 41, 53, 54, 55, 56, 57, 58, 59, 60, 61, 62, 63, 64, 65, 66, 67, 68, 69, 70, 71, 72, 73, 74, 75, 76, 77, 78, 79, 80, 81, 82, 83, 84, 85, 86, 87, 88, 89, 90, 91, 92, 93, 94, 95, 4, 96, 6, 97, 98, 99, 100, 101, 102, 103, 104, 105, 106, 107, 108, 109, 110, 111, 112, 113, 114, 115, 116, 117, 118, 119, 120, 121, 122, 123, 124, 125, 126, 127, 128, 129, 130, 131, 132, 133, 134, 135, 136, 137, 138, 139, 140, 141, 142, 143, 144, 145, 146, 147, 148, 149, 150, 151, 152, 153, 154, 155, 156, 157, 158, 159, 160, 161, 162, 163, 164] (by with_unfolding_all rfl) (by decide +kernel)
set_option maxRecDepth 20000 in
theorem gX11_rowClause_X11_sequence : GoodIn wsX11_rowClause (wsV RX11 221 RX11 yX11_sequence wsX11_sequence) := goodIn_app (goodIn_of _ (by decide +kernel)) ggX11_rowClause_X11_sequence
set_option maxRecDepth 100000 in
set_option maxHeartbeats 4000000 in
theorem ggX11_seenClause_X11_nextToken : GoodIn wsX11_seenClause wsX11_nextToken := goodIn_r _ [10, 11, 2, 1, 4, 12, 13, 14, 9, 15, 16, 17, 18, 19, 20, 21, 22, 23, 24, 25, 26, 27, 28, 29, 30, 31, 32, 33, 34, 40, 41, 42, 43, 44, 45, 46, 47, 48, 49, 50, 51, 52, 53, 54, 55, 56, 57, 58, 59, 60, 61, 62, 63, 64, 65, 66, 67, 68, 69, 70, 71, 72, 73, 74, 75, 76, 77, 78, 79, 80, 81, 82, 83, 84, 85, 86] (by with_unfolding_all rfl) (by decide +kernel)
set_option maxRecDepth 20000 in
theorem gX11_seenClause_X11_nextToken : GoodIn wsX11_seenClause (wsV RX11 163 RX11 yX11_nextToken wsX11_nextToken) := goodIn_app (goodIn_of _ (by decide +kernel)) ggX11_seenClause_X11_nextToken
set_option maxRecDepth 20000 in
theorem ggX11_seenClause_X11_fails : GoodIn wsX11_seenClause wsX11_fails := goodIn_r _ [38, 39, 40, 41, 42, 43, 44, 45, 46, 47, 48, 49, 50, 51, 52, 53, 54, 55, 56, 57, 58, 59, 60, 61, 62, 63, 64, 65, 66, 67, 68, 69, 70, 71, 72, 73, 74, 75, 76, 77, 78, 79, 80, 81, 82, 83, 84, 85, 86] (by decide +kernel) (by decide +kernel)
set_option maxRecDepth 20000 in
theorem gX11_seenClause_X11_fails : GoodIn wsX11_seenClause (wsV RX11 157 RX11 yX11_fails wsX11_fails) := goodIn_app (goodIn_of _ (by decide +kernel)) ggX11_seenClause_X11_fails
set_option maxRecDepth 100000 in
set_option maxHeartbeats 4000000 in
theorem ggX11_readText_X11_nextToken : GoodIn wsX11_readText wsX11_nextToken := goodIn_r _ [10, 3, 5, 4, 11, 12, 13, 14, 9, 15, 16, 17, 18, 19, 20, 21, 22, 23, 24, 25, 26, 27, 28, 29, 30, 31, 32, 33, 34, 128, 129, 130, 131, 132, 133, 134, 135, 136, 137, 138, 139, 140, 141, 142, 143, 144, 145, 146, 147, 148, 149, 150, 151, 152, 153, 154, 155, 156, 157, 158, 159, 160, 161, 162, 163, 164, 165, 166, 167, 168, 169, 170, 171, 172, 173, 174] (by with_unfolding_all rfl) (by decide +kernel)
set_option maxRecDepth 20000 in
theorem gX11_readText_X11_nextToken : GoodIn wsX11_readText (wsV RX11 163 RX11 yX11_nextToken wsX11_nextToken) := goodIn_app (goodIn_of _ (by decide +kernel)) ggX11_readText_X11_nextToken
set_option maxRecDepth 100000 in
set_option maxHeartbeats 4000000 in
theorem ggX11_readText_X11_rowClause : GoodIn wsX11_readText wsX11_rowClause := goodIn_r _ [38, 4, 5, 11, 1, 39, 40, 41, 6, 7, 8, 9, 10, 3, 12, 13, 14, 15, 16, 17, 18, 19, 20, 21, 22, 23, 24, 25, 26, 27, 28, 29, 30, 31, 32, 33, 34, 42, 43, 44, 45, 46, 47, 48, 49, 50, 51, 52, 53, 54, 55, 56, 57, 58, 59, 60, 61, 62, 63, 64, 65, 66, 67, 68, 69, 70, 71, 72, 73, 74, 75, 76, 77, 78, 79, 80, 81, 82, 83, 84, 85, 86, 87, 88, 89, 90, 91, 92, 93, 94, 95, 96, 97, 98, 99, 100, 101, 102, 103, 104, 105, 106, 107, 108, 109, 110, 111, 112, 113, 114, 115, 116, 117, 118, 119, 120, 121, 122, 128, 129, 130, 131, 132, 133, 134, 135, 136, 137, 138, 139, 140, 141, 142, 143, 144, 145, 146, 147, 148, 149, 150, 151, 152, 153, 154, 155, 156, 157, 158, 159, 160, 161, 162, 163, 164, 165, 166, 167, 168, 169, 170, 171, 172, 173, 174] (by with_unfolding_all rfl) (by decide +kernel)
set_option maxRecDepth 20000 in
theorem gX11_readText_X11_rowClause : GoodIn wsX11_readText (wsV RX11 224 RX11 yX11_rowClause wsX11_rowClause) := goodIn_app (goodIn_of _ (by decide +kernel)) ggX11_readText_X11_rowClause
set_option maxRecDepth 100000 in
set_option maxHeartbeats 4000000 in
theorem ggX11_readText_X11_seenClause : GoodIn wsX11_readText wsX11_seenClause := goodIn_r _ [126, 4, 5, 127, 11, 2, 6, 7, 8, 9, 10, 3, 12, 13, 14, 15, 16, 17, 18, 19, 20, 21, 22, 23, 24, 25, 26, 27, 28, 29, 30, 31, 32, 33, 34, 42, 43, 44, 45, 46, 128, 129, 130, 131, 132, 133, 134, 135, 136, 137, 138, 139, 140, 141, 142, 143, 144, 145, 146, 147, 148, 149, 150, 151, 152, 153, 154, 155, 156, 157, 158, 159, 160, 161, 162, 163, 164, 165, 166, 167, 168, 169, 170, 171, 172, 173, 174] (by with_unfolding_all rfl) (by decide +kernel)
set_option maxRecDepth 20000 in
theorem gX11_readText_X11_seenClause : GoodIn wsX11_readText (wsV RX11 227 RX11 yX11_seenClause wsX11_seenClause) := goodIn_app (goodIn_of _ (by decide +kernel)) ggX11_readText_X11_seenClause
set_option maxRecDepth 20000 in
theorem ggX11_readText_X11_fails : GoodIn wsX11_readText wsX11_fails := goodIn_r _ [45, 46, 128, 129, 130, 131, 132, 133, 134, 135, 136, 137, 138, 139, 140, 141, 142, 143, 144, 145, 146, 147, 148, 149, 150, 151, 152, 153, 154, 155, 156, 157, 158, 159, 160, 161, 162, 163, 164, 165, 166, 167, 168, 169, 170, 171, 172, 173, 174] (by decide +kernel) (by decide +kernel)
set_option maxRecDepth 20000 in
theorem gX11_readText_X11_fails : GoodIn wsX11_readText (wsV RX11 157 RX11 yX11_fails wsX11_fails) := goodIn_app (goodIn_of _ (by decide +kernel)) ggX11_readText_X11_fails
/-- marks: each 0 to 10 -/
def MK (c : Nat → Int32) : Prop := ∀ i : Int, 1 ≤ i → i ≤ 7 → 0 ≤ (c i.toNat).toInt ∧ (c i.toNat).toInt ≤ 10
def FM (c : Nat → Int32) : Prop := (0 ≤ (c (0 : Int).toNat).toInt ∧ (c (0 : Int).toNat).toInt ≤ 7) ∧ MK c
theorem fm_set {c g : Nat → Int32} {x : Int} (h : FM c) (hu : ∀ i : Int, 0 ≤ i → i ≠ x → g i.toNat = c i.toNat) (h0 : x = 0 → 0 ≤ (g x.toNat).toInt ∧ (g x.toNat).toInt ≤ 7) (h1 : 1 ≤ x → 0 ≤ (g x.toNat).toInt ∧ (g x.toNat).toInt ≤ 10) : FM g := by
  refine ⟨?_, fun i i1 i2 => ?_⟩
  · by_cases e : x = 0
    · have := h0 e; rw [e] at this; exact this
    · rw [hu 0 (by omega) (by omega)]; exact h.1
  · by_cases e : i = x
    · rw [e]; exact h1 (by omega)
    · rw [hu i (by omega) e]; exact h.2 i i1 i2
theorem fresh_set {jn : Nat} {m c m2 c2 w : Nat → Int32} {l t : Int} (h : FreshX jn m c) (hl : 0 ≤ l ∧ l < 8) (ht : 0 ≤ t ∧ t ≤ 24) (h1 : ∀ i : Int, 0 ≤ i → i ≠ l → m2 i.toNat = m i.toNat) (h2 : (m2 l.toNat).toInt = t) (h3 : ∀ i : Int, 0 ≤ i → (i < 144 * l ∨ 144 * l + 144 ≤ i) → c2 i.toNat = c i.toNat) (h4 : ∀ i : Int, 0 ≤ i → i < 6 * t → c2 (144 * l + i).toNat = w i.toNat) (hC : CellsX jn w 0 (6 * t)) : FreshX jn m2 c2 := by
  intro k k0 k1
  by_cases e : k = l
  · rw [e, h2]
    refine ⟨ht.1, ht.2, fun i i0 i1 => ?_, fun j j0 j1 q => ?_⟩
    · have h9 := h4 (i - 144 * l) (by omega) (by omega)
      rw [show 144 * l + (i - 144 * l) = i by omega] at h9
      rw [h9]; exact hC.1 _ (by omega) (by omega)
    · have h8 := h4 (2 * j) (by omega) (by omega)
      have h9 := h4 (2 * j + 1) (by omega) (by omega)
      rw [show 144 * l + (2 * j + 1) = 144 * l + 2 * j + 1 by omega] at h9
      rw [h9]; rw [h8] at q
      have h7 := hC.2 j j0 (by omega)
      rw [show 0 + 2 * j + 1 = 2 * j + 1 by omega, show 0 + 2 * j = 2 * j by omega] at h7
      exact h7 q
  · obtain ⟨a1, a2, a3⟩ := h k k0 k1
    rw [h1 k k0 e]
    refine ⟨a1, a2, fun i i0 i1 => ?_, fun j j0 j1 q => ?_⟩
    · rw [h3 i (by omega) (by omega)]; exact a3.1 i i0 i1
    · rw [h3 _ (by omega) (by omega)] at q ⊢; exact a3.2 j j0 j1 q
theorem freshz_set {jn : Nat} {m c m2 c2 w : Nat → Int32} {l t : Int} (hX : FreshX jn m c) (h : FreshZ jn m c) (hl : 0 ≤ l ∧ l < 8) (ht : 0 ≤ t ∧ t ≤ 24) (h1 : ∀ i : Int, 0 ≤ i → i ≠ l → m2 i.toNat = m i.toNat) (h2 : (m2 l.toNat).toInt = t) (h3 : ∀ i : Int, 0 ≤ i → (i < 144 * l ∨ 144 * l + 144 ≤ i) → c2 i.toNat = c i.toNat) (h4 : ∀ i : Int, 0 ≤ i → i < 6 * t → c2 (144 * l + i).toNat = w i.toNat) (hC : ZX jn w 0 t) : FreshZ jn m2 c2 := by
  intro k k0 k1 b x b0 b1 x0 x1
  by_cases e : k = l
  · rw [e, h2] at b1
    have h9 := h4 (6 * b + x) (by omega) (by omega)
    have h7 := hC b x b0 b1 x0 x1
    rw [e, show 144 * l + 6 * b + x = 144 * l + (6 * b + x) by omega, h9, show 6 * b + x = 0 + 6 * b + x by omega]
    exact h7
  · have a2 := (hX k k0 k1).2.1
    rw [h1 k k0 e] at b1
    rw [h3 _ (by omega) (by omega)]; exact h k k0 k1 b x b0 b1 x0 x1
set_option maxRecDepth 100000 in
set_option maxHeartbeats 4000000 in
theorem k_seenClause (l : Launch) (D : va_G) (cI cR cM : ClassId) (sz : Nat) {jn mm : Nat} {q : Nat → Nat} {x0 x1 x2 x3 x4 x5 x6 x7 x8 x9 x10 x11 x12 x13 x14 x15 x16 x17 x18 x19 x20 : Int32} {f0 f1 f2 f3 f4 f5 f6 f7 f8 f9 f10 f11 f12 f13 f14 f15 f16 f17 f18 f19 f20 f21 f22 f23 f24 : Nat → Int32}  (ht : 0 ≤ x2.toInt ∧ x2.toInt ≤ 300) (h5 : 0 ≤ x5.toInt ∧ x5.toInt ≤ x2.toInt) (hT : TokOK x7 x8) (hj : 1 ≤ jn ∧ jn ≤ 3) (hM : MK f11) (hFm : FM f10) : Met l yX11_seenClause wsX11_seenClause ({ frames := 4, cells := 0, slots := 0, locals := 88 }) (P0 D cI cR cM [.ref mm] sz (mX mm q jn cI x0 x1 x2 x3 x4 x5 x6 x7 x8 x9 x10 x11 x12 x13 x14 x15 x16 x17 x18 x19 x20 f0 f1 f2 f3 f4 f5 f6 f7 f8 f9 f10 f11 f12 f13 f14 f15 f16 f17 f18 f19 f20 f21 f22 f23 f24)) (QG (S := Int32 × Int32 × Int32 × Int32 × Int32 × Int32 × (Nat → Int32) × (Nat → Int32)) (fun u => some (.int u.1)) (fun u => mX mm q jn cI x0 x1 x2 x3 x4 (u.2.1) (u.2.2.1) (u.2.2.2.1) (u.2.2.2.2.1) (u.2.2.2.2.2.1) x10 x11 x12 x13 x14 x15 x16 x17 x18 x19 x20 f0 f1 f2 f3 f4 f5 f6 f7 f8 f9 (u.2.2.2.2.2.2.1) (u.2.2.2.2.2.2.2) f12 f13 f14 f15 f16 f17 f18 f19 f20 f21 f22 f23 f24) (fun u => (x5.toInt ≤ u.2.1.toInt ∧ u.2.1.toInt ≤ x2.toInt) ∧ (TokOK u.2.2.2.1 u.2.2.2.2.1) ∧ (MK u.2.2.2.2.2.2.2) ∧ (FM u.2.2.2.2.2.2.1)) D (va_A (mX mm q jn cI x0 x1 x2 x3 x4 x5 x6 x7 x8 x9 x10 x11 x12 x13 x14 x15 x16 x17 x18 x19 x20 f0 f1 f2 f3 f4 f5 f6 f7 f8 f9 f10 f11 f12 f13 f14 f15 f16 f17 f18 f19 f20 f21 f22 f23 f24) sz)) 0 0 (va_A (mX mm q jn cI x0 x1 x2 x3 x4 x5 x6 x7 x8 x9 x10 x11 x12 x13 x14 x15 x16 x17 x18 x19 x20 f0 f1 f2 f3 f4 f5 f6 f7 f8 f9 f10 f11 f12 f13 f14 f15 f16 f17 f18 f19 f20 f21 f22 f23 f24) sz) := by
  refine go (cc := cX11_seenClause) (maxL := 3) (ret := (some .int)) (by decide) rfl (Nat.le_of_ble_eq_true rfl) ?_
  intro p e s m below meth c ls args Q hQ hsz hx hb hr hml hts hown hlocks hnm hP hK hD hl
  subst hsz
  have hD := hD.self (sz := s.heap.size)
  generalize hAe : va_A (mX mm q jn cI x0 x1 x2 x3 x4 x5 x6 x7 x8 x9 x10 x11 x12 x13 x14 x15 x16 x17 x18 x19 x20 f0 f1 f2 f3 f4 f5 f6 f7 f8 f9 f10 f11 f12 f13 f14 f15 f16 f17 f18 f19 f20 f21 f22 f23 f24) s.heap.size = A at hD hQ
  have hA : ∀ q, s.heap.size ≤ q → A q := fun q h => by rw [← hAe]; exact Or.inr h
  have hS : va_S A s.heap s.heap [] := va_S.rf
  have hl : lv_has ls 3 [(0, .ref mm)] := hl
  refine lv_aload_n hx hb dX11_seenClause_0 rfl (lv_at hl 0 rfl) ?_
  refine call_g (wr := []) (va_runV (As := []) (rest := []) ⟨hx, hb, hml, hown, hts⟩ (k_next l D cI cR cM _  (by first | assumption | omega) (by first | assumption | omega)) (cwV 0 hts gX11_seenClause_X11_nextToken rfl rfl rfl (by decide +kernel) ⟨Nat.le_of_ble_eq_true rfl, Nat.le_of_ble_eq_true rfl⟩) (pre_V hK hP hD 0 11 rfl rfl) rfl rfl hl.1 rfl (lv_room (Nat.le_of_ble_eq_true rfl)) dX11_seenClause_1 ⟨Nat.le_of_ble_eq_true rfl, Nat.le_of_ble_eq_true rfl⟩) hP hD hS hA [0, 1, 2, 3, 4, 5, 6, 7, 8, 9, 10, 11, 12, 13, 14, 15, 16, 17, 18, 19, 20, 21, 22, 23, 24, 25] [] (by with_unfolding_all rfl) rfl (by decide) (by decide) (fun u_1 H locs hw hP hD hS => ?_)
  obtain ⟨y5_1, y6_1, y7_1, y8_1⟩ := u_1
  have hP : va_P D vwCl (mX mm q jn cI x0 x1 x2 x3 x4 y5_1 y6_1 y7_1 y8_1 x9 x10 x11 x12 x13 x14 x15 x16 x17 x18 x19 x20 f0 f1 f2 f3 f4 f5 f6 f7 f8 f9 f10 f11 f12 f13 f14 f15 f16 f17 f18 f19 f20 f21 f22 f23 f24) H := hP
  have hD : va_D A (mX mm q jn cI x0 x1 x2 x3 x4 y5_1 y6_1 y7_1 y8_1 x9 x10 x11 x12 x13 x14 x15 x16 x17 x18 x19 x20 f0 f1 f2 f3 f4 f5 f6 f7 f8 f9 f10 f11 f12 f13 f14 f15 f16 f17 f18 f19 f20 f21 f22 f23 f24) := hD
  obtain ⟨ha_1, hp_1, hk_1, hT_1⟩ : (x5.toInt ≤ y5_1.toInt ∧ y5_1.toInt ≤ x2.toInt) ∧ (0 ≤ y6_1.toInt ∧ y6_1.toInt ≤ 300) ∧ (y7_1.toInt = 0 ∨ x5.toInt < y5_1.toInt) ∧ (TokOK y7_1 y8_1) := hw
  refine lv_iconst (v := 0) hx hb dX11_seenClause_4 (by decide) ?_
  refine lv_istore_n (lv' := [(1, .int 0), (0, .ref mm)]) hx hb dX11_seenClause_5 rfl hl (by decide) rfl (fun ls hl => ?_)
  have loop6 : ∀ (ddloop6 : Nat) (n : Int32) (a5 : Int32) (a6 : Int32) (a7 : Int32) (a8 : Int32) (q11 : (Nat → Int32)) (H : Heap) (locs : List Loc) (ls : Array Slot), (2 * (x2.toInt - a5.toInt) + (if a7.toInt = 0 then 0 else 1)).toNat < ddloop6 → (0 ≤ n.toInt ∧ n.toInt ≤ 7) → (x5.toInt ≤ a5.toInt ∧ a5.toInt ≤ x2.toInt) → (TokOK a7 a8) → (MK q11) → va_P D vwCl (mX mm q jn cI x0 x1 x2 x3 x4 a5 a6 a7 a8 x9 x10 x11 x12 x13 x14 x15 x16 x17 x18 x19 x20 f0 f1 f2 f3 f4 f5 f6 f7 f8 f9 f10 q11 f12 f13 f14 f15 f16 f17 f18 f19 f20 f21 f22 f23 f24) H → va_D A (mX mm q jn cI x0 x1 x2 x3 x4 a5 a6 a7 a8 x9 x10 x11 x12 x13 x14 x15 x16 x17 x18 x19 x20 f0 f1 f2 f3 f4 f5 f6 f7 f8 f9 f10 q11 f12 f13 f14 f15 f16 f17 f18 f19 f20 f21 f22 f23 f24) → va_S A s.heap H locs → lv_has ls 3 [(0, .ref mm), (1, .int n)] → W p l e ({ frames := 4, cells := 0, slots := 0, locals := 88 }) s m args below meth c H locs 0 0 Q (F0 m 6 ls []) := by
    intro ddloop6
    induction ddloop6 with
    | zero =>
      intro n a5 a6 a7 a8 q11 H locs ls hdd
      exact absurd hdd (Nat.not_lt_zero _)
    | succ ddloop6 ih6 =>
      intro n a5 a6 a7 a8 q11 H locs ls hdd hn hp hT hM hP hD hS hl
      refine lv_aload_n hx hb dX11_seenClause_6 rfl (lv_at hl 0 rfl) ?_
      refine va_get (D := D) (ci := 11) (v := .int a7) (C := RX11) (T := TX11) (N := 47) hx hb hts (by decide +kernel) hown hK.1 hP 0 rfl rfl 11 (by decide) (hts (.fieldLink RX11 131 "JugglingHallModel" "token" "I") (by decide +kernel)) (fun _ h9 => h9) rfl dX11_seenClause_7 ?_
      refine lv_iconst (v := 1) hx hb dX11_seenClause_10 (by decide) ?_
      refine a_icmp_eq (u := a7.toInt) (v := 1) (tgt := 23) hx hb dX11_seenClause_11 (by decide) (rfl) (by decide) (fun c_2 => ?_) (fun c_2 => ?_)
      · refine lv_iload_n hx hb dX11_seenClause_23 rfl (lv_at hl 1 rfl) ?_
        refine lv_bipush (v := 7) hx hb dX11_seenClause_24 (by decide) ?_
        refine a_icmp_ne (u := n.toInt) (v := 7) (tgt := 39) hx hb dX11_seenClause_26 (by decide) (rfl) (by decide) (fun c_3 => ?_) (fun c_3 => ?_)
        · obtain ⟨z_4, q_4, e_4⟩ := i_inc (a := n.toInt) (1) (rfl) (by decide) (by omega) (by omega)
          refine lv_iinc (v := z_4) (lv' := [(1, .int z_4), (0, .ref mm)]) hx hb dX11_seenClause_39 hl (k := 1) rfl q_4 (by decide) rfl (fun ls hl => ?_)
          refine lv_aload_n hx hb dX11_seenClause_42 rfl (lv_at hl 1 rfl) ?_
          refine va_get (D := D) (ci := 11) (v := .ref (q 11)) (C := RX11) (T := TX11) (N := 47) hx hb hts (by decide +kernel) hown hK.1 hP 0 rfl rfl 27 (by decide) (hts (.fieldLink RX11 51 "JugglingHallModel" "marksNow" "[I") (by decide +kernel)) (fun _ h9 => h9) rfl dX11_seenClause_43 ?_
          refine lv_iload_n hx hb dX11_seenClause_46 rfl (lv_at hl 0 rfl) ?_
          refine lv_aload_n hx hb dX11_seenClause_47 rfl (lv_at hl 1 rfl) ?_
          refine va_get (D := D) (ci := 11) (v := .int a7) (C := RX11) (T := TX11) (N := 47) hx hb hts (by decide +kernel) hown hK.1 hP 0 rfl rfl 11 (by decide) (hts (.fieldLink RX11 131 "JugglingHallModel" "token" "I") (by decide +kernel)) (fun _ h9 => h9) rfl dX11_seenClause_48 ?_
          refine lv_bipush (v := 63) hx hb dX11_seenClause_51 (by decide) ?_
          refine a_icmp_ne (u := a7.toInt) (v := 63) (tgt := 61) hx hb dX11_seenClause_53 (by decide) (rfl) (by decide) (fun c_5 => ?_) (fun c_5 => ?_)
          · refine lv_aload_n hx hb dX11_seenClause_61 rfl (lv_at hl 1 rfl) ?_
            refine va_get (D := D) (ci := 11) (v := .int a8) (C := RX11) (T := TX11) (N := 47) hx hb hts (by decide +kernel) hown hK.1 hP 0 rfl rfl 12 (by decide) (hts (.fieldLink RX11 138 "JugglingHallModel" "value" "I") (by decide +kernel)) (fun _ h9 => h9) rfl dX11_seenClause_62 ?_
            refine ma_11 (u := (n.toInt + 1)) hx hb hK hP hD hS dX11_seenClause_65 (e_4) (by omega) (fun g_6 H locs eg_6 hP hD hS => ?_)
            refine lv_aload_n hx hb dX11_seenClause_66 rfl (lv_at hl 1 rfl) ?_
            refine call_g (wr := []) (va_runV (As := []) (rest := []) ⟨hx, hb, hml, hown, hts⟩ (k_next l D cI cR cM _  (by first | assumption | omega) (by first | assumption | omega)) (cwV 0 hts gX11_seenClause_X11_nextToken rfl rfl rfl (by decide +kernel) ⟨Nat.le_of_ble_eq_true rfl, Nat.le_of_ble_eq_true rfl⟩) (pre_V hK hP hD 0 11 rfl rfl) rfl rfl hl.1 rfl (lv_room (Nat.le_of_ble_eq_true rfl)) dX11_seenClause_67 ⟨Nat.le_of_ble_eq_true rfl, Nat.le_of_ble_eq_true rfl⟩) hP hD hS hA [0, 1, 2, 3, 4, 5, 6, 7, 8, 9, 10, 11, 12, 13, 14, 15, 16, 17, 18, 19, 20, 21, 22, 23, 24, 25] [] (by with_unfolding_all rfl) rfl (by decide) (by decide) (fun u_7 H locs hw hP hD hS => ?_)
            obtain ⟨y5_7, y6_7, y7_7, y8_7⟩ := u_7
            have hP : va_P D vwCl (mX mm q jn cI x0 x1 x2 x3 x4 y5_7 y6_7 y7_7 y8_7 x9 x10 x11 x12 x13 x14 x15 x16 x17 x18 x19 x20 f0 f1 f2 f3 f4 f5 f6 f7 f8 f9 f10 g_6 f12 f13 f14 f15 f16 f17 f18 f19 f20 f21 f22 f23 f24) H := hP
            have hD : va_D A (mX mm q jn cI x0 x1 x2 x3 x4 y5_7 y6_7 y7_7 y8_7 x9 x10 x11 x12 x13 x14 x15 x16 x17 x18 x19 x20 f0 f1 f2 f3 f4 f5 f6 f7 f8 f9 f10 g_6 f12 f13 f14 f15 f16 f17 f18 f19 f20 f21 f22 f23 f24) := hD
            obtain ⟨ha_7, hp_7, hk_7, hT_7⟩ : (a5.toInt ≤ y5_7.toInt ∧ y5_7.toInt ≤ x2.toInt) ∧ (0 ≤ y6_7.toInt ∧ y6_7.toInt ≤ 300) ∧ (y7_7.toInt = 0 ∨ a5.toInt < y5_7.toInt) ∧ (TokOK y7_7 y8_7) := hw
            refine lv_goto (tgt := 6) hx hb dX11_seenClause_70 (by decide) ?_
            exact ih6 z_4 y5_7 y6_7 y7_7 y8_7 g_6 _ _ _ (by omega) (by first | assumption | omega) (by first | assumption | omega) (by first | assumption | omega) (fun i i1 i2 => by
              by_cases q : i = (n.toInt + 1)
              · rw [eg_6, q, pk_us]
                first
                  | decide
                  | (have h9 := hT.2.1 (by omega); omega)
              · rw [eg_6, un_i (by omega) (by omega) (by omega)]; exact hM i i1 i2) hP hD hS (lv_sub hl [1, 0] rfl)
          · refine lv_bipush (v := 10) hx hb dX11_seenClause_56 (by decide) ?_
            refine lv_goto (tgt := 65) hx hb dX11_seenClause_58 (by decide) ?_
            refine ma_11 (u := (n.toInt + 1)) hx hb hK hP hD hS dX11_seenClause_65 (e_4) (by omega) (fun g_8 H locs eg_8 hP hD hS => ?_)
            refine lv_aload_n hx hb dX11_seenClause_66 rfl (lv_at hl 1 rfl) ?_
            refine call_g (wr := []) (va_runV (As := []) (rest := []) ⟨hx, hb, hml, hown, hts⟩ (k_next l D cI cR cM _  (by first | assumption | omega) (by first | assumption | omega)) (cwV 0 hts gX11_seenClause_X11_nextToken rfl rfl rfl (by decide +kernel) ⟨Nat.le_of_ble_eq_true rfl, Nat.le_of_ble_eq_true rfl⟩) (pre_V hK hP hD 0 11 rfl rfl) rfl rfl hl.1 rfl (lv_room (Nat.le_of_ble_eq_true rfl)) dX11_seenClause_67 ⟨Nat.le_of_ble_eq_true rfl, Nat.le_of_ble_eq_true rfl⟩) hP hD hS hA [0, 1, 2, 3, 4, 5, 6, 7, 8, 9, 10, 11, 12, 13, 14, 15, 16, 17, 18, 19, 20, 21, 22, 23, 24, 25] [] (by with_unfolding_all rfl) rfl (by decide) (by decide) (fun u_9 H locs hw hP hD hS => ?_)
            obtain ⟨y5_9, y6_9, y7_9, y8_9⟩ := u_9
            have hP : va_P D vwCl (mX mm q jn cI x0 x1 x2 x3 x4 y5_9 y6_9 y7_9 y8_9 x9 x10 x11 x12 x13 x14 x15 x16 x17 x18 x19 x20 f0 f1 f2 f3 f4 f5 f6 f7 f8 f9 f10 g_8 f12 f13 f14 f15 f16 f17 f18 f19 f20 f21 f22 f23 f24) H := hP
            have hD : va_D A (mX mm q jn cI x0 x1 x2 x3 x4 y5_9 y6_9 y7_9 y8_9 x9 x10 x11 x12 x13 x14 x15 x16 x17 x18 x19 x20 f0 f1 f2 f3 f4 f5 f6 f7 f8 f9 f10 g_8 f12 f13 f14 f15 f16 f17 f18 f19 f20 f21 f22 f23 f24) := hD
            obtain ⟨ha_9, hp_9, hk_9, hT_9⟩ : (a5.toInt ≤ y5_9.toInt ∧ y5_9.toInt ≤ x2.toInt) ∧ (0 ≤ y6_9.toInt ∧ y6_9.toInt ≤ 300) ∧ (y7_9.toInt = 0 ∨ a5.toInt < y5_9.toInt) ∧ (TokOK y7_9 y8_9) := hw
            refine lv_goto (tgt := 6) hx hb dX11_seenClause_70 (by decide) ?_
            exact ih6 z_4 y5_9 y6_9 y7_9 y8_9 g_8 _ _ _ (by omega) (by first | assumption | omega) (by first | assumption | omega) (by first | assumption | omega) (fun i i1 i2 => by
              by_cases q : i = (n.toInt + 1)
              · rw [eg_8, q, pk_us]
                first
                  | decide
                  | (have h9 := hT.2.1 (by omega); omega)
              · rw [eg_8, un_i (by omega) (by omega) (by omega)]; exact hM i i1 i2) hP hD hS (lv_sub hl [1, 0] rfl)
        · refine lv_aload_n hx hb dX11_seenClause_29 rfl (lv_at hl 0 rfl) ?_
          refine lv_iconst (v := 4) hx hb dX11_seenClause_30 (by decide) ?_
          refine lv_aload_n hx hb dX11_seenClause_31 rfl (lv_at hl 0 rfl) ?_
          refine va_get (D := D) (ci := 11) (v := .int a6) (C := RX11) (T := TX11) (N := 47) hx hb hts (by decide +kernel) hown hK.1 hP 0 rfl rfl 10 (by decide) (hts (.fieldLink RX11 120 "JugglingHallModel" "place" "I") (by decide +kernel)) (fun _ h9 => h9) rfl dX11_seenClause_32 ?_
          have hz_10 : (4 : Int32).toInt = 4 := by decide
          refine call_g (wr := []) (va_runV (As := [.int 4, .int a6]) (rest := []) ⟨hx, hb, hml, hown, hts⟩ (k_fails l D cI cR cM _  ) (cwV 2 hts gX11_seenClause_X11_fails rfl rfl rfl (by decide +kernel) ⟨Nat.le_of_ble_eq_true rfl, Nat.le_of_ble_eq_true rfl⟩) (pre_V hK hP hD 0 11 rfl rfl) rfl rfl hl.1 rfl (lv_room (Nat.le_of_ble_eq_true rfl)) dX11_seenClause_35 ⟨Nat.le_of_ble_eq_true rfl, Nat.le_of_ble_eq_true rfl⟩) hP hD hS hA [0, 1, 2, 3, 4, 5, 6, 7, 8, 9, 10, 11, 12, 13, 14, 15, 16, 17, 18, 19, 20, 21, 22, 23, 24, 25] [] (by with_unfolding_all rfl) rfl (by decide) (by decide) (fun u_11 H locs hw hP hD hS => ?_)
          obtain ⟨r_11, y9_11⟩ := u_11
          have hP : va_P D vwCl (mX mm q jn cI x0 x1 x2 x3 x4 a5 a6 a7 a8 y9_11 x10 x11 x12 x13 x14 x15 x16 x17 x18 x19 x20 f0 f1 f2 f3 f4 f5 f6 f7 f8 f9 f10 q11 f12 f13 f14 f15 f16 f17 f18 f19 f20 f21 f22 f23 f24) H := hP
          have hD : va_D A (mX mm q jn cI x0 x1 x2 x3 x4 a5 a6 a7 a8 y9_11 x10 x11 x12 x13 x14 x15 x16 x17 x18 x19 x20 f0 f1 f2 f3 f4 f5 f6 f7 f8 f9 f10 q11 f12 f13 f14 f15 f16 f17 f18 f19 f20 f21 f22 f23 f24) := hD
          have hr_11 : (r_11.toInt = (4 : Int32).toInt) := hw
          exact g_iret (r_11, a5, a6, a7, a8, y9_11, f10, q11) hx hb hr hlocks hS rfl (⟨show x5.toInt ≤ a5.toInt ∧ a5.toInt ≤ x2.toInt from (by first | assumption | omega), show TokOK a7 a8 from (by first | assumption | omega), show MK q11 from (hM), show FM f10 from (hFm)⟩) hP hD hQ (Nat.le_of_ble_eq_true rfl) (Nat.le_of_ble_eq_true rfl) dX11_seenClause_38
      · refine lv_aload_n hx hb dX11_seenClause_14 rfl (lv_at hl 0 rfl) ?_
        refine va_get (D := D) (ci := 11) (v := .int a7) (C := RX11) (T := TX11) (N := 47) hx hb hts (by decide +kernel) hown hK.1 hP 0 rfl rfl 11 (by decide) (hts (.fieldLink RX11 131 "JugglingHallModel" "token" "I") (by decide +kernel)) (fun _ h9 => h9) rfl dX11_seenClause_15 ?_
        refine lv_bipush (v := 63) hx hb dX11_seenClause_18 (by decide) ?_
        refine a_icmp_ne (u := a7.toInt) (v := 63) (tgt := 73) hx hb dX11_seenClause_20 (by decide) (rfl) (by decide) (fun c_12 => ?_) (fun c_12 => ?_)
        · refine lv_iload_n hx hb dX11_seenClause_73 rfl (lv_at hl 1 rfl) ?_
          refine a_if_eq (u := n.toInt) (tgt := 86) hx hb dX11_seenClause_74 (by decide) (rfl) (fun c_13 => ?_) (fun c_13 => ?_)
          · refine lv_aload_n hx hb dX11_seenClause_86 rfl (lv_at hl 0 rfl) ?_
            refine lv_iconst (v := 1) hx hb dX11_seenClause_87 (by decide) ?_
            refine lv_aload_n hx hb dX11_seenClause_88 rfl (lv_at hl 0 rfl) ?_
            refine va_get (D := D) (ci := 11) (v := .int a6) (C := RX11) (T := TX11) (N := 47) hx hb hts (by decide +kernel) hown hK.1 hP 0 rfl rfl 10 (by decide) (hts (.fieldLink RX11 120 "JugglingHallModel" "place" "I") (by decide +kernel)) (fun _ h9 => h9) rfl dX11_seenClause_89 ?_
            have hz_14 : (1 : Int32).toInt = 1 := by decide
            refine call_g (wr := []) (va_runV (As := [.int 1, .int a6]) (rest := []) ⟨hx, hb, hml, hown, hts⟩ (k_fails l D cI cR cM _  ) (cwV 2 hts gX11_seenClause_X11_fails rfl rfl rfl (by decide +kernel) ⟨Nat.le_of_ble_eq_true rfl, Nat.le_of_ble_eq_true rfl⟩) (pre_V hK hP hD 0 11 rfl rfl) rfl rfl hl.1 rfl (lv_room (Nat.le_of_ble_eq_true rfl)) dX11_seenClause_92 ⟨Nat.le_of_ble_eq_true rfl, Nat.le_of_ble_eq_true rfl⟩) hP hD hS hA [0, 1, 2, 3, 4, 5, 6, 7, 8, 9, 10, 11, 12, 13, 14, 15, 16, 17, 18, 19, 20, 21, 22, 23, 24, 25] [] (by with_unfolding_all rfl) rfl (by decide) (by decide) (fun u_15 H locs hw hP hD hS => ?_)
            obtain ⟨r_15, y9_15⟩ := u_15
            have hP : va_P D vwCl (mX mm q jn cI x0 x1 x2 x3 x4 a5 a6 a7 a8 y9_15 x10 x11 x12 x13 x14 x15 x16 x17 x18 x19 x20 f0 f1 f2 f3 f4 f5 f6 f7 f8 f9 f10 q11 f12 f13 f14 f15 f16 f17 f18 f19 f20 f21 f22 f23 f24) H := hP
            have hD : va_D A (mX mm q jn cI x0 x1 x2 x3 x4 a5 a6 a7 a8 y9_15 x10 x11 x12 x13 x14 x15 x16 x17 x18 x19 x20 f0 f1 f2 f3 f4 f5 f6 f7 f8 f9 f10 q11 f12 f13 f14 f15 f16 f17 f18 f19 f20 f21 f22 f23 f24) := hD
            have hr_15 : (r_15.toInt = (1 : Int32).toInt) := hw
            exact g_iret (r_15, a5, a6, a7, a8, y9_15, f10, q11) hx hb hr hlocks hS rfl (⟨show x5.toInt ≤ a5.toInt ∧ a5.toInt ≤ x2.toInt from (by first | assumption | omega), show TokOK a7 a8 from (by first | assumption | omega), show MK q11 from (hM), show FM f10 from (hFm)⟩) hP hD hQ (Nat.le_of_ble_eq_true rfl) (Nat.le_of_ble_eq_true rfl) dX11_seenClause_95
          · refine lv_aload_n hx hb dX11_seenClause_77 rfl (lv_at hl 0 rfl) ?_
            refine va_get (D := D) (ci := 11) (v := .int a7) (C := RX11) (T := TX11) (N := 47) hx hb hts (by decide +kernel) hown hK.1 hP 0 rfl rfl 11 (by decide) (hts (.fieldLink RX11 131 "JugglingHallModel" "token" "I") (by decide +kernel)) (fun _ h9 => h9) rfl dX11_seenClause_78 ?_
            refine lv_bipush (v := 59) hx hb dX11_seenClause_81 (by decide) ?_
            refine a_icmp_eq (u := a7.toInt) (v := 59) (tgt := 96) hx hb dX11_seenClause_83 (by decide) (rfl) (by decide) (fun c_16 => ?_) (fun c_16 => ?_)
            · refine lv_aload_n hx hb dX11_seenClause_96 rfl (lv_at hl 0 rfl) ?_
              refine va_get (D := D) (ci := 11) (v := .ref (q 11)) (C := RX11) (T := TX11) (N := 47) hx hb hts (by decide +kernel) hown hK.1 hP 0 rfl rfl 27 (by decide) (hts (.fieldLink RX11 51 "JugglingHallModel" "marksNow" "[I") (by decide +kernel)) (fun _ h9 => h9) rfl dX11_seenClause_97 ?_
              refine lv_iconst (v := 0) hx hb dX11_seenClause_100 (by decide) ?_
              refine lv_iload_n hx hb dX11_seenClause_101 rfl (lv_at hl 1 rfl) ?_
              refine ma_11 (u := 0) hx hb hK hP hD hS dX11_seenClause_102 (by decide) (by omega) (fun g_17 H locs eg_17 hP hD hS => ?_)
              have hM9 : MK g_17 := fun i i1 i2 => by rw [eg_17, un_i (by omega) (by omega) (by omega)]; exact hM i i1 i2
              have hN9 : (g_17 (0 : Int).toNat).toInt = n.toInt := by rw [eg_17, pk_us]
              refine lv_iconst (v := 0) hx hb dX11_seenClause_103 (by decide) ?_
              refine lv_istore_n (lv' := [(2, .int 0), (0, .ref mm), (1, .int n)]) hx hb dX11_seenClause_104 rfl hl (by decide) rfl (fun ls hl => ?_)
              have loop105 : ∀ (ddloop105 : Nat) (k : Int32) (ga : (Nat → Int32)) (H : Heap) (locs : List Loc) (ls : Array Slot), (n.toInt + 1 - k.toInt).toNat < ddloop105 → (0 ≤ k.toInt ∧ k.toInt ≤ n.toInt + 1) → (FM ga) → va_P D vwCl (mX mm q jn cI x0 x1 x2 x3 x4 a5 a6 a7 a8 x9 x10 x11 x12 x13 x14 x15 x16 x17 x18 x19 x20 f0 f1 f2 f3 f4 f5 f6 f7 f8 f9 ga g_17 f12 f13 f14 f15 f16 f17 f18 f19 f20 f21 f22 f23 f24) H → va_D A (mX mm q jn cI x0 x1 x2 x3 x4 a5 a6 a7 a8 x9 x10 x11 x12 x13 x14 x15 x16 x17 x18 x19 x20 f0 f1 f2 f3 f4 f5 f6 f7 f8 f9 ga g_17 f12 f13 f14 f15 f16 f17 f18 f19 f20 f21 f22 f23 f24) → va_S A s.heap H locs → lv_has ls 3 [(0, .ref mm), (1, .int n), (2, .int k)] → W p l e ({ frames := 4, cells := 0, slots := 0, locals := 88 }) s m args below meth c H locs 0 0 Q (F0 m 105 ls []) := by
                intro ddloop105
                induction ddloop105 with
                | zero =>
                  intro k ga H locs ls hdd
                  exact absurd hdd (Nat.not_lt_zero _)
                | succ ddloop105 ih105 =>
                  intro k ga H locs ls hdd hk hFm9 hP hD hS hl
                  refine lv_iload_n hx hb dX11_seenClause_105 rfl (lv_at hl 2 rfl) ?_
                  refine lv_iload_n hx hb dX11_seenClause_106 rfl (lv_at hl 1 rfl) ?_
                  refine a_icmp_gt (u := k.toInt) (v := n.toInt) (tgt := 128) hx hb dX11_seenClause_107 (by decide) (rfl) (rfl) (fun c_18 => ?_) (fun c_18 => ?_)
                  · refine lv_iconst (v := 0) hx hb dX11_seenClause_128 (by decide) ?_
                    have hz_19 : (0 : Int32).toInt = 0 := by decide
                    exact g_iret ((0 : Int32), a5, a6, a7, a8, x9, ga, g_17) hx hb hr hlocks hS rfl (⟨show x5.toInt ≤ a5.toInt ∧ a5.toInt ≤ x2.toInt from (by first | assumption | omega), show TokOK a7 a8 from (by first | assumption | omega), show MK g_17 from (hM9), show FM ga from (hFm9)⟩) hP hD hQ (Nat.le_of_ble_eq_true rfl) (Nat.le_of_ble_eq_true rfl) dX11_seenClause_129
                  · refine lv_aload_n hx hb dX11_seenClause_110 rfl (lv_at hl 0 rfl) ?_
                    refine va_get (D := D) (ci := 11) (v := .ref (q 10)) (C := RX11) (T := TX11) (N := 47) hx hb hts (by decide +kernel) hown hK.1 hP 0 rfl rfl 24 (by decide) (hts (.fieldLink RX11 48 "JugglingHallModel" "freshMarks" "[I") (by decide +kernel)) (fun _ h9 => h9) rfl dX11_seenClause_111 ?_
                    refine lv_iload_n hx hb dX11_seenClause_114 rfl (lv_at hl 2 rfl) ?_
                    refine lv_aload_n hx hb dX11_seenClause_115 rfl (lv_at hl 0 rfl) ?_
                    refine va_get (D := D) (ci := 11) (v := .ref (q 11)) (C := RX11) (T := TX11) (N := 47) hx hb hts (by decide +kernel) hown hK.1 hP 0 rfl rfl 27 (by decide) (hts (.fieldLink RX11 51 "JugglingHallModel" "marksNow" "[I") (by decide +kernel)) (fun _ h9 => h9) rfl dX11_seenClause_116 ?_
                    refine lv_iload_n hx hb dX11_seenClause_119 rfl (lv_at hl 2 rfl) ?_
                    refine a_iald (f := g_17) (u := k.toInt) hx hb hK.1 hP 12 0 rfl rfl dX11_seenClause_120 (rfl) (by omega) (fun z_20 q_20 e_20 => ?_)
                    refine ma_10 (u := k.toInt) hx hb hK hP hD hS dX11_seenClause_121 (rfl) (by omega) (fun g_21 H locs eg_21 hP hD hS => ?_)
                    obtain ⟨z_22, q_22, e_22⟩ := i_inc (a := k.toInt) (1) (rfl) (by decide) (by omega) (by omega)
                    refine lv_iinc (v := z_22) (lv' := [(2, .int z_22), (0, .ref mm), (1, .int n)]) hx hb dX11_seenClause_122 hl (k := 2) rfl q_22 (by decide) rfl (fun ls hl => ?_)
                    refine lv_goto (tgt := 105) hx hb dX11_seenClause_125 (by decide) ?_
                    exact ih105 z_22 g_21 _ _ _ (by omega) (by first | assumption | omega) (fm_set (x := k.toInt) hFm9 (fun i i0 i1 => by rw [eg_21, un_i i0 (by omega) (by omega)]) (fun e => by rw [eg_21, pk_us, q_20, show k.toInt = 0 by omega]; omega) (fun e => by rw [eg_21, pk_us, q_20]; exact hM9 _ (by omega) (by omega))) hP hD hS (lv_sub hl [1, 2, 0] rfl)
              have hz_23 : (0 : Int32).toInt = 0 := by decide
              exact loop105 ((n.toInt + 1 - (0 : Int32).toInt).toNat + 1) (0 : Int32) f10 _ _ _ (by omega) (by first | assumption | omega) (hFm) hP hD hS (lv_sub hl [1, 2, 0] rfl)
            · refine lv_aload_n hx hb dX11_seenClause_86 rfl (lv_at hl 0 rfl) ?_
              refine lv_iconst (v := 1) hx hb dX11_seenClause_87 (by decide) ?_
              refine lv_aload_n hx hb dX11_seenClause_88 rfl (lv_at hl 0 rfl) ?_
              refine va_get (D := D) (ci := 11) (v := .int a6) (C := RX11) (T := TX11) (N := 47) hx hb hts (by decide +kernel) hown hK.1 hP 0 rfl rfl 10 (by decide) (hts (.fieldLink RX11 120 "JugglingHallModel" "place" "I") (by decide +kernel)) (fun _ h9 => h9) rfl dX11_seenClause_89 ?_
              have hz_24 : (1 : Int32).toInt = 1 := by decide
              refine call_g (wr := []) (va_runV (As := [.int 1, .int a6]) (rest := []) ⟨hx, hb, hml, hown, hts⟩ (k_fails l D cI cR cM _  ) (cwV 2 hts gX11_seenClause_X11_fails rfl rfl rfl (by decide +kernel) ⟨Nat.le_of_ble_eq_true rfl, Nat.le_of_ble_eq_true rfl⟩) (pre_V hK hP hD 0 11 rfl rfl) rfl rfl hl.1 rfl (lv_room (Nat.le_of_ble_eq_true rfl)) dX11_seenClause_92 ⟨Nat.le_of_ble_eq_true rfl, Nat.le_of_ble_eq_true rfl⟩) hP hD hS hA [0, 1, 2, 3, 4, 5, 6, 7, 8, 9, 10, 11, 12, 13, 14, 15, 16, 17, 18, 19, 20, 21, 22, 23, 24, 25] [] (by with_unfolding_all rfl) rfl (by decide) (by decide) (fun u_25 H locs hw hP hD hS => ?_)
              obtain ⟨r_25, y9_25⟩ := u_25
              have hP : va_P D vwCl (mX mm q jn cI x0 x1 x2 x3 x4 a5 a6 a7 a8 y9_25 x10 x11 x12 x13 x14 x15 x16 x17 x18 x19 x20 f0 f1 f2 f3 f4 f5 f6 f7 f8 f9 f10 q11 f12 f13 f14 f15 f16 f17 f18 f19 f20 f21 f22 f23 f24) H := hP
              have hD : va_D A (mX mm q jn cI x0 x1 x2 x3 x4 a5 a6 a7 a8 y9_25 x10 x11 x12 x13 x14 x15 x16 x17 x18 x19 x20 f0 f1 f2 f3 f4 f5 f6 f7 f8 f9 f10 q11 f12 f13 f14 f15 f16 f17 f18 f19 f20 f21 f22 f23 f24) := hD
              have hr_25 : (r_25.toInt = (1 : Int32).toInt) := hw
              exact g_iret (r_25, a5, a6, a7, a8, y9_25, f10, q11) hx hb hr hlocks hS rfl (⟨show x5.toInt ≤ a5.toInt ∧ a5.toInt ≤ x2.toInt from (by first | assumption | omega), show TokOK a7 a8 from (by first | assumption | omega), show MK q11 from (hM), show FM f10 from (hFm)⟩) hP hD hQ (Nat.le_of_ble_eq_true rfl) (Nat.le_of_ble_eq_true rfl) dX11_seenClause_95
        · refine lv_iload_n hx hb dX11_seenClause_23 rfl (lv_at hl 1 rfl) ?_
          refine lv_bipush (v := 7) hx hb dX11_seenClause_24 (by decide) ?_
          refine a_icmp_ne (u := n.toInt) (v := 7) (tgt := 39) hx hb dX11_seenClause_26 (by decide) (rfl) (by decide) (fun c_26 => ?_) (fun c_26 => ?_)
          · obtain ⟨z_27, q_27, e_27⟩ := i_inc (a := n.toInt) (1) (rfl) (by decide) (by omega) (by omega)
            refine lv_iinc (v := z_27) (lv' := [(1, .int z_27), (0, .ref mm)]) hx hb dX11_seenClause_39 hl (k := 1) rfl q_27 (by decide) rfl (fun ls hl => ?_)
            refine lv_aload_n hx hb dX11_seenClause_42 rfl (lv_at hl 1 rfl) ?_
            refine va_get (D := D) (ci := 11) (v := .ref (q 11)) (C := RX11) (T := TX11) (N := 47) hx hb hts (by decide +kernel) hown hK.1 hP 0 rfl rfl 27 (by decide) (hts (.fieldLink RX11 51 "JugglingHallModel" "marksNow" "[I") (by decide +kernel)) (fun _ h9 => h9) rfl dX11_seenClause_43 ?_
            refine lv_iload_n hx hb dX11_seenClause_46 rfl (lv_at hl 0 rfl) ?_
            refine lv_aload_n hx hb dX11_seenClause_47 rfl (lv_at hl 1 rfl) ?_
            refine va_get (D := D) (ci := 11) (v := .int a7) (C := RX11) (T := TX11) (N := 47) hx hb hts (by decide +kernel) hown hK.1 hP 0 rfl rfl 11 (by decide) (hts (.fieldLink RX11 131 "JugglingHallModel" "token" "I") (by decide +kernel)) (fun _ h9 => h9) rfl dX11_seenClause_48 ?_
            refine lv_bipush (v := 63) hx hb dX11_seenClause_51 (by decide) ?_
            refine a_icmp_ne (u := a7.toInt) (v := 63) (tgt := 61) hx hb dX11_seenClause_53 (by decide) (rfl) (by decide) (fun c_28 => ?_) (fun c_28 => ?_)
            · refine lv_aload_n hx hb dX11_seenClause_61 rfl (lv_at hl 1 rfl) ?_
              refine va_get (D := D) (ci := 11) (v := .int a8) (C := RX11) (T := TX11) (N := 47) hx hb hts (by decide +kernel) hown hK.1 hP 0 rfl rfl 12 (by decide) (hts (.fieldLink RX11 138 "JugglingHallModel" "value" "I") (by decide +kernel)) (fun _ h9 => h9) rfl dX11_seenClause_62 ?_
              refine ma_11 (u := (n.toInt + 1)) hx hb hK hP hD hS dX11_seenClause_65 (e_27) (by omega) (fun g_29 H locs eg_29 hP hD hS => ?_)
              refine lv_aload_n hx hb dX11_seenClause_66 rfl (lv_at hl 1 rfl) ?_
              refine call_g (wr := []) (va_runV (As := []) (rest := []) ⟨hx, hb, hml, hown, hts⟩ (k_next l D cI cR cM _  (by first | assumption | omega) (by first | assumption | omega)) (cwV 0 hts gX11_seenClause_X11_nextToken rfl rfl rfl (by decide +kernel) ⟨Nat.le_of_ble_eq_true rfl, Nat.le_of_ble_eq_true rfl⟩) (pre_V hK hP hD 0 11 rfl rfl) rfl rfl hl.1 rfl (lv_room (Nat.le_of_ble_eq_true rfl)) dX11_seenClause_67 ⟨Nat.le_of_ble_eq_true rfl, Nat.le_of_ble_eq_true rfl⟩) hP hD hS hA [0, 1, 2, 3, 4, 5, 6, 7, 8, 9, 10, 11, 12, 13, 14, 15, 16, 17, 18, 19, 20, 21, 22, 23, 24, 25] [] (by with_unfolding_all rfl) rfl (by decide) (by decide) (fun u_30 H locs hw hP hD hS => ?_)
              obtain ⟨y5_30, y6_30, y7_30, y8_30⟩ := u_30
              have hP : va_P D vwCl (mX mm q jn cI x0 x1 x2 x3 x4 y5_30 y6_30 y7_30 y8_30 x9 x10 x11 x12 x13 x14 x15 x16 x17 x18 x19 x20 f0 f1 f2 f3 f4 f5 f6 f7 f8 f9 f10 g_29 f12 f13 f14 f15 f16 f17 f18 f19 f20 f21 f22 f23 f24) H := hP
              have hD : va_D A (mX mm q jn cI x0 x1 x2 x3 x4 y5_30 y6_30 y7_30 y8_30 x9 x10 x11 x12 x13 x14 x15 x16 x17 x18 x19 x20 f0 f1 f2 f3 f4 f5 f6 f7 f8 f9 f10 g_29 f12 f13 f14 f15 f16 f17 f18 f19 f20 f21 f22 f23 f24) := hD
              obtain ⟨ha_30, hp_30, hk_30, hT_30⟩ : (a5.toInt ≤ y5_30.toInt ∧ y5_30.toInt ≤ x2.toInt) ∧ (0 ≤ y6_30.toInt ∧ y6_30.toInt ≤ 300) ∧ (y7_30.toInt = 0 ∨ a5.toInt < y5_30.toInt) ∧ (TokOK y7_30 y8_30) := hw
              refine lv_goto (tgt := 6) hx hb dX11_seenClause_70 (by decide) ?_
              exact ih6 z_27 y5_30 y6_30 y7_30 y8_30 g_29 _ _ _ (by omega) (by first | assumption | omega) (by first | assumption | omega) (by first | assumption | omega) (fun i i1 i2 => by
                by_cases q : i = (n.toInt + 1)
                · rw [eg_29, q, pk_us]
                  first
                    | decide
                    | (have h9 := hT.2.1 (by omega); omega)
                · rw [eg_29, un_i (by omega) (by omega) (by omega)]; exact hM i i1 i2) hP hD hS (lv_sub hl [1, 0] rfl)
            · refine lv_bipush (v := 10) hx hb dX11_seenClause_56 (by decide) ?_
              refine lv_goto (tgt := 65) hx hb dX11_seenClause_58 (by decide) ?_
              refine ma_11 (u := (n.toInt + 1)) hx hb hK hP hD hS dX11_seenClause_65 (e_27) (by omega) (fun g_31 H locs eg_31 hP hD hS => ?_)
              refine lv_aload_n hx hb dX11_seenClause_66 rfl (lv_at hl 1 rfl) ?_
              refine call_g (wr := []) (va_runV (As := []) (rest := []) ⟨hx, hb, hml, hown, hts⟩ (k_next l D cI cR cM _  (by first | assumption | omega) (by first | assumption | omega)) (cwV 0 hts gX11_seenClause_X11_nextToken rfl rfl rfl (by decide +kernel) ⟨Nat.le_of_ble_eq_true rfl, Nat.le_of_ble_eq_true rfl⟩) (pre_V hK hP hD 0 11 rfl rfl) rfl rfl hl.1 rfl (lv_room (Nat.le_of_ble_eq_true rfl)) dX11_seenClause_67 ⟨Nat.le_of_ble_eq_true rfl, Nat.le_of_ble_eq_true rfl⟩) hP hD hS hA [0, 1, 2, 3, 4, 5, 6, 7, 8, 9, 10, 11, 12, 13, 14, 15, 16, 17, 18, 19, 20, 21, 22, 23, 24, 25] [] (by with_unfolding_all rfl) rfl (by decide) (by decide) (fun u_32 H locs hw hP hD hS => ?_)
              obtain ⟨y5_32, y6_32, y7_32, y8_32⟩ := u_32
              have hP : va_P D vwCl (mX mm q jn cI x0 x1 x2 x3 x4 y5_32 y6_32 y7_32 y8_32 x9 x10 x11 x12 x13 x14 x15 x16 x17 x18 x19 x20 f0 f1 f2 f3 f4 f5 f6 f7 f8 f9 f10 g_31 f12 f13 f14 f15 f16 f17 f18 f19 f20 f21 f22 f23 f24) H := hP
              have hD : va_D A (mX mm q jn cI x0 x1 x2 x3 x4 y5_32 y6_32 y7_32 y8_32 x9 x10 x11 x12 x13 x14 x15 x16 x17 x18 x19 x20 f0 f1 f2 f3 f4 f5 f6 f7 f8 f9 f10 g_31 f12 f13 f14 f15 f16 f17 f18 f19 f20 f21 f22 f23 f24) := hD
              obtain ⟨ha_32, hp_32, hk_32, hT_32⟩ : (a5.toInt ≤ y5_32.toInt ∧ y5_32.toInt ≤ x2.toInt) ∧ (0 ≤ y6_32.toInt ∧ y6_32.toInt ≤ 300) ∧ (y7_32.toInt = 0 ∨ a5.toInt < y5_32.toInt) ∧ (TokOK y7_32 y8_32) := hw
              refine lv_goto (tgt := 6) hx hb dX11_seenClause_70 (by decide) ?_
              exact ih6 z_27 y5_32 y6_32 y7_32 y8_32 g_31 _ _ _ (by omega) (by first | assumption | omega) (by first | assumption | omega) (by first | assumption | omega) (fun i i1 i2 => by
                by_cases q : i = (n.toInt + 1)
                · rw [eg_31, q, pk_us]
                  first
                    | decide
                    | (have h9 := hT.2.1 (by omega); omega)
                · rw [eg_31, un_i (by omega) (by omega) (by omega)]; exact hM i i1 i2) hP hD hS (lv_sub hl [1, 0] rfl)
          · refine lv_aload_n hx hb dX11_seenClause_29 rfl (lv_at hl 0 rfl) ?_
            refine lv_iconst (v := 4) hx hb dX11_seenClause_30 (by decide) ?_
            refine lv_aload_n hx hb dX11_seenClause_31 rfl (lv_at hl 0 rfl) ?_
            refine va_get (D := D) (ci := 11) (v := .int a6) (C := RX11) (T := TX11) (N := 47) hx hb hts (by decide +kernel) hown hK.1 hP 0 rfl rfl 10 (by decide) (hts (.fieldLink RX11 120 "JugglingHallModel" "place" "I") (by decide +kernel)) (fun _ h9 => h9) rfl dX11_seenClause_32 ?_
            have hz_33 : (4 : Int32).toInt = 4 := by decide
            refine call_g (wr := []) (va_runV (As := [.int 4, .int a6]) (rest := []) ⟨hx, hb, hml, hown, hts⟩ (k_fails l D cI cR cM _  ) (cwV 2 hts gX11_seenClause_X11_fails rfl rfl rfl (by decide +kernel) ⟨Nat.le_of_ble_eq_true rfl, Nat.le_of_ble_eq_true rfl⟩) (pre_V hK hP hD 0 11 rfl rfl) rfl rfl hl.1 rfl (lv_room (Nat.le_of_ble_eq_true rfl)) dX11_seenClause_35 ⟨Nat.le_of_ble_eq_true rfl, Nat.le_of_ble_eq_true rfl⟩) hP hD hS hA [0, 1, 2, 3, 4, 5, 6, 7, 8, 9, 10, 11, 12, 13, 14, 15, 16, 17, 18, 19, 20, 21, 22, 23, 24, 25] [] (by with_unfolding_all rfl) rfl (by decide) (by decide) (fun u_34 H locs hw hP hD hS => ?_)
            obtain ⟨r_34, y9_34⟩ := u_34
            have hP : va_P D vwCl (mX mm q jn cI x0 x1 x2 x3 x4 a5 a6 a7 a8 y9_34 x10 x11 x12 x13 x14 x15 x16 x17 x18 x19 x20 f0 f1 f2 f3 f4 f5 f6 f7 f8 f9 f10 q11 f12 f13 f14 f15 f16 f17 f18 f19 f20 f21 f22 f23 f24) H := hP
            have hD : va_D A (mX mm q jn cI x0 x1 x2 x3 x4 a5 a6 a7 a8 y9_34 x10 x11 x12 x13 x14 x15 x16 x17 x18 x19 x20 f0 f1 f2 f3 f4 f5 f6 f7 f8 f9 f10 q11 f12 f13 f14 f15 f16 f17 f18 f19 f20 f21 f22 f23 f24) := hD
            have hr_34 : (r_34.toInt = (4 : Int32).toInt) := hw
            exact g_iret (r_34, a5, a6, a7, a8, y9_34, f10, q11) hx hb hr hlocks hS rfl (⟨show x5.toInt ≤ a5.toInt ∧ a5.toInt ≤ x2.toInt from (by first | assumption | omega), show TokOK a7 a8 from (by first | assumption | omega), show MK q11 from (hM), show FM f10 from (hFm)⟩) hP hD hQ (Nat.le_of_ble_eq_true rfl) (Nat.le_of_ble_eq_true rfl) dX11_seenClause_38
  have hz_35 : (0 : Int32).toInt = 0 := by decide
  exact loop6 ((2 * (x2.toInt - y5_1.toInt) + (if y7_1.toInt = 0 then 0 else 1)).toNat + 1) (0 : Int32) y5_1 y6_1 y7_1 y8_1 f11 _ _ _ (by omega) (by first | assumption | omega) (by first | assumption | omega) (by first | assumption | omega) (hM) hP hD hS (lv_sub hl [1, 0] rfl)
set_option maxRecDepth 100000 in
set_option maxHeartbeats 4000000 in
theorem k_rowClause (l : Launch) (D : va_G) (cI cR cM : ClassId) (sz : Nat) {jn mm : Nat} {q : Nat → Nat} {x0 x1 x2 x3 x4 x5 x6 x7 x8 x9 x10 x11 x12 x13 x14 x15 x16 x17 x18 x19 x20 : Int32} {f0 f1 f2 f3 f4 f5 f6 f7 f8 f9 f10 f11 f12 f13 f14 f15 f16 f17 f18 f19 f20 f21 f22 f23 f24 : Nat → Int32}  (ht : 0 ≤ x2.toInt ∧ x2.toInt ≤ 300) (h5 : 0 ≤ x5.toInt ∧ x5.toInt ≤ x2.toInt) (hT : TokOK x7 x8) (hj : 1 ≤ jn ∧ jn ≤ 3) (h0 : 0 ≤ x0.toInt ∧ x0.toInt ≤ 60) (hR : RowsX jn f0) (hFr : FreshX jn f8 f9) (hRZ : RowsZ jn f0) (hFZ : FreshZ jn f8 f9) : Met l yX11_rowClause wsX11_rowClause ({ frames := 8, cells := 0, slots := 0, locals := 180 }) (P0 D cI cR cM [.ref mm] sz (mX mm q jn cI x0 x1 x2 x3 x4 x5 x6 x7 x8 x9 x10 x11 x12 x13 x14 x15 x16 x17 x18 x19 x20 f0 f1 f2 f3 f4 f5 f6 f7 f8 f9 f10 f11 f12 f13 f14 f15 f16 f17 f18 f19 f20 f21 f22 f23 f24)) (QG (S := Int32 × Int32 × Int32 × Int32 × Int32 × Int32 × Int32 × Int32 × Int32 × Int32 × Int32 × (Nat → Int32) × (Nat → Int32) × (Nat → Int32) × (Nat → Int32) × (Nat → Int32) × (Nat → Int32) × (Nat → Int32)) (fun u => some (.int u.1)) (fun u => mX mm q jn cI x0 x1 x2 x3 x4 (u.2.1) (u.2.2.1) (u.2.2.2.1) (u.2.2.2.2.1) (u.2.2.2.2.2.1) (u.2.2.2.2.2.2.1) (u.2.2.2.2.2.2.2.1) (u.2.2.2.2.2.2.2.2.1) (u.2.2.2.2.2.2.2.2.2.1) (u.2.2.2.2.2.2.2.2.2.2.1) x15 x16 x17 x18 x19 x20 f0 f1 f2 (u.2.2.2.2.2.2.2.2.2.2.2.1) (u.2.2.2.2.2.2.2.2.2.2.2.2.1) (u.2.2.2.2.2.2.2.2.2.2.2.2.2.1) (u.2.2.2.2.2.2.2.2.2.2.2.2.2.2.1) (u.2.2.2.2.2.2.2.2.2.2.2.2.2.2.2.1) (u.2.2.2.2.2.2.2.2.2.2.2.2.2.2.2.2.1) (u.2.2.2.2.2.2.2.2.2.2.2.2.2.2.2.2.2) f10 f11 f12 f13 f14 f15 f16 f17 f18 f19 f20 f21 f22 f23 f24) (fun u => (x5.toInt ≤ u.2.1.toInt ∧ u.2.1.toInt ≤ x2.toInt) ∧ (TokOK u.2.2.2.1 u.2.2.2.2.1) ∧ (FreshX jn u.2.2.2.2.2.2.2.2.2.2.2.2.2.2.2.2.1 u.2.2.2.2.2.2.2.2.2.2.2.2.2.2.2.2.2) ∧ (FreshZ jn u.2.2.2.2.2.2.2.2.2.2.2.2.2.2.2.2.1 u.2.2.2.2.2.2.2.2.2.2.2.2.2.2.2.2.2)) D (va_A (mX mm q jn cI x0 x1 x2 x3 x4 x5 x6 x7 x8 x9 x10 x11 x12 x13 x14 x15 x16 x17 x18 x19 x20 f0 f1 f2 f3 f4 f5 f6 f7 f8 f9 f10 f11 f12 f13 f14 f15 f16 f17 f18 f19 f20 f21 f22 f23 f24) sz)) 0 0 (va_A (mX mm q jn cI x0 x1 x2 x3 x4 x5 x6 x7 x8 x9 x10 x11 x12 x13 x14 x15 x16 x17 x18 x19 x20 f0 f1 f2 f3 f4 f5 f6 f7 f8 f9 f10 f11 f12 f13 f14 f15 f16 f17 f18 f19 f20 f21 f22 f23 f24) sz) := by
  refine go (cc := cX11_rowClause) (maxL := 4) (ret := (some .int)) (by decide) rfl (Nat.le_of_ble_eq_true rfl) ?_
  intro p e s m below meth c ls args Q hQ hsz hx hb hr hml hts hown hlocks hnm hP hK hD hl
  subst hsz
  have hD := hD.self (sz := s.heap.size)
  generalize hAe : va_A (mX mm q jn cI x0 x1 x2 x3 x4 x5 x6 x7 x8 x9 x10 x11 x12 x13 x14 x15 x16 x17 x18 x19 x20 f0 f1 f2 f3 f4 f5 f6 f7 f8 f9 f10 f11 f12 f13 f14 f15 f16 f17 f18 f19 f20 f21 f22 f23 f24) s.heap.size = A at hD hQ
  have hA : ∀ q, s.heap.size ≤ q → A q := fun q h => by rw [← hAe]; exact Or.inr h
  have hS : va_S A s.heap s.heap [] := va_S.rf
  have hl : lv_has ls 4 [(0, .ref mm)] := hl
  refine lv_aload_n hx hb dX11_rowClause_0 rfl (lv_at hl 0 rfl) ?_
  refine call_g (wr := []) (va_runV (As := []) (rest := []) ⟨hx, hb, hml, hown, hts⟩ (k_next l D cI cR cM _  (by first | assumption | omega) (by first | assumption | omega)) (cwV 0 hts gX11_rowClause_X11_nextToken rfl rfl rfl (by decide +kernel) ⟨Nat.le_of_ble_eq_true rfl, Nat.le_of_ble_eq_true rfl⟩) (pre_V hK hP hD 0 11 rfl rfl) rfl rfl hl.1 rfl (lv_room (Nat.le_of_ble_eq_true rfl)) dX11_rowClause_1 ⟨Nat.le_of_ble_eq_true rfl, Nat.le_of_ble_eq_true rfl⟩) hP hD hS hA [0, 1, 2, 3, 4, 5, 6, 7, 8, 9, 10, 11, 12, 13, 14, 15, 16, 17, 18, 19, 20, 21, 22, 23, 24, 25] [] (by with_unfolding_all rfl) rfl (by decide) (by decide) (fun u_1 H locs hw hP hD hS => ?_)
  obtain ⟨y5_1, y6_1, y7_1, y8_1⟩ := u_1
  have hP : va_P D vwCl (mX mm q jn cI x0 x1 x2 x3 x4 y5_1 y6_1 y7_1 y8_1 x9 x10 x11 x12 x13 x14 x15 x16 x17 x18 x19 x20 f0 f1 f2 f3 f4 f5 f6 f7 f8 f9 f10 f11 f12 f13 f14 f15 f16 f17 f18 f19 f20 f21 f22 f23 f24) H := hP
  have hD : va_D A (mX mm q jn cI x0 x1 x2 x3 x4 y5_1 y6_1 y7_1 y8_1 x9 x10 x11 x12 x13 x14 x15 x16 x17 x18 x19 x20 f0 f1 f2 f3 f4 f5 f6 f7 f8 f9 f10 f11 f12 f13 f14 f15 f16 f17 f18 f19 f20 f21 f22 f23 f24) := hD
  obtain ⟨ha_1, hp_1, hk_1, hT_1⟩ : (x5.toInt ≤ y5_1.toInt ∧ y5_1.toInt ≤ x2.toInt) ∧ (0 ≤ y6_1.toInt ∧ y6_1.toInt ≤ 300) ∧ (y7_1.toInt = 0 ∨ x5.toInt < y5_1.toInt) ∧ (TokOK y7_1 y8_1) := hw
  refine lv_aload_n hx hb dX11_rowClause_4 rfl (lv_at hl 0 rfl) ?_
  refine va_get (D := D) (ci := 11) (v := .int y7_1) (C := RX11) (T := TX11) (N := 47) hx hb hts (by decide +kernel) hown hK.1 hP 0 rfl rfl 11 (by decide) (hts (.fieldLink RX11 131 "JugglingHallModel" "token" "I") (by decide +kernel)) (fun _ h9 => h9) rfl dX11_rowClause_5 ?_
  refine lv_iconst (v := 2) hx hb dX11_rowClause_8 (by decide) ?_
  refine a_icmp_eq (u := y7_1.toInt) (v := 2) (tgt := 22) hx hb dX11_rowClause_9 (by decide) (rfl) (by decide) (fun c_2 => ?_) (fun c_2 => ?_)
  · refine lv_aload_n hx hb dX11_rowClause_22 rfl (lv_at hl 0 rfl) ?_
    refine va_get (D := D) (ci := 11) (v := .int y8_1) (C := RX11) (T := TX11) (N := 47) hx hb hts (by decide +kernel) hown hK.1 hP 0 rfl rfl 12 (by decide) (hts (.fieldLink RX11 138 "JugglingHallModel" "value" "I") (by decide +kernel)) (fun _ h9 => h9) rfl dX11_rowClause_23 ?_
    have hl9 : 0 ≤ y8_1.toInt ∧ y8_1.toInt ≤ 7 := hT_1.2.2 (by omega)
    refine lv_istore_n (lv' := [(1, .int y8_1), (0, .ref mm)]) hx hb dX11_rowClause_26 rfl hl (by decide) rfl (fun ls hl => ?_)
    refine lv_aload_n hx hb dX11_rowClause_27 rfl (lv_at hl 1 rfl) ?_
    refine call_g (wr := []) (va_runV (As := []) (rest := []) ⟨hx, hb, hml, hown, hts⟩ (k_next l D cI cR cM _  (by first | assumption | omega) (by first | assumption | omega)) (cwV 0 hts gX11_rowClause_X11_nextToken rfl rfl rfl (by decide +kernel) ⟨Nat.le_of_ble_eq_true rfl, Nat.le_of_ble_eq_true rfl⟩) (pre_V hK hP hD 0 11 rfl rfl) rfl rfl hl.1 rfl (lv_room (Nat.le_of_ble_eq_true rfl)) dX11_rowClause_28 ⟨Nat.le_of_ble_eq_true rfl, Nat.le_of_ble_eq_true rfl⟩) hP hD hS hA [0, 1, 2, 3, 4, 5, 6, 7, 8, 9, 10, 11, 12, 13, 14, 15, 16, 17, 18, 19, 20, 21, 22, 23, 24, 25] [] (by with_unfolding_all rfl) rfl (by decide) (by decide) (fun u_3 H locs hw hP hD hS => ?_)
    obtain ⟨y5_3, y6_3, y7_3, y8_3⟩ := u_3
    have hP : va_P D vwCl (mX mm q jn cI x0 x1 x2 x3 x4 y5_3 y6_3 y7_3 y8_3 x9 x10 x11 x12 x13 x14 x15 x16 x17 x18 x19 x20 f0 f1 f2 f3 f4 f5 f6 f7 f8 f9 f10 f11 f12 f13 f14 f15 f16 f17 f18 f19 f20 f21 f22 f23 f24) H := hP
    have hD : va_D A (mX mm q jn cI x0 x1 x2 x3 x4 y5_3 y6_3 y7_3 y8_3 x9 x10 x11 x12 x13 x14 x15 x16 x17 x18 x19 x20 f0 f1 f2 f3 f4 f5 f6 f7 f8 f9 f10 f11 f12 f13 f14 f15 f16 f17 f18 f19 f20 f21 f22 f23 f24) := hD
    obtain ⟨ha_3, hp_3, hk_3, hT_3⟩ : (y5_1.toInt ≤ y5_3.toInt ∧ y5_3.toInt ≤ x2.toInt) ∧ (0 ≤ y6_3.toInt ∧ y6_3.toInt ≤ 300) ∧ (y7_3.toInt = 0 ∨ y5_1.toInt < y5_3.toInt) ∧ (TokOK y7_3 y8_3) := hw
    refine lv_aload_n hx hb dX11_rowClause_31 rfl (lv_at hl 1 rfl) ?_
    refine va_get (D := D) (ci := 11) (v := .int y7_3) (C := RX11) (T := TX11) (N := 47) hx hb hts (by decide +kernel) hown hK.1 hP 0 rfl rfl 11 (by decide) (hts (.fieldLink RX11 131 "JugglingHallModel" "token" "I") (by decide +kernel)) (fun _ h9 => h9) rfl dX11_rowClause_32 ?_
    refine lv_bipush (v := 61) hx hb dX11_rowClause_35 (by decide) ?_
    refine a_icmp_eq (u := y7_3.toInt) (v := 61) (tgt := 50) hx hb dX11_rowClause_37 (by decide) (rfl) (by decide) (fun c_4 => ?_) (fun c_4 => ?_)
    · refine lv_aload_n hx hb dX11_rowClause_50 rfl (lv_at hl 1 rfl) ?_
      refine call_g (wr := []) (va_runV (As := []) (rest := []) ⟨hx, hb, hml, hown, hts⟩ (k_next l D cI cR cM _  (by first | assumption | omega) (by first | assumption | omega)) (cwV 0 hts gX11_rowClause_X11_nextToken rfl rfl rfl (by decide +kernel) ⟨Nat.le_of_ble_eq_true rfl, Nat.le_of_ble_eq_true rfl⟩) (pre_V hK hP hD 0 11 rfl rfl) rfl rfl hl.1 rfl (lv_room (Nat.le_of_ble_eq_true rfl)) dX11_rowClause_51 ⟨Nat.le_of_ble_eq_true rfl, Nat.le_of_ble_eq_true rfl⟩) hP hD hS hA [0, 1, 2, 3, 4, 5, 6, 7, 8, 9, 10, 11, 12, 13, 14, 15, 16, 17, 18, 19, 20, 21, 22, 23, 24, 25] [] (by with_unfolding_all rfl) rfl (by decide) (by decide) (fun u_5 H locs hw hP hD hS => ?_)
      obtain ⟨y5_5, y6_5, y7_5, y8_5⟩ := u_5
      have hP : va_P D vwCl (mX mm q jn cI x0 x1 x2 x3 x4 y5_5 y6_5 y7_5 y8_5 x9 x10 x11 x12 x13 x14 x15 x16 x17 x18 x19 x20 f0 f1 f2 f3 f4 f5 f6 f7 f8 f9 f10 f11 f12 f13 f14 f15 f16 f17 f18 f19 f20 f21 f22 f23 f24) H := hP
      have hD : va_D A (mX mm q jn cI x0 x1 x2 x3 x4 y5_5 y6_5 y7_5 y8_5 x9 x10 x11 x12 x13 x14 x15 x16 x17 x18 x19 x20 f0 f1 f2 f3 f4 f5 f6 f7 f8 f9 f10 f11 f12 f13 f14 f15 f16 f17 f18 f19 f20 f21 f22 f23 f24) := hD
      obtain ⟨ha_5, hp_5, hk_5, hT_5⟩ : (y5_3.toInt ≤ y5_5.toInt ∧ y5_5.toInt ≤ x2.toInt) ∧ (0 ≤ y6_5.toInt ∧ y6_5.toInt ≤ 300) ∧ (y7_5.toInt = 0 ∨ y5_3.toInt < y5_5.toInt) ∧ (TokOK y7_5 y8_5) := hw
      refine lv_aload_n hx hb dX11_rowClause_54 rfl (lv_at hl 1 rfl) ?_
      refine call_g (wr := []) (va_runV (As := []) (rest := []) ⟨hx, hb, hml, hown, hts⟩ (k_sequence l D cI cR cM _  (by first | assumption | omega) (by first | assumption | omega) (by first | assumption | omega) (by first | assumption | omega) (by first | assumption | omega) (by first | assumption | omega) (by first | assumption | omega) (by first | assumption | omega) (by first | assumption | omega)) (cwV 0 hts gX11_rowClause_X11_sequence rfl rfl rfl (by decide +kernel) ⟨Nat.le_of_ble_eq_true rfl, Nat.le_of_ble_eq_true rfl⟩) (pre_V hK hP hD 0 11 rfl rfl) rfl rfl hl.1 rfl (lv_room (Nat.le_of_ble_eq_true rfl)) dX11_rowClause_55 ⟨Nat.le_of_ble_eq_true rfl, Nat.le_of_ble_eq_true rfl⟩) hP hD hS hA [0, 1, 2, 3, 4, 5, 6, 7, 8, 9, 10, 11, 12, 13, 14, 15, 16, 17, 18, 19, 20, 21, 22, 23, 24, 25] [] (by with_unfolding_all rfl) rfl (by decide) (by decide) (fun u_6 H locs hw hP hD hS => ?_)
      obtain ⟨r_6, y5_6, y6_6, y7_6, y8_6, y9_6, y10_6, y11_6, y12_6, y13_6, y14_6, g3_6, g4_6, g5_6, g6_6, g7_6⟩ := u_6
      have hP : va_P D vwCl (mX mm q jn cI x0 x1 x2 x3 x4 y5_6 y6_6 y7_6 y8_6 y9_6 y10_6 y11_6 y12_6 y13_6 y14_6 x15 x16 x17 x18 x19 x20 f0 f1 f2 g3_6 g4_6 g5_6 g6_6 g7_6 f8 f9 f10 f11 f12 f13 f14 f15 f16 f17 f18 f19 f20 f21 f22 f23 f24) H := hP
      have hD : va_D A (mX mm q jn cI x0 x1 x2 x3 x4 y5_6 y6_6 y7_6 y8_6 y9_6 y10_6 y11_6 y12_6 y13_6 y14_6 x15 x16 x17 x18 x19 x20 f0 f1 f2 g3_6 g4_6 g5_6 g6_6 g7_6 f8 f9 f10 f11 f12 f13 f14 f15 f16 f17 f18 f19 f20 f21 f22 f23 f24) := hD
      obtain ⟨ha_6, hT_6, hb_6, hC_6, hZ_6⟩ : (y5_5.toInt ≤ y5_6.toInt ∧ y5_6.toInt ≤ x2.toInt) ∧ (TokOK y7_6 y8_6) ∧ (r_6.toInt = 0 → 0 ≤ y10_6.toInt ∧ y10_6.toInt ≤ 24) ∧ (r_6.toInt = 0 → CellsX jn g3_6 0 (6 * y10_6.toInt)) ∧ (r_6.toInt = 0 → ZX jn g3_6 0 y10_6.toInt) := hw
      refine lv_istore_n (lv' := [(2, .int r_6), (1, .int y8_1), (0, .ref mm)]) hx hb dX11_rowClause_58 rfl hl (by decide) rfl (fun ls hl => ?_)
      refine lv_iload_n hx hb dX11_rowClause_59 rfl (lv_at hl 0 rfl) ?_
      refine a_if_eq (u := r_6.toInt) (tgt := 65) hx hb dX11_rowClause_60 (by decide) (rfl) (fun c_7 => ?_) (fun c_7 => ?_)
      · refine lv_aload_n hx hb dX11_rowClause_65 rfl (lv_at hl 2 rfl) ?_
        refine va_get (D := D) (ci := 11) (v := .int y7_6) (C := RX11) (T := TX11) (N := 47) hx hb hts (by decide +kernel) hown hK.1 hP 0 rfl rfl 11 (by decide) (hts (.fieldLink RX11 131 "JugglingHallModel" "token" "I") (by decide +kernel)) (fun _ h9 => h9) rfl dX11_rowClause_66 ?_
        refine lv_bipush (v := 59) hx hb dX11_rowClause_69 (by decide) ?_
        refine a_icmp_eq (u := y7_6.toInt) (v := 59) (tgt := 84) hx hb dX11_rowClause_71 (by decide) (rfl) (by decide) (fun c_8 => ?_) (fun c_8 => ?_)
        · have ht9 := hb_6 (by omega)
          have hC9 := hC_6 (by omega)
          have hZ9 := hZ_6 (by omega)
          refine lv_aload_n hx hb dX11_rowClause_84 rfl (lv_at hl 2 rfl) ?_
          refine va_get (D := D) (ci := 11) (v := .ref (q 8)) (C := RX11) (T := TX11) (N := 47) hx hb hts (by decide +kernel) hown hK.1 hP 0 rfl rfl 22 (by decide) (hts (.fieldLink RX11 42 "JugglingHallModel" "freshMany" "[I") (by decide +kernel)) (fun _ h9 => h9) rfl dX11_rowClause_85 ?_
          refine lv_iload_n hx hb dX11_rowClause_88 rfl (lv_at hl 1 rfl) ?_
          refine lv_aload_n hx hb dX11_rowClause_89 rfl (lv_at hl 2 rfl) ?_
          refine va_get (D := D) (ci := 11) (v := .int y10_6) (C := RX11) (T := TX11) (N := 47) hx hb hts (by decide +kernel) hown hK.1 hP 0 rfl rfl 19 (by decide) (hts (.fieldLink RX11 151 "JugglingHallModel" "top" "I") (by decide +kernel)) (fun _ h9 => h9) rfl dX11_rowClause_90 ?_
          refine ma_8 (u := y8_1.toInt) hx hb hK hP hD hS dX11_rowClause_93 (rfl) (by omega) (fun g_9 H locs eg_9 hP hD hS => ?_)
          have hm1 : ∀ i : Int, 0 ≤ i → i ≠ y8_1.toInt → g_9 i.toNat = f8 i.toNat := fun i i0 i1 => by rw [eg_9, un_i i0 (by omega) (by omega)]
          have hm2 : (g_9 y8_1.toInt.toNat).toInt = y10_6.toInt := by rw [eg_9, show y8_1.toInt = y8_1.toInt by omega, pk_us]
          refine lv_iconst (v := 0) hx hb dX11_rowClause_94 (by decide) ?_
          refine lv_istore_n (lv' := [(3, .int 0), (2, .int r_6), (1, .int y8_1), (0, .ref mm)]) hx hb dX11_rowClause_95 rfl hl (by decide) rfl (fun ls hl => ?_)
          have loop96 : ∀ (ddloop96 : Nat) (k : Int32) (ga : (Nat → Int32)) (H : Heap) (locs : List Loc) (ls : Array Slot), (6 * y10_6.toInt - k.toInt).toNat < ddloop96 → (0 ≤ k.toInt ∧ k.toInt ≤ 6 * y10_6.toInt) → (∀ i : Int, 0 ≤ i → (i < 144 * y8_1.toInt ∨ 144 * y8_1.toInt + 144 ≤ i) → ga i.toNat = f9 i.toNat) → (∀ i : Int, 0 ≤ i → i < k.toInt → ga (144 * y8_1.toInt + i).toNat = g3_6 i.toNat) → va_P D vwCl (mX mm q jn cI x0 x1 x2 x3 x4 y5_6 y6_6 y7_6 y8_6 y9_6 y10_6 y11_6 y12_6 y13_6 y14_6 x15 x16 x17 x18 x19 x20 f0 f1 f2 g3_6 g4_6 g5_6 g6_6 g7_6 g_9 ga f10 f11 f12 f13 f14 f15 f16 f17 f18 f19 f20 f21 f22 f23 f24) H → va_D A (mX mm q jn cI x0 x1 x2 x3 x4 y5_6 y6_6 y7_6 y8_6 y9_6 y10_6 y11_6 y12_6 y13_6 y14_6 x15 x16 x17 x18 x19 x20 f0 f1 f2 g3_6 g4_6 g5_6 g6_6 g7_6 g_9 ga f10 f11 f12 f13 f14 f15 f16 f17 f18 f19 f20 f21 f22 f23 f24) → va_S A s.heap H locs → lv_has ls 4 [(0, .ref mm), (1, .int y8_1), (2, .int r_6), (3, .int k)] → W p l e ({ frames := 8, cells := 0, slots := 0, locals := 180 }) s m args below meth c H locs 0 0 Q (F0 m 96 ls []) := by
            intro ddloop96
            induction ddloop96 with
            | zero =>
              intro k ga H locs ls hdd
              exact absurd hdd (Nat.not_lt_zero _)
            | succ ddloop96 ih96 =>
              intro k ga H locs ls hdd hk hgo hgc hP hD hS hl
              refine lv_iload_n hx hb dX11_rowClause_96 rfl (lv_at hl 3 rfl) ?_
              refine lv_bipush (v := 6) hx hb dX11_rowClause_97 (by decide) ?_
              refine lv_aload_n hx hb dX11_rowClause_99 rfl (lv_at hl 0 rfl) ?_
              refine va_get (D := D) (ci := 11) (v := .int y10_6) (C := RX11) (T := TX11) (N := 47) hx hb hts (by decide +kernel) hown hK.1 hP 0 rfl rfl 19 (by decide) (hts (.fieldLink RX11 151 "JugglingHallModel" "top" "I") (by decide +kernel)) (fun _ h9 => h9) rfl dX11_rowClause_100 ?_
              refine a_imul (u := 6) (v := y10_6.toInt) hx hb dX11_rowClause_103 (by decide) (rfl) (by omega) (fun z_10 e_10 => ?_)
              refine a_icmp_ge (u := k.toInt) (v := (6 * y10_6.toInt)) (tgt := 131) hx hb dX11_rowClause_104 (by decide) (rfl) (e_10) (fun c_11 => ?_) (fun c_11 => ?_)
              · refine lv_iconst (v := 0) hx hb dX11_rowClause_131 (by decide) ?_
                have hz_12 : (0 : Int32).toInt = 0 := by decide
                exact g_iret ((0 : Int32), y5_6, y6_6, y7_6, y8_6, y9_6, y10_6, y11_6, y12_6, y13_6, y14_6, g3_6, g4_6, g5_6, g6_6, g7_6, g_9, ga) hx hb hr hlocks hS rfl (⟨show x5.toInt ≤ y5_6.toInt ∧ y5_6.toInt ≤ x2.toInt from (by first | assumption | omega), show TokOK y7_6 y8_6 from (by first | assumption | omega), show FreshX jn g_9 ga from (fresh_set hFr (l := y8_1.toInt) (t := y10_6.toInt) (by omega) (by omega) hm1 hm2 hgo (fun i i0 i1 => hgc i i0 (by omega)) hC9), show FreshZ jn g_9 ga from (freshz_set hFr hFZ (l := y8_1.toInt) (t := y10_6.toInt) (by omega) (by omega) hm1 hm2 hgo (fun i i0 i1 => hgc i i0 (by omega)) hZ9)⟩) hP hD hQ (Nat.le_of_ble_eq_true rfl) (Nat.le_of_ble_eq_true rfl) dX11_rowClause_132
              · refine lv_aload_n hx hb dX11_rowClause_107 rfl (lv_at hl 0 rfl) ?_
                refine va_get (D := D) (ci := 11) (v := .ref (q 9)) (C := RX11) (T := TX11) (N := 47) hx hb hts (by decide +kernel) hown hK.1 hP 0 rfl rfl 23 (by decide) (hts (.fieldLink RX11 45 "JugglingHallModel" "fresh" "[I") (by decide +kernel)) (fun _ h9 => h9) rfl dX11_rowClause_108 ?_
                refine lv_sipush (v := 144) hx hb dX11_rowClause_111 (by decide) ?_
                refine lv_iload_n hx hb dX11_rowClause_114 rfl (lv_at hl 1 rfl) ?_
                refine a_imul (u := 144) (v := y8_1.toInt) hx hb dX11_rowClause_115 (by decide) (rfl) (by omega) (fun z_13 e_13 => ?_)
                refine lv_iload_n hx hb dX11_rowClause_116 rfl (lv_at hl 3 rfl) ?_
                refine a_iadd (u := (144 * y8_1.toInt)) (v := k.toInt) hx hb dX11_rowClause_117 (e_13) (rfl) (by omega) (fun z_14 e_14 => ?_)
                refine lv_aload_n hx hb dX11_rowClause_118 rfl (lv_at hl 0 rfl) ?_
                refine va_get (D := D) (ci := 11) (v := .ref (q 3)) (C := RX11) (T := TX11) (N := 47) hx hb hts (by decide +kernel) hown hK.1 hP 0 rfl rfl 14 (by decide) (hts (.fieldLink RX11 27 "JugglingHallModel" "work" "[I") (by decide +kernel)) (fun _ h9 => h9) rfl dX11_rowClause_119 ?_
                refine lv_iload_n hx hb dX11_rowClause_122 rfl (lv_at hl 3 rfl) ?_
                refine a_iald (f := g3_6) (u := k.toInt) hx hb hK.1 hP 4 0 rfl rfl dX11_rowClause_123 (rfl) (by omega) (fun z_15 q_15 e_15 => ?_)
                refine ma_9 (u := ((144 * y8_1.toInt) + k.toInt)) hx hb hK hP hD hS dX11_rowClause_124 (e_14) (by omega) (fun g_16 H locs eg_16 hP hD hS => ?_)
                obtain ⟨z_17, q_17, e_17⟩ := i_inc (a := k.toInt) (1) (rfl) (by decide) (by omega) (by omega)
                refine lv_iinc (v := z_17) (lv' := [(3, .int z_17), (0, .ref mm), (1, .int y8_1), (2, .int r_6)]) hx hb dX11_rowClause_125 hl (k := 3) rfl q_17 (by decide) rfl (fun ls hl => ?_)
                refine lv_goto (tgt := 96) hx hb dX11_rowClause_128 (by decide) ?_
                exact ih96 z_17 g_16 _ _ _ (by omega) (by first | assumption | omega) (fun i i0 i1 => by rw [eg_16, un_i i0 (by omega) (by omega)]; exact hgo i i0 i1) (fun i i0 i1 => by
                  by_cases q : i = k.toInt
                  · rw [eg_16, q, show 144 * y8_1.toInt + k.toInt = ((144 * y8_1.toInt) + k.toInt) by omega, pk_us, q_15, show k.toInt = k.toInt by omega]
                  · rw [eg_16, un_i (by omega) (by omega) (by omega)]; exact hgc i i0 (by omega)) hP hD hS (lv_sub hl [1, 2, 3, 0] rfl)
          have hz_18 : (0 : Int32).toInt = 0 := by decide
          exact loop96 ((6 * y10_6.toInt - (0 : Int32).toInt).toNat + 1) (0 : Int32) f9 _ _ _ (by omega) (by first | assumption | omega) (fun _ _ _ => rfl) (fun i i0 i1 => absurd i1 (by omega)) hP hD hS (lv_sub hl [3, 2, 1, 0] rfl)
        · refine lv_aload_n hx hb dX11_rowClause_74 rfl (lv_at hl 2 rfl) ?_
          refine lv_iconst (v := 1) hx hb dX11_rowClause_75 (by decide) ?_
          refine lv_aload_n hx hb dX11_rowClause_76 rfl (lv_at hl 2 rfl) ?_
          refine va_get (D := D) (ci := 11) (v := .int y6_6) (C := RX11) (T := TX11) (N := 47) hx hb hts (by decide +kernel) hown hK.1 hP 0 rfl rfl 10 (by decide) (hts (.fieldLink RX11 120 "JugglingHallModel" "place" "I") (by decide +kernel)) (fun _ h9 => h9) rfl dX11_rowClause_77 ?_
          have hz_19 : (1 : Int32).toInt = 1 := by decide
          refine call_g (wr := []) (va_runV (As := [.int 1, .int y6_6]) (rest := []) ⟨hx, hb, hml, hown, hts⟩ (k_fails l D cI cR cM _  ) (cwV 2 hts gX11_rowClause_X11_fails rfl rfl rfl (by decide +kernel) ⟨Nat.le_of_ble_eq_true rfl, Nat.le_of_ble_eq_true rfl⟩) (pre_V hK hP hD 0 11 rfl rfl) rfl rfl hl.1 rfl (lv_room (Nat.le_of_ble_eq_true rfl)) dX11_rowClause_80 ⟨Nat.le_of_ble_eq_true rfl, Nat.le_of_ble_eq_true rfl⟩) hP hD hS hA [0, 1, 2, 3, 4, 5, 6, 7, 8, 9, 10, 11, 12, 13, 14, 15, 16, 17, 18, 19, 20, 21, 22, 23, 24, 25] [] (by with_unfolding_all rfl) rfl (by decide) (by decide) (fun u_20 H locs hw hP hD hS => ?_)
          obtain ⟨r_20, y9_20⟩ := u_20
          have hP : va_P D vwCl (mX mm q jn cI x0 x1 x2 x3 x4 y5_6 y6_6 y7_6 y8_6 y9_20 y10_6 y11_6 y12_6 y13_6 y14_6 x15 x16 x17 x18 x19 x20 f0 f1 f2 g3_6 g4_6 g5_6 g6_6 g7_6 f8 f9 f10 f11 f12 f13 f14 f15 f16 f17 f18 f19 f20 f21 f22 f23 f24) H := hP
          have hD : va_D A (mX mm q jn cI x0 x1 x2 x3 x4 y5_6 y6_6 y7_6 y8_6 y9_20 y10_6 y11_6 y12_6 y13_6 y14_6 x15 x16 x17 x18 x19 x20 f0 f1 f2 g3_6 g4_6 g5_6 g6_6 g7_6 f8 f9 f10 f11 f12 f13 f14 f15 f16 f17 f18 f19 f20 f21 f22 f23 f24) := hD
          have hr_20 : (r_20.toInt = (1 : Int32).toInt) := hw
          exact g_iret (r_20, y5_6, y6_6, y7_6, y8_6, y9_20, y10_6, y11_6, y12_6, y13_6, y14_6, g3_6, g4_6, g5_6, g6_6, g7_6, f8, f9) hx hb hr hlocks hS rfl (⟨show x5.toInt ≤ y5_6.toInt ∧ y5_6.toInt ≤ x2.toInt from (by first | assumption | omega), show TokOK y7_6 y8_6 from (by first | assumption | omega), show FreshX jn f8 f9 from (hFr), show FreshZ jn f8 f9 from (hFZ)⟩) hP hD hQ (Nat.le_of_ble_eq_true rfl) (Nat.le_of_ble_eq_true rfl) dX11_rowClause_83
      · refine lv_iload_n hx hb dX11_rowClause_63 rfl (lv_at hl 0 rfl) ?_
        exact g_iret (r_6, y5_6, y6_6, y7_6, y8_6, y9_6, y10_6, y11_6, y12_6, y13_6, y14_6, g3_6, g4_6, g5_6, g6_6, g7_6, f8, f9) hx hb hr hlocks hS rfl (⟨show x5.toInt ≤ y5_6.toInt ∧ y5_6.toInt ≤ x2.toInt from (by first | assumption | omega), show TokOK y7_6 y8_6 from (by first | assumption | omega), show FreshX jn f8 f9 from (hFr), show FreshZ jn f8 f9 from (hFZ)⟩) hP hD hQ (Nat.le_of_ble_eq_true rfl) (Nat.le_of_ble_eq_true rfl) dX11_rowClause_64
    · refine lv_aload_n hx hb dX11_rowClause_40 rfl (lv_at hl 1 rfl) ?_
      refine lv_iconst (v := 1) hx hb dX11_rowClause_41 (by decide) ?_
      refine lv_aload_n hx hb dX11_rowClause_42 rfl (lv_at hl 1 rfl) ?_
      refine va_get (D := D) (ci := 11) (v := .int y6_3) (C := RX11) (T := TX11) (N := 47) hx hb hts (by decide +kernel) hown hK.1 hP 0 rfl rfl 10 (by decide) (hts (.fieldLink RX11 120 "JugglingHallModel" "place" "I") (by decide +kernel)) (fun _ h9 => h9) rfl dX11_rowClause_43 ?_
      have hz_21 : (1 : Int32).toInt = 1 := by decide
      refine call_g (wr := []) (va_runV (As := [.int 1, .int y6_3]) (rest := []) ⟨hx, hb, hml, hown, hts⟩ (k_fails l D cI cR cM _  ) (cwV 2 hts gX11_rowClause_X11_fails rfl rfl rfl (by decide +kernel) ⟨Nat.le_of_ble_eq_true rfl, Nat.le_of_ble_eq_true rfl⟩) (pre_V hK hP hD 0 11 rfl rfl) rfl rfl hl.1 rfl (lv_room (Nat.le_of_ble_eq_true rfl)) dX11_rowClause_46 ⟨Nat.le_of_ble_eq_true rfl, Nat.le_of_ble_eq_true rfl⟩) hP hD hS hA [0, 1, 2, 3, 4, 5, 6, 7, 8, 9, 10, 11, 12, 13, 14, 15, 16, 17, 18, 19, 20, 21, 22, 23, 24, 25] [] (by with_unfolding_all rfl) rfl (by decide) (by decide) (fun u_22 H locs hw hP hD hS => ?_)
      obtain ⟨r_22, y9_22⟩ := u_22
      have hP : va_P D vwCl (mX mm q jn cI x0 x1 x2 x3 x4 y5_3 y6_3 y7_3 y8_3 y9_22 x10 x11 x12 x13 x14 x15 x16 x17 x18 x19 x20 f0 f1 f2 f3 f4 f5 f6 f7 f8 f9 f10 f11 f12 f13 f14 f15 f16 f17 f18 f19 f20 f21 f22 f23 f24) H := hP
      have hD : va_D A (mX mm q jn cI x0 x1 x2 x3 x4 y5_3 y6_3 y7_3 y8_3 y9_22 x10 x11 x12 x13 x14 x15 x16 x17 x18 x19 x20 f0 f1 f2 f3 f4 f5 f6 f7 f8 f9 f10 f11 f12 f13 f14 f15 f16 f17 f18 f19 f20 f21 f22 f23 f24) := hD
      have hr_22 : (r_22.toInt = (1 : Int32).toInt) := hw
      exact g_iret (r_22, y5_3, y6_3, y7_3, y8_3, y9_22, x10, x11, x12, x13, x14, f3, f4, f5, f6, f7, f8, f9) hx hb hr hlocks hS rfl (⟨show x5.toInt ≤ y5_3.toInt ∧ y5_3.toInt ≤ x2.toInt from (by first | assumption | omega), show TokOK y7_3 y8_3 from (by first | assumption | omega), show FreshX jn f8 f9 from (hFr), show FreshZ jn f8 f9 from (hFZ)⟩) hP hD hQ (Nat.le_of_ble_eq_true rfl) (Nat.le_of_ble_eq_true rfl) dX11_rowClause_49
  · refine lv_aload_n hx hb dX11_rowClause_12 rfl (lv_at hl 0 rfl) ?_
    refine lv_iconst (v := 1) hx hb dX11_rowClause_13 (by decide) ?_
    refine lv_aload_n hx hb dX11_rowClause_14 rfl (lv_at hl 0 rfl) ?_
    refine va_get (D := D) (ci := 11) (v := .int y6_1) (C := RX11) (T := TX11) (N := 47) hx hb hts (by decide +kernel) hown hK.1 hP 0 rfl rfl 10 (by decide) (hts (.fieldLink RX11 120 "JugglingHallModel" "place" "I") (by decide +kernel)) (fun _ h9 => h9) rfl dX11_rowClause_15 ?_
    have hz_23 : (1 : Int32).toInt = 1 := by decide
    refine call_g (wr := []) (va_runV (As := [.int 1, .int y6_1]) (rest := []) ⟨hx, hb, hml, hown, hts⟩ (k_fails l D cI cR cM _  ) (cwV 2 hts gX11_rowClause_X11_fails rfl rfl rfl (by decide +kernel) ⟨Nat.le_of_ble_eq_true rfl, Nat.le_of_ble_eq_true rfl⟩) (pre_V hK hP hD 0 11 rfl rfl) rfl rfl hl.1 rfl (lv_room (Nat.le_of_ble_eq_true rfl)) dX11_rowClause_18 ⟨Nat.le_of_ble_eq_true rfl, Nat.le_of_ble_eq_true rfl⟩) hP hD hS hA [0, 1, 2, 3, 4, 5, 6, 7, 8, 9, 10, 11, 12, 13, 14, 15, 16, 17, 18, 19, 20, 21, 22, 23, 24, 25] [] (by with_unfolding_all rfl) rfl (by decide) (by decide) (fun u_24 H locs hw hP hD hS => ?_)
    obtain ⟨r_24, y9_24⟩ := u_24
    have hP : va_P D vwCl (mX mm q jn cI x0 x1 x2 x3 x4 y5_1 y6_1 y7_1 y8_1 y9_24 x10 x11 x12 x13 x14 x15 x16 x17 x18 x19 x20 f0 f1 f2 f3 f4 f5 f6 f7 f8 f9 f10 f11 f12 f13 f14 f15 f16 f17 f18 f19 f20 f21 f22 f23 f24) H := hP
    have hD : va_D A (mX mm q jn cI x0 x1 x2 x3 x4 y5_1 y6_1 y7_1 y8_1 y9_24 x10 x11 x12 x13 x14 x15 x16 x17 x18 x19 x20 f0 f1 f2 f3 f4 f5 f6 f7 f8 f9 f10 f11 f12 f13 f14 f15 f16 f17 f18 f19 f20 f21 f22 f23 f24) := hD
    have hr_24 : (r_24.toInt = (1 : Int32).toInt) := hw
    exact g_iret (r_24, y5_1, y6_1, y7_1, y8_1, y9_24, x10, x11, x12, x13, x14, f3, f4, f5, f6, f7, f8, f9) hx hb hr hlocks hS rfl (⟨show x5.toInt ≤ y5_1.toInt ∧ y5_1.toInt ≤ x2.toInt from (by first | assumption | omega), show TokOK y7_1 y8_1 from (by first | assumption | omega), show FreshX jn f8 f9 from (hFr), show FreshZ jn f8 f9 from (hFZ)⟩) hP hD hQ (Nat.le_of_ble_eq_true rfl) (Nat.le_of_ble_eq_true rfl) dX11_rowClause_21
theorem fresh_0 {jn : Nat} {m c : Nat → Int32} (h : ∀ i : Int, 0 ≤ i → i < 8 → (m i.toNat).toInt = 0) : FreshX jn m c := by
  intro k k0 k1
  have h9 := h k k0 k1
  exact ⟨by omega, by omega, fun i i0 i1 => absurd i1 (by omega), fun j j0 j1 => absurd j1 (by omega)⟩
theorem freshz_0 {jn : Nat} {m c : Nat → Int32} (h : ∀ i : Int, 0 ≤ i → i < 8 → (m i.toNat).toInt = 0) : FreshZ jn m c := by
  intro k k0 k1 b x b0 b1
  have h9 := h k k0 k1
  exact absurd b1 (by omega)
set_option maxRecDepth 100000 in
set_option maxHeartbeats 4000000 in
theorem k_readText (l : Launch) (D : va_G) (cI cR cM : ClassId) (sz : Nat) {jn mm : Nat} {q : Nat → Nat} {x0 x1 x2 x3 x4 x5 x6 x7 x8 x9 x10 x11 x12 x13 x14 x15 x16 x17 x18 x19 x20 : Int32} {f0 f1 f2 f3 f4 f5 f6 f7 f8 f9 f10 f11 f12 f13 f14 f15 f16 f17 f18 f19 f20 f21 f22 f23 f24 : Nat → Int32}  (ht : 0 ≤ x2.toInt ∧ x2.toInt ≤ 300) (hj : 1 ≤ jn ∧ jn ≤ 3) (h0 : 0 ≤ x0.toInt ∧ x0.toInt ≤ 60) (hR : RowsX jn f0) (hRZ : RowsZ jn f0) (hM : MK f11) (hFm : FM f10) : Met l yX11_readText wsX11_readText ({ frames := 9, cells := 0, slots := 0, locals := 203 }) (P0 D cI cR cM [.ref mm] sz (mX mm q jn cI x0 x1 x2 x3 x4 x5 x6 x7 x8 x9 x10 x11 x12 x13 x14 x15 x16 x17 x18 x19 x20 f0 f1 f2 f3 f4 f5 f6 f7 f8 f9 f10 f11 f12 f13 f14 f15 f16 f17 f18 f19 f20 f21 f22 f23 f24)) (QG (S := Int32 × Int32 × Int32 × Int32 × Int32 × Int32 × Int32 × Int32 × Int32 × Int32 × Int32 × (Nat → Int32) × (Nat → Int32) × (Nat → Int32) × (Nat → Int32) × (Nat → Int32) × (Nat → Int32) × (Nat → Int32) × (Nat → Int32) × (Nat → Int32)) (fun u => some (.int u.1)) (fun u => mX mm q jn cI x0 x1 x2 x3 x4 (u.2.1) (u.2.2.1) (u.2.2.2.1) (u.2.2.2.2.1) (u.2.2.2.2.2.1) (u.2.2.2.2.2.2.1) (u.2.2.2.2.2.2.2.1) (u.2.2.2.2.2.2.2.2.1) (u.2.2.2.2.2.2.2.2.2.1) (u.2.2.2.2.2.2.2.2.2.2.1) x15 x16 x17 x18 x19 x20 f0 f1 f2 (u.2.2.2.2.2.2.2.2.2.2.2.1) (u.2.2.2.2.2.2.2.2.2.2.2.2.1) (u.2.2.2.2.2.2.2.2.2.2.2.2.2.1) (u.2.2.2.2.2.2.2.2.2.2.2.2.2.2.1) (u.2.2.2.2.2.2.2.2.2.2.2.2.2.2.2.1) (u.2.2.2.2.2.2.2.2.2.2.2.2.2.2.2.2.1) (u.2.2.2.2.2.2.2.2.2.2.2.2.2.2.2.2.2.1) (u.2.2.2.2.2.2.2.2.2.2.2.2.2.2.2.2.2.2.1) (u.2.2.2.2.2.2.2.2.2.2.2.2.2.2.2.2.2.2.2) f12 f13 f14 f15 f16 f17 f18 f19 f20 f21 f22 f23 f24) (fun u => (FreshX jn u.2.2.2.2.2.2.2.2.2.2.2.2.2.2.2.2.1 u.2.2.2.2.2.2.2.2.2.2.2.2.2.2.2.2.2.1) ∧ (FreshZ jn u.2.2.2.2.2.2.2.2.2.2.2.2.2.2.2.2.1 u.2.2.2.2.2.2.2.2.2.2.2.2.2.2.2.2.2.1) ∧ (MK u.2.2.2.2.2.2.2.2.2.2.2.2.2.2.2.2.2.2.2) ∧ (FM u.2.2.2.2.2.2.2.2.2.2.2.2.2.2.2.2.2.2.1)) D (va_A (mX mm q jn cI x0 x1 x2 x3 x4 x5 x6 x7 x8 x9 x10 x11 x12 x13 x14 x15 x16 x17 x18 x19 x20 f0 f1 f2 f3 f4 f5 f6 f7 f8 f9 f10 f11 f12 f13 f14 f15 f16 f17 f18 f19 f20 f21 f22 f23 f24) sz)) 0 0 (va_A (mX mm q jn cI x0 x1 x2 x3 x4 x5 x6 x7 x8 x9 x10 x11 x12 x13 x14 x15 x16 x17 x18 x19 x20 f0 f1 f2 f3 f4 f5 f6 f7 f8 f9 f10 f11 f12 f13 f14 f15 f16 f17 f18 f19 f20 f21 f22 f23 f24) sz) := by
  refine go (cc := cX11_readText) (maxL := 2) (ret := (some .int)) (by decide) rfl (Nat.le_of_ble_eq_true rfl) ?_
  intro p e s m below meth c ls args Q hQ hsz hx hb hr hml hts hown hlocks hnm hP hK hD hl
  subst hsz
  have hD := hD.self (sz := s.heap.size)
  generalize hAe : va_A (mX mm q jn cI x0 x1 x2 x3 x4 x5 x6 x7 x8 x9 x10 x11 x12 x13 x14 x15 x16 x17 x18 x19 x20 f0 f1 f2 f3 f4 f5 f6 f7 f8 f9 f10 f11 f12 f13 f14 f15 f16 f17 f18 f19 f20 f21 f22 f23 f24) s.heap.size = A at hD hQ
  have hA : ∀ q, s.heap.size ≤ q → A q := fun q h => by rw [← hAe]; exact Or.inr h
  have hS : va_S A s.heap s.heap [] := va_S.rf
  have hl : lv_has ls 2 [(0, .ref mm)] := hl
  refine lv_iconst (v := 0) hx hb dX11_readText_0 (by decide) ?_
  refine lv_istore_n (lv' := [(1, .int 0), (0, .ref mm)]) hx hb dX11_readText_1 rfl hl (by decide) rfl (fun ls hl => ?_)
  have loop2 : ∀ (ddloop2 : Nat) (lx : Int32) (ga : (Nat → Int32)) (H : Heap) (locs : List Loc) (ls : Array Slot), (8 - lx.toInt).toNat < ddloop2 → (0 ≤ lx.toInt ∧ lx.toInt ≤ 8) → (∀ i : Int, 0 ≤ i → i < lx.toInt → (ga i.toNat).toInt = 0) → va_P D vwCl (mX mm q jn cI x0 x1 x2 x3 x4 x5 x6 x7 x8 x9 x10 x11 x12 x13 x14 x15 x16 x17 x18 x19 x20 f0 f1 f2 f3 f4 f5 f6 f7 ga f9 f10 f11 f12 f13 f14 f15 f16 f17 f18 f19 f20 f21 f22 f23 f24) H → va_D A (mX mm q jn cI x0 x1 x2 x3 x4 x5 x6 x7 x8 x9 x10 x11 x12 x13 x14 x15 x16 x17 x18 x19 x20 f0 f1 f2 f3 f4 f5 f6 f7 ga f9 f10 f11 f12 f13 f14 f15 f16 f17 f18 f19 f20 f21 f22 f23 f24) → va_S A s.heap H locs → lv_has ls 2 [(0, .ref mm), (1, .int lx)] → W p l e ({ frames := 9, cells := 0, slots := 0, locals := 203 }) s m args below meth c H locs 0 0 Q (F0 m 2 ls []) := by
    intro ddloop2
    induction ddloop2 with
    | zero =>
      intro lx ga H locs ls hdd
      exact absurd hdd (Nat.not_lt_zero _)
    | succ ddloop2 ih2 =>
      intro lx ga H locs ls hdd hk hga hP hD hS hl
      refine lv_iload_n hx hb dX11_readText_2 rfl (lv_at hl 1 rfl) ?_
      refine lv_bipush (v := 8) hx hb dX11_readText_3 (by decide) ?_
      refine a_icmp_ge (u := lx.toInt) (v := 8) (tgt := 21) hx hb dX11_readText_5 (by decide) (rfl) (by decide) (fun c_1 => ?_) (fun c_1 => ?_)
      · have hFr9 : FreshX jn ga f9 := fresh_0 (fun i i0 i1 => hga i i0 (by omega))
        have hFZ9 : FreshZ jn ga f9 := freshz_0 (fun i i0 i1 => hga i i0 (by omega))
        refine lv_aload_n hx hb dX11_readText_21 rfl (lv_at hl 0 rfl) ?_
        refine va_get (D := D) (ci := 11) (v := .ref (q 10)) (C := RX11) (T := TX11) (N := 47) hx hb hts (by decide +kernel) hown hK.1 hP 0 rfl rfl 24 (by decide) (hts (.fieldLink RX11 48 "JugglingHallModel" "freshMarks" "[I") (by decide +kernel)) (fun _ h9 => h9) rfl dX11_readText_22 ?_
        refine lv_iconst (v := 0) hx hb dX11_readText_25 (by decide) ?_
        refine lv_iconst (v := 0) hx hb dX11_readText_26 (by decide) ?_
        refine ma_10 (u := 0) hx hb hK hP hD hS dX11_readText_27 (by decide) (by omega) (fun g_2 H locs eg_2 hP hD hS => ?_)
        have hFm9 : FM g_2 := fm_set (x := 0) hFm (fun i i0 i1 => by rw [eg_2, un_i i0 (by omega) (by omega)]) (fun _ => by rw [eg_2, pk_us]; decide) (fun h => absurd h (by omega))
        refine lv_aload_n hx hb dX11_readText_28 rfl (lv_at hl 0 rfl) ?_
        refine lv_iconst (v := 0) hx hb dX11_readText_29 (by decide) ?_
        refine mp_5 hx hb hts (by decide +kernel) hown hK hP hD hS (hts (.fieldLink RX11 117 "JugglingHallModel" "at" "I") (by decide +kernel)) dX11_readText_30 (fun H locs hP hD hS => ?_)
        refine lv_aload_n hx hb dX11_readText_33 rfl (lv_at hl 0 rfl) ?_
        have hz_3 : (0 : Int32).toInt = 0 := by decide
        refine call_g (wr := []) (va_runV (As := []) (rest := []) ⟨hx, hb, hml, hown, hts⟩ (k_next l D cI cR cM _  (by first | assumption | omega) (by first | assumption | omega)) (cwV 0 hts gX11_readText_X11_nextToken rfl rfl rfl (by decide +kernel) ⟨Nat.le_of_ble_eq_true rfl, Nat.le_of_ble_eq_true rfl⟩) (pre_V hK hP hD 0 11 rfl rfl) rfl rfl hl.1 rfl (lv_room (Nat.le_of_ble_eq_true rfl)) dX11_readText_34 ⟨Nat.le_of_ble_eq_true rfl, Nat.le_of_ble_eq_true rfl⟩) hP hD hS hA [0, 1, 2, 3, 4, 5, 6, 7, 8, 9, 10, 11, 12, 13, 14, 15, 16, 17, 18, 19, 20, 21, 22, 23, 24, 25] [] (by with_unfolding_all rfl) rfl (by decide) (by decide) (fun u_4 H locs hw hP hD hS => ?_)
        obtain ⟨y5_4, y6_4, y7_4, y8_4⟩ := u_4
        have hP : va_P D vwCl (mX mm q jn cI x0 x1 x2 x3 x4 y5_4 y6_4 y7_4 y8_4 x9 x10 x11 x12 x13 x14 x15 x16 x17 x18 x19 x20 f0 f1 f2 f3 f4 f5 f6 f7 ga f9 g_2 f11 f12 f13 f14 f15 f16 f17 f18 f19 f20 f21 f22 f23 f24) H := hP
        have hD : va_D A (mX mm q jn cI x0 x1 x2 x3 x4 y5_4 y6_4 y7_4 y8_4 x9 x10 x11 x12 x13 x14 x15 x16 x17 x18 x19 x20 f0 f1 f2 f3 f4 f5 f6 f7 ga f9 g_2 f11 f12 f13 f14 f15 f16 f17 f18 f19 f20 f21 f22 f23 f24) := hD
        obtain ⟨ha_4, hp_4, hk_4, hT_4⟩ : ((0 : Int32).toInt ≤ y5_4.toInt ∧ y5_4.toInt ≤ x2.toInt) ∧ (0 ≤ y6_4.toInt ∧ y6_4.toInt ≤ 300) ∧ (y7_4.toInt = 0 ∨ (0 : Int32).toInt < y5_4.toInt) ∧ (TokOK y7_4 y8_4) := hw
        have loop37 : ∀ (ddloop37 : Nat) (u : Int32) (a5 : Int32) (a6 : Int32) (a7 : Int32) (a8 : Int32) (a9 : Int32) (a10 : Int32) (a11 : Int32) (a12 : Int32) (a13 : Int32) (a14 : Int32) (q3 : (Nat → Int32)) (q4 : (Nat → Int32)) (q5 : (Nat → Int32)) (q6 : (Nat → Int32)) (q7 : (Nat → Int32)) (q8 : (Nat → Int32)) (q9 : (Nat → Int32)) (q10 : (Nat → Int32)) (q11 : (Nat → Int32)) (H : Heap) (locs : List Loc) (ls : Array Slot), (2 * (x2.toInt - a5.toInt) + (if a7.toInt = 0 then 0 else 1)).toNat < ddloop37 → (0 ≤ a5.toInt ∧ a5.toInt ≤ x2.toInt) → (TokOK a7 a8) → (FreshX jn q8 q9) → (FreshZ jn q8 q9) → (MK q11) → (FM q10) → va_P D vwCl (mX mm q jn cI x0 x1 x2 x3 x4 a5 a6 a7 a8 a9 a10 a11 a12 a13 a14 x15 x16 x17 x18 x19 x20 f0 f1 f2 q3 q4 q5 q6 q7 q8 q9 q10 q11 f12 f13 f14 f15 f16 f17 f18 f19 f20 f21 f22 f23 f24) H → va_D A (mX mm q jn cI x0 x1 x2 x3 x4 a5 a6 a7 a8 a9 a10 a11 a12 a13 a14 x15 x16 x17 x18 x19 x20 f0 f1 f2 q3 q4 q5 q6 q7 q8 q9 q10 q11 f12 f13 f14 f15 f16 f17 f18 f19 f20 f21 f22 f23 f24) → va_S A s.heap H locs → lv_has ls 2 [(0, .ref mm), (1, .int u)] → W p l e ({ frames := 9, cells := 0, slots := 0, locals := 203 }) s m args below meth c H locs 0 0 Q (F0 m 37 ls []) := by
          intro ddloop37
          induction ddloop37 with
          | zero =>
            intro u a5 a6 a7 a8 a9 a10 a11 a12 a13 a14 q3 q4 q5 q6 q7 q8 q9 q10 q11 H locs ls hdd
            exact absurd hdd (Nat.not_lt_zero _)
          | succ ddloop37 ih37 =>
            intro u a5 a6 a7 a8 a9 a10 a11 a12 a13 a14 q3 q4 q5 q6 q7 q8 q9 q10 q11 H locs ls hdd hp hT hFr hFZ hM hFm hP hD hS hl
            refine lv_aload_n hx hb dX11_readText_37 rfl (lv_at hl 0 rfl) ?_
            refine va_get (D := D) (ci := 11) (v := .int a7) (C := RX11) (T := TX11) (N := 47) hx hb hts (by decide +kernel) hown hK.1 hP 0 rfl rfl 11 (by decide) (hts (.fieldLink RX11 131 "JugglingHallModel" "token" "I") (by decide +kernel)) (fun _ h9 => h9) rfl dX11_readText_38 ?_
            refine a_if_eq (u := a7.toInt) (tgt := 98) hx hb dX11_readText_41 (by decide) (rfl) (fun c_5 => ?_) (fun c_5 => ?_)
            · refine lv_iconst (v := 0) hx hb dX11_readText_98 (by decide) ?_
              have hz_6 : (0 : Int32).toInt = 0 := by decide
              exact g_iret ((0 : Int32), a5, a6, a7, a8, a9, a10, a11, a12, a13, a14, q3, q4, q5, q6, q7, q8, q9, q10, q11) hx hb hr hlocks hS rfl (⟨show FreshX jn q8 q9 from (by first | assumption | omega), show FreshZ jn q8 q9 from (by first | assumption | omega), show MK q11 from (by first | assumption | omega), show FM q10 from (by first | assumption | omega)⟩) hP hD hQ (Nat.le_of_ble_eq_true rfl) (Nat.le_of_ble_eq_true rfl) dX11_readText_99
            · refine lv_aload_n hx hb dX11_readText_44 rfl (lv_at hl 0 rfl) ?_
              refine va_get (D := D) (ci := 11) (v := .int a7) (C := RX11) (T := TX11) (N := 47) hx hb hts (by decide +kernel) hown hK.1 hP 0 rfl rfl 11 (by decide) (hts (.fieldLink RX11 131 "JugglingHallModel" "token" "I") (by decide +kernel)) (fun _ h9 => h9) rfl dX11_readText_45 ?_
              refine lv_iconst (v := 5) hx hb dX11_readText_48 (by decide) ?_
              refine a_icmp_ne (u := a7.toInt) (v := 5) (tgt := 59) hx hb dX11_readText_49 (by decide) (rfl) (by decide) (fun c_7 => ?_) (fun c_7 => ?_)
              · refine lv_aload_n hx hb dX11_readText_59 rfl (lv_at hl 0 rfl) ?_
                refine va_get (D := D) (ci := 11) (v := .int a7) (C := RX11) (T := TX11) (N := 47) hx hb hts (by decide +kernel) hown hK.1 hP 0 rfl rfl 11 (by decide) (hts (.fieldLink RX11 131 "JugglingHallModel" "token" "I") (by decide +kernel)) (fun _ h9 => h9) rfl dX11_readText_60 ?_
                refine lv_bipush (v := 6) hx hb dX11_readText_63 (by decide) ?_
                refine a_icmp_ne (u := a7.toInt) (v := 6) (tgt := 75) hx hb dX11_readText_65 (by decide) (rfl) (by decide) (fun c_8 => ?_) (fun c_8 => ?_)
                · refine lv_aload_n hx hb dX11_readText_75 rfl (lv_at hl 0 rfl) ?_
                  refine lv_iconst (v := 1) hx hb dX11_readText_76 (by decide) ?_
                  refine lv_aload_n hx hb dX11_readText_77 rfl (lv_at hl 0 rfl) ?_
                  refine va_get (D := D) (ci := 11) (v := .int a6) (C := RX11) (T := TX11) (N := 47) hx hb hts (by decide +kernel) hown hK.1 hP 0 rfl rfl 10 (by decide) (hts (.fieldLink RX11 120 "JugglingHallModel" "place" "I") (by decide +kernel)) (fun _ h9 => h9) rfl dX11_readText_78 ?_
                  have hz_9 : (1 : Int32).toInt = 1 := by decide
                  refine call_g (wr := []) (va_runV (As := [.int 1, .int a6]) (rest := []) ⟨hx, hb, hml, hown, hts⟩ (k_fails l D cI cR cM _  ) (cwV 2 hts gX11_readText_X11_fails rfl rfl rfl (by decide +kernel) ⟨Nat.le_of_ble_eq_true rfl, Nat.le_of_ble_eq_true rfl⟩) (pre_V hK hP hD 0 11 rfl rfl) rfl rfl hl.1 rfl (lv_room (Nat.le_of_ble_eq_true rfl)) dX11_readText_81 ⟨Nat.le_of_ble_eq_true rfl, Nat.le_of_ble_eq_true rfl⟩) hP hD hS hA [0, 1, 2, 3, 4, 5, 6, 7, 8, 9, 10, 11, 12, 13, 14, 15, 16, 17, 18, 19, 20, 21, 22, 23, 24, 25] [] (by with_unfolding_all rfl) rfl (by decide) (by decide) (fun u_10 H locs hw hP hD hS => ?_)
                  obtain ⟨r_10, y9_10⟩ := u_10
                  have hP : va_P D vwCl (mX mm q jn cI x0 x1 x2 x3 x4 a5 a6 a7 a8 y9_10 a10 a11 a12 a13 a14 x15 x16 x17 x18 x19 x20 f0 f1 f2 q3 q4 q5 q6 q7 q8 q9 q10 q11 f12 f13 f14 f15 f16 f17 f18 f19 f20 f21 f22 f23 f24) H := hP
                  have hD : va_D A (mX mm q jn cI x0 x1 x2 x3 x4 a5 a6 a7 a8 y9_10 a10 a11 a12 a13 a14 x15 x16 x17 x18 x19 x20 f0 f1 f2 q3 q4 q5 q6 q7 q8 q9 q10 q11 f12 f13 f14 f15 f16 f17 f18 f19 f20 f21 f22 f23 f24) := hD
                  have hr_10 : (r_10.toInt = (1 : Int32).toInt) := hw
                  refine lv_istore_n (lv' := [(1, .int r_10), (0, .ref mm)]) hx hb dX11_readText_84 rfl hl (by decide) rfl (fun ls hl => ?_)
                  refine lv_iload_n hx hb dX11_readText_85 rfl (lv_at hl 0 rfl) ?_
                  refine a_if_eq (u := r_10.toInt) (tgt := 91) hx hb dX11_readText_86 (by decide) (rfl) (fun c_11 => ?_) (fun c_11 => ?_)
                  · refine lv_aload_n hx hb dX11_readText_91 rfl (lv_at hl 1 rfl) ?_
                    refine call_g (wr := []) (va_runV (As := []) (rest := []) ⟨hx, hb, hml, hown, hts⟩ (k_next l D cI cR cM _  (by first | assumption | omega) (by first | assumption | omega)) (cwV 0 hts gX11_readText_X11_nextToken rfl rfl rfl (by decide +kernel) ⟨Nat.le_of_ble_eq_true rfl, Nat.le_of_ble_eq_true rfl⟩) (pre_V hK hP hD 0 11 rfl rfl) rfl rfl hl.1 rfl (lv_room (Nat.le_of_ble_eq_true rfl)) dX11_readText_92 ⟨Nat.le_of_ble_eq_true rfl, Nat.le_of_ble_eq_true rfl⟩) hP hD hS hA [0, 1, 2, 3, 4, 5, 6, 7, 8, 9, 10, 11, 12, 13, 14, 15, 16, 17, 18, 19, 20, 21, 22, 23, 24, 25] [] (by with_unfolding_all rfl) rfl (by decide) (by decide) (fun u_12 H locs hw hP hD hS => ?_)
                    obtain ⟨y5_12, y6_12, y7_12, y8_12⟩ := u_12
                    have hP : va_P D vwCl (mX mm q jn cI x0 x1 x2 x3 x4 y5_12 y6_12 y7_12 y8_12 y9_10 a10 a11 a12 a13 a14 x15 x16 x17 x18 x19 x20 f0 f1 f2 q3 q4 q5 q6 q7 q8 q9 q10 q11 f12 f13 f14 f15 f16 f17 f18 f19 f20 f21 f22 f23 f24) H := hP
                    have hD : va_D A (mX mm q jn cI x0 x1 x2 x3 x4 y5_12 y6_12 y7_12 y8_12 y9_10 a10 a11 a12 a13 a14 x15 x16 x17 x18 x19 x20 f0 f1 f2 q3 q4 q5 q6 q7 q8 q9 q10 q11 f12 f13 f14 f15 f16 f17 f18 f19 f20 f21 f22 f23 f24) := hD
                    obtain ⟨ha_12, hp_12, hk_12, hT_12⟩ : (a5.toInt ≤ y5_12.toInt ∧ y5_12.toInt ≤ x2.toInt) ∧ (0 ≤ y6_12.toInt ∧ y6_12.toInt ≤ 300) ∧ (y7_12.toInt = 0 ∨ a5.toInt < y5_12.toInt) ∧ (TokOK y7_12 y8_12) := hw
                    refine lv_goto (tgt := 37) hx hb dX11_readText_95 (by decide) ?_
                    exact ih37 r_10 y5_12 y6_12 y7_12 y8_12 y9_10 a10 a11 a12 a13 a14 q3 q4 q5 q6 q7 q8 q9 q10 q11 _ _ _ (by omega) (by first | assumption | omega) (by first | assumption | omega) (by first | assumption | omega) (by first | assumption | omega) (by first | assumption | omega) (by first | assumption | omega) hP hD hS (lv_sub hl [1, 0] rfl)
                  · refine lv_iload_n hx hb dX11_readText_89 rfl (lv_at hl 0 rfl) ?_
                    exact g_iret (r_10, a5, a6, a7, a8, y9_10, a10, a11, a12, a13, a14, q3, q4, q5, q6, q7, q8, q9, q10, q11) hx hb hr hlocks hS rfl (⟨show FreshX jn q8 q9 from (by first | assumption | omega), show FreshZ jn q8 q9 from (by first | assumption | omega), show MK q11 from (by first | assumption | omega), show FM q10 from (by first | assumption | omega)⟩) hP hD hQ (Nat.le_of_ble_eq_true rfl) (Nat.le_of_ble_eq_true rfl) dX11_readText_90
                · refine lv_aload_n hx hb dX11_readText_68 rfl (lv_at hl 0 rfl) ?_
                  refine call_g (wr := []) (va_runV (As := []) (rest := []) ⟨hx, hb, hml, hown, hts⟩ (k_seenClause l D cI cR cM _  (by first | assumption | omega) (by first | assumption | omega) (by first | assumption | omega) (by first | assumption | omega) (by first | assumption | omega) (by first | assumption | omega)) (cwV 0 hts gX11_readText_X11_seenClause rfl rfl rfl (by decide +kernel) ⟨Nat.le_of_ble_eq_true rfl, Nat.le_of_ble_eq_true rfl⟩) (pre_V hK hP hD 0 11 rfl rfl) rfl rfl hl.1 rfl (lv_room (Nat.le_of_ble_eq_true rfl)) dX11_readText_69 ⟨Nat.le_of_ble_eq_true rfl, Nat.le_of_ble_eq_true rfl⟩) hP hD hS hA [0, 1, 2, 3, 4, 5, 6, 7, 8, 9, 10, 11, 12, 13, 14, 15, 16, 17, 18, 19, 20, 21, 22, 23, 24, 25] [] (by with_unfolding_all rfl) rfl (by decide) (by decide) (fun u_13 H locs hw hP hD hS => ?_)
                  obtain ⟨r_13, y5_13, y6_13, y7_13, y8_13, y9_13, g10_13, g11_13⟩ := u_13
                  have hP : va_P D vwCl (mX mm q jn cI x0 x1 x2 x3 x4 y5_13 y6_13 y7_13 y8_13 y9_13 a10 a11 a12 a13 a14 x15 x16 x17 x18 x19 x20 f0 f1 f2 q3 q4 q5 q6 q7 q8 q9 g10_13 g11_13 f12 f13 f14 f15 f16 f17 f18 f19 f20 f21 f22 f23 f24) H := hP
                  have hD : va_D A (mX mm q jn cI x0 x1 x2 x3 x4 y5_13 y6_13 y7_13 y8_13 y9_13 a10 a11 a12 a13 a14 x15 x16 x17 x18 x19 x20 f0 f1 f2 q3 q4 q5 q6 q7 q8 q9 g10_13 g11_13 f12 f13 f14 f15 f16 f17 f18 f19 f20 f21 f22 f23 f24) := hD
                  obtain ⟨ha_13, hT_13, hM_13, hFm_13⟩ : (a5.toInt ≤ y5_13.toInt ∧ y5_13.toInt ≤ x2.toInt) ∧ (TokOK y7_13 y8_13) ∧ (MK g11_13) ∧ (FM g10_13) := hw
                  refine lv_goto (tgt := 84) hx hb dX11_readText_72 (by decide) ?_
                  refine lv_istore_n (lv' := [(1, .int r_13), (0, .ref mm)]) hx hb dX11_readText_84 rfl hl (by decide) rfl (fun ls hl => ?_)
                  refine lv_iload_n hx hb dX11_readText_85 rfl (lv_at hl 0 rfl) ?_
                  refine a_if_eq (u := r_13.toInt) (tgt := 91) hx hb dX11_readText_86 (by decide) (rfl) (fun c_14 => ?_) (fun c_14 => ?_)
                  · refine lv_aload_n hx hb dX11_readText_91 rfl (lv_at hl 1 rfl) ?_
                    refine call_g (wr := []) (va_runV (As := []) (rest := []) ⟨hx, hb, hml, hown, hts⟩ (k_next l D cI cR cM _  (by first | assumption | omega) (by first | assumption | omega)) (cwV 0 hts gX11_readText_X11_nextToken rfl rfl rfl (by decide +kernel) ⟨Nat.le_of_ble_eq_true rfl, Nat.le_of_ble_eq_true rfl⟩) (pre_V hK hP hD 0 11 rfl rfl) rfl rfl hl.1 rfl (lv_room (Nat.le_of_ble_eq_true rfl)) dX11_readText_92 ⟨Nat.le_of_ble_eq_true rfl, Nat.le_of_ble_eq_true rfl⟩) hP hD hS hA [0, 1, 2, 3, 4, 5, 6, 7, 8, 9, 10, 11, 12, 13, 14, 15, 16, 17, 18, 19, 20, 21, 22, 23, 24, 25] [] (by with_unfolding_all rfl) rfl (by decide) (by decide) (fun u_15 H locs hw hP hD hS => ?_)
                    obtain ⟨y5_15, y6_15, y7_15, y8_15⟩ := u_15
                    have hP : va_P D vwCl (mX mm q jn cI x0 x1 x2 x3 x4 y5_15 y6_15 y7_15 y8_15 y9_13 a10 a11 a12 a13 a14 x15 x16 x17 x18 x19 x20 f0 f1 f2 q3 q4 q5 q6 q7 q8 q9 g10_13 g11_13 f12 f13 f14 f15 f16 f17 f18 f19 f20 f21 f22 f23 f24) H := hP
                    have hD : va_D A (mX mm q jn cI x0 x1 x2 x3 x4 y5_15 y6_15 y7_15 y8_15 y9_13 a10 a11 a12 a13 a14 x15 x16 x17 x18 x19 x20 f0 f1 f2 q3 q4 q5 q6 q7 q8 q9 g10_13 g11_13 f12 f13 f14 f15 f16 f17 f18 f19 f20 f21 f22 f23 f24) := hD
                    obtain ⟨ha_15, hp_15, hk_15, hT_15⟩ : (y5_13.toInt ≤ y5_15.toInt ∧ y5_15.toInt ≤ x2.toInt) ∧ (0 ≤ y6_15.toInt ∧ y6_15.toInt ≤ 300) ∧ (y7_15.toInt = 0 ∨ y5_13.toInt < y5_15.toInt) ∧ (TokOK y7_15 y8_15) := hw
                    refine lv_goto (tgt := 37) hx hb dX11_readText_95 (by decide) ?_
                    exact ih37 r_13 y5_15 y6_15 y7_15 y8_15 y9_13 a10 a11 a12 a13 a14 q3 q4 q5 q6 q7 q8 q9 g10_13 g11_13 _ _ _ (by omega) (by first | assumption | omega) (by first | assumption | omega) (by first | assumption | omega) (by first | assumption | omega) (by first | assumption | omega) (by first | assumption | omega) hP hD hS (lv_sub hl [1, 0] rfl)
                  · refine lv_iload_n hx hb dX11_readText_89 rfl (lv_at hl 0 rfl) ?_
                    exact g_iret (r_13, y5_13, y6_13, y7_13, y8_13, y9_13, a10, a11, a12, a13, a14, q3, q4, q5, q6, q7, q8, q9, g10_13, g11_13) hx hb hr hlocks hS rfl (⟨show FreshX jn q8 q9 from (by first | assumption | omega), show FreshZ jn q8 q9 from (by first | assumption | omega), show MK g11_13 from (by first | assumption | omega), show FM g10_13 from (by first | assumption | omega)⟩) hP hD hQ (Nat.le_of_ble_eq_true rfl) (Nat.le_of_ble_eq_true rfl) dX11_readText_90
              · refine lv_aload_n hx hb dX11_readText_52 rfl (lv_at hl 0 rfl) ?_
                refine call_g (wr := []) (va_runV (As := []) (rest := []) ⟨hx, hb, hml, hown, hts⟩ (k_rowClause l D cI cR cM _  (by first | assumption | omega) (by first | assumption | omega) (by first | assumption | omega) (by first | assumption | omega) (by first | assumption | omega) (by first | assumption | omega) (by first | assumption | omega) (by first | assumption | omega) (by first | assumption | omega)) (cwV 0 hts gX11_readText_X11_rowClause rfl rfl rfl (by decide +kernel) ⟨Nat.le_of_ble_eq_true rfl, Nat.le_of_ble_eq_true rfl⟩) (pre_V hK hP hD 0 11 rfl rfl) rfl rfl hl.1 rfl (lv_room (Nat.le_of_ble_eq_true rfl)) dX11_readText_53 ⟨Nat.le_of_ble_eq_true rfl, Nat.le_of_ble_eq_true rfl⟩) hP hD hS hA [0, 1, 2, 3, 4, 5, 6, 7, 8, 9, 10, 11, 12, 13, 14, 15, 16, 17, 18, 19, 20, 21, 22, 23, 24, 25] [] (by with_unfolding_all rfl) rfl (by decide) (by decide) (fun u_16 H locs hw hP hD hS => ?_)
                obtain ⟨r_16, y5_16, y6_16, y7_16, y8_16, y9_16, y10_16, y11_16, y12_16, y13_16, y14_16, g3_16, g4_16, g5_16, g6_16, g7_16, g8_16, g9_16⟩ := u_16
                have hP : va_P D vwCl (mX mm q jn cI x0 x1 x2 x3 x4 y5_16 y6_16 y7_16 y8_16 y9_16 y10_16 y11_16 y12_16 y13_16 y14_16 x15 x16 x17 x18 x19 x20 f0 f1 f2 g3_16 g4_16 g5_16 g6_16 g7_16 g8_16 g9_16 q10 q11 f12 f13 f14 f15 f16 f17 f18 f19 f20 f21 f22 f23 f24) H := hP
                have hD : va_D A (mX mm q jn cI x0 x1 x2 x3 x4 y5_16 y6_16 y7_16 y8_16 y9_16 y10_16 y11_16 y12_16 y13_16 y14_16 x15 x16 x17 x18 x19 x20 f0 f1 f2 g3_16 g4_16 g5_16 g6_16 g7_16 g8_16 g9_16 q10 q11 f12 f13 f14 f15 f16 f17 f18 f19 f20 f21 f22 f23 f24) := hD
                obtain ⟨ha_16, hT_16, hFr_16, hFZ_16⟩ : (a5.toInt ≤ y5_16.toInt ∧ y5_16.toInt ≤ x2.toInt) ∧ (TokOK y7_16 y8_16) ∧ (FreshX jn g8_16 g9_16) ∧ (FreshZ jn g8_16 g9_16) := hw
                refine lv_goto (tgt := 84) hx hb dX11_readText_56 (by decide) ?_
                refine lv_istore_n (lv' := [(1, .int r_16), (0, .ref mm)]) hx hb dX11_readText_84 rfl hl (by decide) rfl (fun ls hl => ?_)
                refine lv_iload_n hx hb dX11_readText_85 rfl (lv_at hl 0 rfl) ?_
                refine a_if_eq (u := r_16.toInt) (tgt := 91) hx hb dX11_readText_86 (by decide) (rfl) (fun c_17 => ?_) (fun c_17 => ?_)
                · refine lv_aload_n hx hb dX11_readText_91 rfl (lv_at hl 1 rfl) ?_
                  refine call_g (wr := []) (va_runV (As := []) (rest := []) ⟨hx, hb, hml, hown, hts⟩ (k_next l D cI cR cM _  (by first | assumption | omega) (by first | assumption | omega)) (cwV 0 hts gX11_readText_X11_nextToken rfl rfl rfl (by decide +kernel) ⟨Nat.le_of_ble_eq_true rfl, Nat.le_of_ble_eq_true rfl⟩) (pre_V hK hP hD 0 11 rfl rfl) rfl rfl hl.1 rfl (lv_room (Nat.le_of_ble_eq_true rfl)) dX11_readText_92 ⟨Nat.le_of_ble_eq_true rfl, Nat.le_of_ble_eq_true rfl⟩) hP hD hS hA [0, 1, 2, 3, 4, 5, 6, 7, 8, 9, 10, 11, 12, 13, 14, 15, 16, 17, 18, 19, 20, 21, 22, 23, 24, 25] [] (by with_unfolding_all rfl) rfl (by decide) (by decide) (fun u_18 H locs hw hP hD hS => ?_)
                  obtain ⟨y5_18, y6_18, y7_18, y8_18⟩ := u_18
                  have hP : va_P D vwCl (mX mm q jn cI x0 x1 x2 x3 x4 y5_18 y6_18 y7_18 y8_18 y9_16 y10_16 y11_16 y12_16 y13_16 y14_16 x15 x16 x17 x18 x19 x20 f0 f1 f2 g3_16 g4_16 g5_16 g6_16 g7_16 g8_16 g9_16 q10 q11 f12 f13 f14 f15 f16 f17 f18 f19 f20 f21 f22 f23 f24) H := hP
                  have hD : va_D A (mX mm q jn cI x0 x1 x2 x3 x4 y5_18 y6_18 y7_18 y8_18 y9_16 y10_16 y11_16 y12_16 y13_16 y14_16 x15 x16 x17 x18 x19 x20 f0 f1 f2 g3_16 g4_16 g5_16 g6_16 g7_16 g8_16 g9_16 q10 q11 f12 f13 f14 f15 f16 f17 f18 f19 f20 f21 f22 f23 f24) := hD
                  obtain ⟨ha_18, hp_18, hk_18, hT_18⟩ : (y5_16.toInt ≤ y5_18.toInt ∧ y5_18.toInt ≤ x2.toInt) ∧ (0 ≤ y6_18.toInt ∧ y6_18.toInt ≤ 300) ∧ (y7_18.toInt = 0 ∨ y5_16.toInt < y5_18.toInt) ∧ (TokOK y7_18 y8_18) := hw
                  refine lv_goto (tgt := 37) hx hb dX11_readText_95 (by decide) ?_
                  exact ih37 r_16 y5_18 y6_18 y7_18 y8_18 y9_16 y10_16 y11_16 y12_16 y13_16 y14_16 g3_16 g4_16 g5_16 g6_16 g7_16 g8_16 g9_16 q10 q11 _ _ _ (by omega) (by first | assumption | omega) (by first | assumption | omega) (by first | assumption | omega) (by first | assumption | omega) (by first | assumption | omega) (by first | assumption | omega) hP hD hS (lv_sub hl [1, 0] rfl)
                · refine lv_iload_n hx hb dX11_readText_89 rfl (lv_at hl 0 rfl) ?_
                  exact g_iret (r_16, y5_16, y6_16, y7_16, y8_16, y9_16, y10_16, y11_16, y12_16, y13_16, y14_16, g3_16, g4_16, g5_16, g6_16, g7_16, g8_16, g9_16, q10, q11) hx hb hr hlocks hS rfl (⟨show FreshX jn g8_16 g9_16 from (by first | assumption | omega), show FreshZ jn g8_16 g9_16 from (by first | assumption | omega), show MK q11 from (by first | assumption | omega), show FM q10 from (by first | assumption | omega)⟩) hP hD hQ (Nat.le_of_ble_eq_true rfl) (Nat.le_of_ble_eq_true rfl) dX11_readText_90
        exact loop37 ((2 * (x2.toInt - y5_4.toInt) + (if y7_4.toInt = 0 then 0 else 1)).toNat + 1) lx y5_4 y6_4 y7_4 y8_4 x9 x10 x11 x12 x13 x14 f3 f4 f5 f6 f7 ga f9 g_2 f11 _ _ _ (by omega) (by first | assumption | omega) (by first | assumption | omega) (by first | assumption | omega) (by first | assumption | omega) (by first | assumption | omega) (by first | assumption | omega) hP hD hS (lv_sub hl [0, 1] rfl)
      · refine lv_aload_n hx hb dX11_readText_8 rfl (lv_at hl 0 rfl) ?_
        refine va_get (D := D) (ci := 11) (v := .ref (q 8)) (C := RX11) (T := TX11) (N := 47) hx hb hts (by decide +kernel) hown hK.1 hP 0 rfl rfl 22 (by decide) (hts (.fieldLink RX11 42 "JugglingHallModel" "freshMany" "[I") (by decide +kernel)) (fun _ h9 => h9) rfl dX11_readText_9 ?_
        refine lv_iload_n hx hb dX11_readText_12 rfl (lv_at hl 1 rfl) ?_
        refine lv_iconst (v := 0) hx hb dX11_readText_13 (by decide) ?_
        refine ma_8 (u := lx.toInt) hx hb hK hP hD hS dX11_readText_14 (rfl) (by omega) (fun g_19 H locs eg_19 hP hD hS => ?_)
        obtain ⟨z_20, q_20, e_20⟩ := i_inc (a := lx.toInt) (1) (rfl) (by decide) (by omega) (by omega)
        refine lv_iinc (v := z_20) (lv' := [(1, .int z_20), (0, .ref mm)]) hx hb dX11_readText_15 hl (k := 1) rfl q_20 (by decide) rfl (fun ls hl => ?_)
        refine lv_goto (tgt := 2) hx hb dX11_readText_18 (by decide) ?_
        exact ih2 z_20 g_19 _ _ _ (by omega) (by first | assumption | omega) (fun i i0 i1 => by
          by_cases q : i = lx.toInt
          · rw [eg_19, q, show lx.toInt = lx.toInt by omega, pk_us]; rfl
          · rw [eg_19, un_i (by omega) (by omega) (by omega)]; exact hga i i0 (by omega)) hP hD hS (lv_sub hl [1, 0] rfl)
  have hz_21 : (0 : Int32).toInt = 0 := by decide
  exact loop2 ((8 - (0 : Int32).toInt).toNat + 1) (0 : Int32) f8 _ _ _ (by omega) (by first | assumption | omega) (fun i i0 i1 => absurd i1 (by omega)) hP hD hS (lv_sub hl [1, 0] rfl)
