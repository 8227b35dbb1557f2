theorem dX11_isWord_0 : decode cX11_isWord 0 = .ok (.aload_n 0, 1) := by decide +kernel
theorem dX11_isWord_1 : decode cX11_isWord 1 = .ok (.getfield 117, 3) := by decide +kernel
theorem dX11_isWord_4 : decode cX11_isWord 4 = .ok (.aload_n 0, 1) := by decide +kernel
theorem dX11_isWord_5 : decode cX11_isWord 5 = .ok (.getfield 120, 3) := by decide +kernel
theorem dX11_isWord_8 : decode cX11_isWord 8 = .ok (.isub, 1) := by decide +kernel
theorem dX11_isWord_9 : decode cX11_isWord 9 = .ok (.iload_n 1, 1) := by decide +kernel
theorem dX11_isWord_10 : decode cX11_isWord 10 = .ok (.if_icmp .ne 68, 3) := by decide +kernel
theorem dX11_isWord_13 : decode cX11_isWord 13 = .ok (.aload_n 0, 1) := by decide +kernel
theorem dX11_isWord_14 : decode cX11_isWord 14 = .ok (.aload_n 0, 1) := by decide +kernel
theorem dX11_isWord_15 : decode cX11_isWord 15 = .ok (.getfield 120, 3) := by decide +kernel
theorem dX11_isWord_18 : decode cX11_isWord 18 = .ok (.invokevirtual 123, 3) := by decide +kernel
theorem dX11_isWord_21 : decode cX11_isWord 21 = .ok (.iload_n 2, 1) := by decide +kernel
theorem dX11_isWord_22 : decode cX11_isWord 22 = .ok (.if_icmp .ne 56, 3) := by decide +kernel
theorem dX11_isWord_25 : decode cX11_isWord 25 = .ok (.aload_n 0, 1) := by decide +kernel
theorem dX11_isWord_26 : decode cX11_isWord 26 = .ok (.aload_n 0, 1) := by decide +kernel
theorem dX11_isWord_27 : decode cX11_isWord 27 = .ok (.getfield 120, 3) := by decide +kernel
theorem dX11_isWord_30 : decode cX11_isWord 30 = .ok (.iconst 1, 1) := by decide +kernel
theorem dX11_isWord_31 : decode cX11_isWord 31 = .ok (.iadd, 1) := by decide +kernel
theorem dX11_isWord_32 : decode cX11_isWord 32 = .ok (.invokevirtual 123, 3) := by decide +kernel
theorem dX11_isWord_35 : decode cX11_isWord 35 = .ok (.iload_n 3, 1) := by decide +kernel
theorem dX11_isWord_36 : decode cX11_isWord 36 = .ok (.if_icmp .ne 42, 3) := by decide +kernel
theorem dX11_isWord_39 : decode cX11_isWord 39 = .ok (.aload_n 0, 1) := by decide +kernel
theorem dX11_isWord_40 : decode cX11_isWord 40 = .ok (.aload_n 0, 1) := by decide +kernel
theorem dX11_isWord_41 : decode cX11_isWord 41 = .ok (.getfield 120, 3) := by decide +kernel
theorem dX11_isWord_44 : decode cX11_isWord 44 = .ok (.iconst 2, 1) := by decide +kernel
theorem dX11_isWord_45 : decode cX11_isWord 45 = .ok (.iadd, 1) := by decide +kernel
theorem dX11_isWord_46 : decode cX11_isWord 46 = .ok (.invokevirtual 123, 3) := by decide +kernel
theorem dX11_isWord_49 : decode cX11_isWord 49 = .ok (.iload 4, 2) := by decide +kernel
theorem dX11_isWord_51 : decode cX11_isWord 51 = .ok (.if_icmp .ne 27, 3) := by decide +kernel
theorem dX11_isWord_54 : decode cX11_isWord 54 = .ok (.iload_n 1, 1) := by decide +kernel
theorem dX11_isWord_55 : decode cX11_isWord 55 = .ok (.iconst 4, 1) := by decide +kernel
theorem dX11_isWord_56 : decode cX11_isWord 56 = .ok (.if_icmp .lt 18, 3) := by decide +kernel
theorem dX11_isWord_59 : decode cX11_isWord 59 = .ok (.aload_n 0, 1) := by decide +kernel
theorem dX11_isWord_60 : decode cX11_isWord 60 = .ok (.aload_n 0, 1) := by decide +kernel
theorem dX11_isWord_61 : decode cX11_isWord 61 = .ok (.getfield 120, 3) := by decide +kernel
theorem dX11_isWord_64 : decode cX11_isWord 64 = .ok (.iconst 3, 1) := by decide +kernel
theorem dX11_isWord_65 : decode cX11_isWord 65 = .ok (.iadd, 1) := by decide +kernel
theorem dX11_isWord_66 : decode cX11_isWord 66 = .ok (.invokevirtual 123, 3) := by decide +kernel
theorem dX11_isWord_69 : decode cX11_isWord 69 = .ok (.iload 5, 2) := by decide +kernel
theorem dX11_isWord_71 : decode cX11_isWord 71 = .ok (.if_icmp .ne 7, 3) := by decide +kernel
theorem dX11_isWord_74 : decode cX11_isWord 74 = .ok (.iconst 1, 1) := by decide +kernel
theorem dX11_isWord_75 : decode cX11_isWord 75 = .ok (.goto 4, 3) := by decide +kernel
theorem dX11_isWord_78 : decode cX11_isWord 78 = .ok (.iconst 0, 1) := by decide +kernel
theorem dX11_isWord_79 : decode cX11_isWord 79 = .ok (.ireturn, 1) := by decide +kernel
theorem dX11_wordOf_0 : decode cX11_wordOf 0 = .ok (.aload_n 0, 1) := by decide +kernel
theorem dX11_wordOf_1 : decode cX11_wordOf 1 = .ok (.getfield 117, 3) := by decide +kernel
theorem dX11_wordOf_4 : decode cX11_wordOf 4 = .ok (.aload_n 0, 1) := by decide +kernel
theorem dX11_wordOf_5 : decode cX11_wordOf 5 = .ok (.getfield 120, 3) := by decide +kernel
theorem dX11_wordOf_8 : decode cX11_wordOf 8 = .ok (.isub, 1) := by decide +kernel
theorem dX11_wordOf_9 : decode cX11_wordOf 9 = .ok (.iconst 1, 1) := by decide +kernel
theorem dX11_wordOf_10 : decode cX11_wordOf 10 = .ok (.if_icmp .ne 44, 3) := by decide +kernel
theorem dX11_wordOf_13 : decode cX11_wordOf 13 = .ok (.aload_n 0, 1) := by decide +kernel
theorem dX11_wordOf_14 : decode cX11_wordOf 14 = .ok (.aload_n 0, 1) := by decide +kernel
theorem dX11_wordOf_15 : decode cX11_wordOf 15 = .ok (.getfield 120, 3) := by decide +kernel
theorem dX11_wordOf_18 : decode cX11_wordOf 18 = .ok (.invokevirtual 123, 3) := by decide +kernel
theorem dX11_wordOf_21 : decode cX11_wordOf 21 = .ok (.bipush 65, 2) := by decide +kernel
theorem dX11_wordOf_23 : decode cX11_wordOf 23 = .ok (.bipush 72, 2) := by decide +kernel
theorem dX11_wordOf_25 : decode cX11_wordOf 25 = .ok (.invokestatic 100, 3) := by decide +kernel
theorem dX11_wordOf_28 : decode cX11_wordOf 28 = .ok (.ifCond .eq 7, 3) := by decide +kernel
theorem dX11_wordOf_31 : decode cX11_wordOf 31 = .ok (.iconst 2, 1) := by decide +kernel
theorem dX11_wordOf_32 : decode cX11_wordOf 32 = .ok (.goto 21, 3) := by decide +kernel
theorem dX11_wordOf_35 : decode cX11_wordOf 35 = .ok (.aload_n 0, 1) := by decide +kernel
theorem dX11_wordOf_36 : decode cX11_wordOf 36 = .ok (.aload_n 0, 1) := by decide +kernel
theorem dX11_wordOf_37 : decode cX11_wordOf 37 = .ok (.getfield 120, 3) := by decide +kernel
theorem dX11_wordOf_40 : decode cX11_wordOf 40 = .ok (.invokevirtual 123, 3) := by decide +kernel
theorem dX11_wordOf_43 : decode cX11_wordOf 43 = .ok (.bipush 112, 2) := by decide +kernel
theorem dX11_wordOf_45 : decode cX11_wordOf 45 = .ok (.if_icmp .ne 7, 3) := by decide +kernel
theorem dX11_wordOf_48 : decode cX11_wordOf 48 = .ok (.iconst 4, 1) := by decide +kernel
theorem dX11_wordOf_49 : decode cX11_wordOf 49 = .ok (.goto 4, 3) := by decide +kernel
theorem dX11_wordOf_52 : decode cX11_wordOf 52 = .ok (.iconst 3, 1) := by decide +kernel
theorem dX11_wordOf_53 : decode cX11_wordOf 53 = .ok (.ireturn, 1) := by decide +kernel
theorem dX11_wordOf_54 : decode cX11_wordOf 54 = .ok (.aload_n 0, 1) := by decide +kernel
theorem dX11_wordOf_55 : decode cX11_wordOf 55 = .ok (.iconst 3, 1) := by decide +kernel
theorem dX11_wordOf_56 : decode cX11_wordOf 56 = .ok (.bipush 114, 2) := by decide +kernel
theorem dX11_wordOf_58 : decode cX11_wordOf 58 = .ok (.bipush 111, 2) := by decide +kernel
theorem dX11_wordOf_60 : decode cX11_wordOf 60 = .ok (.bipush 119, 2) := by decide +kernel
theorem dX11_wordOf_62 : decode cX11_wordOf 62 = .ok (.iconst 0, 1) := by decide +kernel
theorem dX11_wordOf_63 : decode cX11_wordOf 63 = .ok (.invokevirtual 127, 3) := by decide +kernel
theorem dX11_wordOf_66 : decode cX11_wordOf 66 = .ok (.ifCond .eq 5, 3) := by decide +kernel
theorem dX11_wordOf_69 : decode cX11_wordOf 69 = .ok (.iconst 5, 1) := by decide +kernel
theorem dX11_wordOf_70 : decode cX11_wordOf 70 = .ok (.ireturn, 1) := by decide +kernel
theorem dX11_wordOf_71 : decode cX11_wordOf 71 = .ok (.aload_n 0, 1) := by decide +kernel
theorem dX11_wordOf_72 : decode cX11_wordOf 72 = .ok (.iconst 4, 1) := by decide +kernel
theorem dX11_wordOf_73 : decode cX11_wordOf 73 = .ok (.bipush 115, 2) := by decide +kernel
theorem dX11_wordOf_75 : decode cX11_wordOf 75 = .ok (.bipush 101, 2) := by decide +kernel
theorem dX11_wordOf_77 : decode cX11_wordOf 77 = .ok (.bipush 101, 2) := by decide +kernel
theorem dX11_wordOf_79 : decode cX11_wordOf 79 = .ok (.bipush 110, 2) := by decide +kernel
theorem dX11_wordOf_81 : decode cX11_wordOf 81 = .ok (.invokevirtual 127, 3) := by decide +kernel
theorem dX11_wordOf_84 : decode cX11_wordOf 84 = .ok (.ifCond .eq 6, 3) := by decide +kernel
theorem dX11_wordOf_87 : decode cX11_wordOf 87 = .ok (.bipush 6, 2) := by decide +kernel
theorem dX11_wordOf_89 : decode cX11_wordOf 89 = .ok (.ireturn, 1) := by decide +kernel
theorem dX11_wordOf_90 : decode cX11_wordOf 90 = .ok (.aload_n 0, 1) := by decide +kernel
theorem dX11_wordOf_91 : decode cX11_wordOf 91 = .ok (.iconst 4, 1) := by decide +kernel
theorem dX11_wordOf_92 : decode cX11_wordOf 92 = .ok (.bipush 98, 2) := by decide +kernel
theorem dX11_wordOf_94 : decode cX11_wordOf 94 = .ok (.bipush 97, 2) := by decide +kernel
theorem dX11_wordOf_96 : decode cX11_wordOf 96 = .ok (.bipush 99, 2) := by decide +kernel
theorem dX11_wordOf_98 : decode cX11_wordOf 98 = .ok (.bipush 107, 2) := by decide +kernel
theorem dX11_wordOf_100 : decode cX11_wordOf 100 = .ok (.invokevirtual 127, 3) := by decide +kernel
theorem dX11_wordOf_103 : decode cX11_wordOf 103 = .ok (.ifCond .eq 6, 3) := by decide +kernel
theorem dX11_wordOf_106 : decode cX11_wordOf 106 = .ok (.bipush 7, 2) := by decide +kernel
theorem dX11_wordOf_108 : decode cX11_wordOf 108 = .ok (.ireturn, 1) := by decide +kernel
theorem dX11_wordOf_109 : decode cX11_wordOf 109 = .ok (.aload_n 0, 1) := by decide +kernel
theorem dX11_wordOf_110 : decode cX11_wordOf 110 = .ok (.iconst 4, 1) := by decide +kernel
theorem dX11_wordOf_111 : decode cX11_wordOf 111 = .ok (.bipush 111, 2) := by decide +kernel
theorem dX11_wordOf_113 : decode cX11_wordOf 113 = .ok (.bipush 118, 2) := by decide +kernel
theorem dX11_wordOf_115 : decode cX11_wordOf 115 = .ok (.bipush 101, 2) := by decide +kernel
theorem dX11_wordOf_117 : decode cX11_wordOf 117 = .ok (.bipush 114, 2) := by decide +kernel
theorem dX11_wordOf_119 : decode cX11_wordOf 119 = .ok (.invokevirtual 127, 3) := by decide +kernel
theorem dX11_wordOf_122 : decode cX11_wordOf 122 = .ok (.ifCond .eq 6, 3) := by decide +kernel
theorem dX11_wordOf_125 : decode cX11_wordOf 125 = .ok (.bipush 8, 2) := by decide +kernel
theorem dX11_wordOf_127 : decode cX11_wordOf 127 = .ok (.ireturn, 1) := by decide +kernel
theorem dX11_wordOf_128 : decode cX11_wordOf 128 = .ok (.aload_n 0, 1) := by decide +kernel
theorem dX11_wordOf_129 : decode cX11_wordOf 129 = .ok (.iconst 4, 1) := by decide +kernel
theorem dX11_wordOf_130 : decode cX11_wordOf 130 = .ok (.bipush 100, 2) := by decide +kernel
theorem dX11_wordOf_132 : decode cX11_wordOf 132 = .ok (.bipush 117, 2) := by decide +kernel
theorem dX11_wordOf_134 : decode cX11_wordOf 134 = .ok (.bipush 97, 2) := by decide +kernel
theorem dX11_wordOf_136 : decode cX11_wordOf 136 = .ok (.bipush 108, 2) := by decide +kernel
theorem dX11_wordOf_138 : decode cX11_wordOf 138 = .ok (.invokevirtual 127, 3) := by decide +kernel
theorem dX11_wordOf_141 : decode cX11_wordOf 141 = .ok (.ifCond .eq 8, 3) := by decide +kernel
theorem dX11_wordOf_144 : decode cX11_wordOf 144 = .ok (.bipush 9, 2) := by decide +kernel
theorem dX11_wordOf_146 : decode cX11_wordOf 146 = .ok (.goto 25, 3) := by decide +kernel
theorem dX11_wordOf_149 : decode cX11_wordOf 149 = .ok (.aload_n 0, 1) := by decide +kernel
theorem dX11_wordOf_150 : decode cX11_wordOf 150 = .ok (.iconst 4, 1) := by decide +kernel
theorem dX11_wordOf_151 : decode cX11_wordOf 151 = .ok (.bipush 116, 2) := by decide +kernel
theorem dX11_wordOf_153 : decode cX11_wordOf 153 = .ok (.bipush 117, 2) := by decide +kernel
theorem dX11_wordOf_155 : decode cX11_wordOf 155 = .ok (.bipush 114, 2) := by decide +kernel
theorem dX11_wordOf_157 : decode cX11_wordOf 157 = .ok (.bipush 110, 2) := by decide +kernel
theorem dX11_wordOf_159 : decode cX11_wordOf 159 = .ok (.invokevirtual 127, 3) := by decide +kernel
theorem dX11_wordOf_162 : decode cX11_wordOf 162 = .ok (.ifCond .eq 8, 3) := by decide +kernel
theorem dX11_wordOf_165 : decode cX11_wordOf 165 = .ok (.bipush 10, 2) := by decide +kernel
theorem dX11_wordOf_167 : decode cX11_wordOf 167 = .ok (.goto 4, 3) := by decide +kernel
theorem dX11_wordOf_170 : decode cX11_wordOf 170 = .ok (.iconst 3, 1) := by decide +kernel
theorem dX11_wordOf_171 : decode cX11_wordOf 171 = .ok (.ireturn, 1) := by decide +kernel
theorem dX11_nextToken_0 : decode cX11_nextToken 0 = .ok (.aload_n 0, 1) := by decide +kernel
theorem dX11_nextToken_1 : decode cX11_nextToken 1 = .ok (.aload_n 0, 1) := by decide +kernel
theorem dX11_nextToken_2 : decode cX11_nextToken 2 = .ok (.getfield 117, 3) := by decide +kernel
theorem dX11_nextToken_5 : decode cX11_nextToken 5 = .ok (.invokevirtual 123, 3) := by decide +kernel
theorem dX11_nextToken_8 : decode cX11_nextToken 8 = .ok (.bipush 32, 2) := by decide +kernel
theorem dX11_nextToken_10 : decode cX11_nextToken 10 = .ok (.if_icmp .eq 16, 3) := by decide +kernel
theorem dX11_nextToken_13 : decode cX11_nextToken 13 = .ok (.aload_n 0, 1) := by decide +kernel
theorem dX11_nextToken_14 : decode cX11_nextToken 14 = .ok (.aload_n 0, 1) := by decide +kernel
theorem dX11_nextToken_15 : decode cX11_nextToken 15 = .ok (.getfield 117, 3) := by decide +kernel
theorem dX11_nextToken_18 : decode cX11_nextToken 18 = .ok (.invokevirtual 123, 3) := by decide +kernel
theorem dX11_nextToken_21 : decode cX11_nextToken 21 = .ok (.bipush 10, 2) := by decide +kernel
theorem dX11_nextToken_23 : decode cX11_nextToken 23 = .ok (.if_icmp .ne 16, 3) := by decide +kernel
theorem dX11_nextToken_26 : decode cX11_nextToken 26 = .ok (.aload_n 0, 1) := by decide +kernel
theorem dX11_nextToken_27 : decode cX11_nextToken 27 = .ok (.dup, 1) := by decide +kernel
theorem dX11_nextToken_28 : decode cX11_nextToken 28 = .ok (.getfield 117, 3) := by decide +kernel
theorem dX11_nextToken_31 : decode cX11_nextToken 31 = .ok (.iconst 1, 1) := by decide +kernel
theorem dX11_nextToken_32 : decode cX11_nextToken 32 = .ok (.iadd, 1) := by decide +kernel
theorem dX11_nextToken_33 : decode cX11_nextToken 33 = .ok (.putfield 117, 3) := by decide +kernel
theorem dX11_nextToken_36 : decode cX11_nextToken 36 = .ok (.goto (-36), 3) := by decide +kernel
theorem dX11_nextToken_39 : decode cX11_nextToken 39 = .ok (.aload_n 0, 1) := by decide +kernel
theorem dX11_nextToken_40 : decode cX11_nextToken 40 = .ok (.aload_n 0, 1) := by decide +kernel
theorem dX11_nextToken_41 : decode cX11_nextToken 41 = .ok (.getfield 117, 3) := by decide +kernel
theorem dX11_nextToken_44 : decode cX11_nextToken 44 = .ok (.putfield 120, 3) := by decide +kernel
theorem dX11_nextToken_47 : decode cX11_nextToken 47 = .ok (.aload_n 0, 1) := by decide +kernel
theorem dX11_nextToken_48 : decode cX11_nextToken 48 = .ok (.aload_n 0, 1) := by decide +kernel
theorem dX11_nextToken_49 : decode cX11_nextToken 49 = .ok (.getfield 117, 3) := by decide +kernel
theorem dX11_nextToken_52 : decode cX11_nextToken 52 = .ok (.invokevirtual 123, 3) := by decide +kernel
theorem dX11_nextToken_55 : decode cX11_nextToken 55 = .ok (.istore_n 1, 1) := by decide +kernel
theorem dX11_nextToken_56 : decode cX11_nextToken 56 = .ok (.iload_n 1, 1) := by decide +kernel
theorem dX11_nextToken_57 : decode cX11_nextToken 57 = .ok (.ifCond .ge 11, 3) := by decide +kernel
theorem dX11_nextToken_60 : decode cX11_nextToken 60 = .ok (.aload_n 0, 1) := by decide +kernel
theorem dX11_nextToken_61 : decode cX11_nextToken 61 = .ok (.iconst 0, 1) := by decide +kernel
theorem dX11_nextToken_62 : decode cX11_nextToken 62 = .ok (.putfield 131, 3) := by decide +kernel
theorem dX11_nextToken_65 : decode cX11_nextToken 65 = .ok (.goto 184, 3) := by decide +kernel
theorem dX11_nextToken_68 : decode cX11_nextToken 68 = .ok (.iload_n 1, 1) := by decide +kernel
theorem dX11_nextToken_69 : decode cX11_nextToken 69 = .ok (.invokestatic 134, 3) := by decide +kernel
theorem dX11_nextToken_72 : decode cX11_nextToken 72 = .ok (.ifCond .eq 29, 3) := by decide +kernel
theorem dX11_nextToken_75 : decode cX11_nextToken 75 = .ok (.aload_n 0, 1) := by decide +kernel
theorem dX11_nextToken_76 : decode cX11_nextToken 76 = .ok (.iconst 1, 1) := by decide +kernel
theorem dX11_nextToken_77 : decode cX11_nextToken 77 = .ok (.putfield 131, 3) := by decide +kernel
theorem dX11_nextToken_80 : decode cX11_nextToken 80 = .ok (.aload_n 0, 1) := by decide +kernel
theorem dX11_nextToken_81 : decode cX11_nextToken 81 = .ok (.iload_n 1, 1) := by decide +kernel
theorem dX11_nextToken_82 : decode cX11_nextToken 82 = .ok (.bipush 48, 2) := by decide +kernel
theorem dX11_nextToken_84 : decode cX11_nextToken 84 = .ok (.isub, 1) := by decide +kernel
theorem dX11_nextToken_85 : decode cX11_nextToken 85 = .ok (.putfield 138, 3) := by decide +kernel
theorem dX11_nextToken_88 : decode cX11_nextToken 88 = .ok (.aload_n 0, 1) := by decide +kernel
theorem dX11_nextToken_89 : decode cX11_nextToken 89 = .ok (.dup, 1) := by decide +kernel
theorem dX11_nextToken_90 : decode cX11_nextToken 90 = .ok (.getfield 117, 3) := by decide +kernel
theorem dX11_nextToken_93 : decode cX11_nextToken 93 = .ok (.iconst 1, 1) := by decide +kernel
theorem dX11_nextToken_94 : decode cX11_nextToken 94 = .ok (.iadd, 1) := by decide +kernel
theorem dX11_nextToken_95 : decode cX11_nextToken 95 = .ok (.putfield 117, 3) := by decide +kernel
theorem dX11_nextToken_98 : decode cX11_nextToken 98 = .ok (.goto 151, 3) := by decide +kernel
theorem dX11_nextToken_101 : decode cX11_nextToken 101 = .ok (.iload_n 1, 1) := by decide +kernel
theorem dX11_nextToken_102 : decode cX11_nextToken 102 = .ok (.invokestatic 141, 3) := by decide +kernel
theorem dX11_nextToken_105 : decode cX11_nextToken 105 = .ok (.ifCond .eq 49, 3) := by decide +kernel
theorem dX11_nextToken_108 : decode cX11_nextToken 108 = .ok (.aload_n 0, 1) := by decide +kernel
theorem dX11_nextToken_109 : decode cX11_nextToken 109 = .ok (.aload_n 0, 1) := by decide +kernel
theorem dX11_nextToken_110 : decode cX11_nextToken 110 = .ok (.getfield 117, 3) := by decide +kernel
theorem dX11_nextToken_113 : decode cX11_nextToken 113 = .ok (.invokevirtual 123, 3) := by decide +kernel
theorem dX11_nextToken_116 : decode cX11_nextToken 116 = .ok (.invokestatic 141, 3) := by decide +kernel
theorem dX11_nextToken_119 : decode cX11_nextToken 119 = .ok (.ifCond .eq 16, 3) := by decide +kernel
theorem dX11_nextToken_122 : decode cX11_nextToken 122 = .ok (.aload_n 0, 1) := by decide +kernel
theorem dX11_nextToken_123 : decode cX11_nextToken 123 = .ok (.dup, 1) := by decide +kernel
theorem dX11_nextToken_124 : decode cX11_nextToken 124 = .ok (.getfield 117, 3) := by decide +kernel
theorem dX11_nextToken_127 : decode cX11_nextToken 127 = .ok (.iconst 1, 1) := by decide +kernel
theorem dX11_nextToken_128 : decode cX11_nextToken 128 = .ok (.iadd, 1) := by decide +kernel
theorem dX11_nextToken_129 : decode cX11_nextToken 129 = .ok (.putfield 117, 3) := by decide +kernel
theorem dX11_nextToken_132 : decode cX11_nextToken 132 = .ok (.goto (-24), 3) := by decide +kernel
theorem dX11_nextToken_135 : decode cX11_nextToken 135 = .ok (.aload_n 0, 1) := by decide +kernel
theorem dX11_nextToken_136 : decode cX11_nextToken 136 = .ok (.aload_n 0, 1) := by decide +kernel
theorem dX11_nextToken_137 : decode cX11_nextToken 137 = .ok (.invokevirtual 144, 3) := by decide +kernel
theorem dX11_nextToken_140 : decode cX11_nextToken 140 = .ok (.putfield 131, 3) := by decide +kernel
theorem dX11_nextToken_143 : decode cX11_nextToken 143 = .ok (.aload_n 0, 1) := by decide +kernel
theorem dX11_nextToken_144 : decode cX11_nextToken 144 = .ok (.iload_n 1, 1) := by decide +kernel
theorem dX11_nextToken_145 : decode cX11_nextToken 145 = .ok (.bipush 65, 2) := by decide +kernel
theorem dX11_nextToken_147 : decode cX11_nextToken 147 = .ok (.isub, 1) := by decide +kernel
theorem dX11_nextToken_148 : decode cX11_nextToken 148 = .ok (.putfield 138, 3) := by decide +kernel
theorem dX11_nextToken_151 : decode cX11_nextToken 151 = .ok (.goto 98, 3) := by decide +kernel
theorem dX11_nextToken_154 : decode cX11_nextToken 154 = .ok (.iload_n 1, 1) := by decide +kernel
theorem dX11_nextToken_155 : decode cX11_nextToken 155 = .ok (.bipush 61, 2) := by decide +kernel
theorem dX11_nextToken_157 : decode cX11_nextToken 157 = .ok (.if_icmp .eq 63, 3) := by decide +kernel
theorem dX11_nextToken_160 : decode cX11_nextToken 160 = .ok (.iload_n 1, 1) := by decide +kernel
theorem dX11_nextToken_161 : decode cX11_nextToken 161 = .ok (.bipush 59, 2) := by decide +kernel
theorem dX11_nextToken_163 : decode cX11_nextToken 163 = .ok (.if_icmp .eq 57, 3) := by decide +kernel
theorem dX11_nextToken_166 : decode cX11_nextToken 166 = .ok (.iload_n 1, 1) := by decide +kernel
theorem dX11_nextToken_167 : decode cX11_nextToken 167 = .ok (.bipush 42, 2) := by decide +kernel
theorem dX11_nextToken_169 : decode cX11_nextToken 169 = .ok (.if_icmp .eq 51, 3) := by decide +kernel
theorem dX11_nextToken_172 : decode cX11_nextToken 172 = .ok (.iload_n 1, 1) := by decide +kernel
theorem dX11_nextToken_173 : decode cX11_nextToken 173 = .ok (.bipush 40, 2) := by decide +kernel
theorem dX11_nextToken_175 : decode cX11_nextToken 175 = .ok (.if_icmp .eq 45, 3) := by decide +kernel
theorem dX11_nextToken_178 : decode cX11_nextToken 178 = .ok (.iload_n 1, 1) := by decide +kernel
theorem dX11_nextToken_179 : decode cX11_nextToken 179 = .ok (.bipush 41, 2) := by decide +kernel
theorem dX11_nextToken_181 : decode cX11_nextToken 181 = .ok (.if_icmp .eq 39, 3) := by decide +kernel
theorem dX11_nextToken_184 : decode cX11_nextToken 184 = .ok (.iload_n 1, 1) := by decide +kernel
theorem dX11_nextToken_185 : decode cX11_nextToken 185 = .ok (.bipush 91, 2) := by decide +kernel
theorem dX11_nextToken_187 : decode cX11_nextToken 187 = .ok (.if_icmp .eq 33, 3) := by decide +kernel
theorem dX11_nextToken_190 : decode cX11_nextToken 190 = .ok (.iload_n 1, 1) := by decide +kernel
theorem dX11_nextToken_191 : decode cX11_nextToken 191 = .ok (.bipush 93, 2) := by decide +kernel
theorem dX11_nextToken_193 : decode cX11_nextToken 193 = .ok (.if_icmp .eq 27, 3) := by decide +kernel
theorem dX11_nextToken_196 : decode cX11_nextToken 196 = .ok (.iload_n 1, 1) := by decide +kernel
theorem dX11_nextToken_197 : decode cX11_nextToken 197 = .ok (.bipush 60, 2) := by decide +kernel
theorem dX11_nextToken_199 : decode cX11_nextToken 199 = .ok (.if_icmp .eq 21, 3) := by decide +kernel
theorem dX11_nextToken_202 : decode cX11_nextToken 202 = .ok (.iload_n 1, 1) := by decide +kernel
theorem dX11_nextToken_203 : decode cX11_nextToken 203 = .ok (.bipush 62, 2) := by decide +kernel
theorem dX11_nextToken_205 : decode cX11_nextToken 205 = .ok (.if_icmp .eq 15, 3) := by decide +kernel
theorem dX11_nextToken_208 : decode cX11_nextToken 208 = .ok (.iload_n 1, 1) := by decide +kernel
theorem dX11_nextToken_209 : decode cX11_nextToken 209 = .ok (.bipush 124, 2) := by decide +kernel
theorem dX11_nextToken_211 : decode cX11_nextToken 211 = .ok (.if_icmp .eq 9, 3) := by decide +kernel
theorem dX11_nextToken_214 : decode cX11_nextToken 214 = .ok (.iload_n 1, 1) := by decide +kernel
theorem dX11_nextToken_215 : decode cX11_nextToken 215 = .ok (.bipush 63, 2) := by decide +kernel
theorem dX11_nextToken_217 : decode cX11_nextToken 217 = .ok (.if_icmp .ne 7, 3) := by decide +kernel
theorem dX11_nextToken_220 : decode cX11_nextToken 220 = .ok (.iconst 1, 1) := by decide +kernel
theorem dX11_nextToken_221 : decode cX11_nextToken 221 = .ok (.goto 4, 3) := by decide +kernel
theorem dX11_nextToken_224 : decode cX11_nextToken 224 = .ok (.iconst 0, 1) := by decide +kernel
theorem dX11_nextToken_225 : decode cX11_nextToken 225 = .ok (.istore_n 2, 1) := by decide +kernel
theorem dX11_nextToken_226 : decode cX11_nextToken 226 = .ok (.aload_n 0, 1) := by decide +kernel
theorem dX11_nextToken_227 : decode cX11_nextToken 227 = .ok (.iload_n 2, 1) := by decide +kernel
theorem dX11_nextToken_228 : decode cX11_nextToken 228 = .ok (.ifCond .eq 7, 3) := by decide +kernel
theorem dX11_nextToken_231 : decode cX11_nextToken 231 = .ok (.iload_n 1, 1) := by decide +kernel
theorem dX11_nextToken_232 : decode cX11_nextToken 232 = .ok (.goto 4, 3) := by decide +kernel
theorem dX11_nextToken_235 : decode cX11_nextToken 235 = .ok (.iconst 3, 1) := by decide +kernel
theorem dX11_nextToken_236 : decode cX11_nextToken 236 = .ok (.putfield 131, 3) := by decide +kernel
theorem dX11_nextToken_239 : decode cX11_nextToken 239 = .ok (.aload_n 0, 1) := by decide +kernel
theorem dX11_nextToken_240 : decode cX11_nextToken 240 = .ok (.dup, 1) := by decide +kernel
theorem dX11_nextToken_241 : decode cX11_nextToken 241 = .ok (.getfield 117, 3) := by decide +kernel
theorem dX11_nextToken_244 : decode cX11_nextToken 244 = .ok (.iconst 1, 1) := by decide +kernel
theorem dX11_nextToken_245 : decode cX11_nextToken 245 = .ok (.iadd, 1) := by decide +kernel
theorem dX11_nextToken_246 : decode cX11_nextToken 246 = .ok (.putfield 117, 3) := by decide +kernel
theorem dX11_nextToken_249 : decode cX11_nextToken 249 = .ok (.return_, 1) := by decide +kernel
set_option maxRecDepth 20000 in
theorem ggX11_isWord_X11_see : GoodIn wsX11_isWord wsX11_see := goodIn_r _ [7, 8, 9, 10, 11, 12, 13, 14, 15, 16, 17, 18, 19, 20, 21, 22, 23, 24, 25, 26, 27, 28, 29, 30, 31, 32, 33, 34, 35, 36, 37, 38, 39, 40, 41, 42, 43, 44, 45, 46, 47, 48, 49, 50, 51, 52, 53, 54, 55, 56] (by decide +kernel) (by decide +kernel)
set_option maxRecDepth 20000 in
theorem gX11_isWord_X11_see : GoodIn wsX11_isWord (wsV RX11 123 RX11 yX11_see wsX11_see) := goodIn_app (goodIn_of _ (by decide +kernel)) ggX11_isWord_X11_see
set_option maxRecDepth 20000 in
theorem ggX11_wordOf_X11_see : GoodIn wsX11_wordOf wsX11_see := goodIn_r _ [7, 8, 9, 17, 18, 19, 20, 21, 22, 23, 24, 25, 26, 27, 28, 29, 30, 31, 32, 33, 34, 35, 36, 37, 38, 39, 40, 41, 42, 43, 44, 45, 46, 47, 48, 49, 50, 51, 52, 53, 54, 55, 56, 57, 58, 59, 60, 61, 62, 63] (by decide +kernel) (by decide +kernel)
set_option maxRecDepth 20000 in
theorem gX11_wordOf_X11_see : GoodIn wsX11_wordOf (wsV RX11 123 RX11 yX11_see wsX11_see) := goodIn_app (goodIn_of _ (by decide +kernel)) ggX11_wordOf_X11_see
set_option maxRecDepth 20000 in
theorem ggX11_wordOf_X11_isIn : GoodIn wsX11_wordOf wsX11_isIn := goodIn_r _ [12] (by decide +kernel) (by decide +kernel)
set_option maxRecDepth 20000 in
theorem gX11_wordOf_X11_isIn : GoodIn wsX11_wordOf (va_wsS RX11 100 yX11_isIn wsX11_isIn) := goodIn_app (goodIn_of _ (by decide +kernel)) ggX11_wordOf_X11_isIn
set_option maxRecDepth 20000 in
theorem ggX11_wordOf_X11_isWord : GoodIn wsX11_wordOf wsX11_isWord := goodIn_r _ [16, 1, 2, 3, 4, 5, 6, 7, 8, 9, 17, 18, 19, 20, 21, 22, 23, 24, 25, 26, 27, 28, 29, 30, 31, 32, 33, 34, 35, 36, 37, 38, 39, 40, 41, 42, 43, 44, 45, 46, 47, 48, 49, 50, 51, 52, 53, 54, 55, 56, 57, 58, 59, 60, 61, 62, 63] (by decide +kernel) (by decide +kernel)
set_option maxRecDepth 20000 in
theorem gX11_wordOf_X11_isWord : GoodIn wsX11_wordOf (wsV RX11 127 RX11 yX11_isWord wsX11_isWord) := goodIn_app (goodIn_of _ (by decide +kernel)) ggX11_wordOf_X11_isWord
set_option maxRecDepth 20000 in
theorem ggX11_nextToken_X11_see : GoodIn wsX11_nextToken wsX11_see := goodIn_r _ [9, 10, 11, 29, 30, 31, 32, 33, 34, 35, 36, 37, 38, 39, 40, 41, 42, 43, 44, 45, 46, 47, 48, 49, 50, 51, 52, 53, 54, 55, 56, 57, 58, 59, 60, 61, 62, 63, 64, 65, 66, 67, 68, 69, 70, 71, 72, 73, 74, 75] (by decide +kernel) (by decide +kernel)
set_option maxRecDepth 20000 in
theorem gX11_nextToken_X11_see : GoodIn wsX11_nextToken (wsV RX11 123 RX11 yX11_see wsX11_see) := goodIn_app (goodIn_of _ (by decide +kernel)) ggX11_nextToken_X11_see
set_option maxRecDepth 20000 in
theorem ggX11_nextToken_X11_isDigit : GoodIn wsX11_nextToken wsX11_isDigit := goodIn_r _ [14, 15, 16, 8, 17] (by decide +kernel) (by decide +kernel)
set_option maxRecDepth 20000 in
theorem gX11_nextToken_X11_isDigit : GoodIn wsX11_nextToken (va_wsS RX11 134 yX11_isDigit wsX11_isDigit) := goodIn_app (goodIn_of _ (by decide +kernel)) ggX11_nextToken_X11_isDigit
set_option maxRecDepth 20000 in
theorem ggX11_nextToken_X11_isLetter : GoodIn wsX11_nextToken wsX11_isLetter := goodIn_r _ [20, 15, 16, 8, 17] (by decide +kernel) (by decide +kernel)
set_option maxRecDepth 20000 in
theorem gX11_nextToken_X11_isLetter : GoodIn wsX11_nextToken (va_wsS RX11 141 yX11_isLetter wsX11_isLetter) := goodIn_app (goodIn_of _ (by decide +kernel)) ggX11_nextToken_X11_isLetter
set_option maxRecDepth 100000 in
set_option maxHeartbeats 4000000 in
theorem ggX11_nextToken_X11_wordOf : GoodIn wsX11_nextToken wsX11_wordOf := goodIn_r _ [24, 1, 2, 5, 6, 7, 8, 9, 10, 11, 15, 16, 17, 25, 26, 27, 28, 29, 30, 31, 32, 33, 34, 35, 36, 37, 38, 39, 40, 41, 42, 43, 44, 45, 46, 47, 48, 49, 50, 51, 52, 53, 54, 55, 56, 57, 58, 59, 60, 61, 62, 63, 64, 65, 66, 67, 68, 69, 70, 71, 72, 73, 74, 75] (by with_unfolding_all rfl) (by decide +kernel)
set_option maxRecDepth 20000 in
theorem gX11_nextToken_X11_wordOf : GoodIn wsX11_nextToken (wsV RX11 144 RX11 yX11_wordOf wsX11_wordOf) := goodIn_app (goodIn_of _ (by decide +kernel)) ggX11_nextToken_X11_wordOf
/-- a cell of a row of the reference -/
def CellX (jn : Nat) (c : Int32) : Prop := 0 ≤ c.toInt ∧ c.toInt < 40 ∧ c.toInt % 4 < (jn : Int) ∧ (c.toInt = 0 ∨ 4 ≤ c.toInt)
/-- the cells from lo on, up to hi; of two at a place the first isn't empty if the second isn't -/
def CellsX (jn : Nat) (R : Nat → Int32) (lo hi : Int) : Prop := (∀ i : Int, lo ≤ i → i < hi → CellX jn (R i.toNat)) ∧ ∀ k : Int, 0 ≤ k → lo + 2 * k + 1 < hi → (R (lo + 2 * k).toNat).toInt = 0 → (R (lo + 2 * k + 1).toNat).toInt = 0
theorem b01 {r : Int32} (h : r.toInt = 0 ∨ r.toInt = 1) : r = 0 ∨ r = 1 := by
  rcases h with h | h
  · exact Or.inl (Int32.toInt_inj.mp (by rw [h]; decide))
  · exact Or.inr (Int32.toInt_inj.mp (by rw [h]; decide))
/-- a token and its worth -/
def TokOK (t v : Int32) : Prop := 0 ≤ t.toInt ∧ (t.toInt = 1 → 0 ≤ v.toInt ∧ v.toInt ≤ 9) ∧ (t.toInt = 2 → 0 ≤ v.toInt ∧ v.toInt ≤ 7)
def RowX (jn : Nat) (R : Nat → Int32) (r : Int) : Prop := 0 ≤ (R r.toNat).toInt ∧ (R r.toNat).toInt ≤ 24 ∧ CellsX jn R (r + 1) (r + 1 + 6 * (R r.toNat).toInt)
def RowsX (jn : Nat) (R : Nat → Int32) : Prop := ∀ t k : Int, 0 ≤ t → t ≤ 60 → 0 ≤ k → k < 8 → RowX jn R (150 * (8 * t + k))
/-- a row that is there -/
def IsRow (jn : Nat) (R : Nat → Int32) (r : Int) : Prop := 0 ≤ r ∧ r + 150 ≤ 73200 ∧ 1 ≤ (R r.toNat).toInt ∧ RowX jn R r
set_option maxRecDepth 100000 in
set_option maxHeartbeats 4000000 in
theorem k_isIn (l : Launch) (D : va_G) (cI cR cM : ClassId) (sz : Nat) {a lo hi : Int32}   : Met l yX11_isIn wsX11_isIn ({ frames := 0, cells := 0, slots := 0, locals := 0 }) (P0 D cI cR cM [.int a, .int lo, .int hi] sz []) (QP (fun r => ((r.toInt = 1 ∧ lo.toInt ≤ a.toInt ∧ a.toInt ≤ hi.toInt) ∨ (r.toInt = 0 ∧ (a.toInt < lo.toInt ∨ hi.toInt < a.toInt)))) sz) 0 0 (va_A [] sz) := by
  refine go (cc := cX11_isIn) (maxL := 3) (ret := (some .boolean)) (by decide) rfl (Nat.le_of_ble_eq_true rfl) ?_
  intro p e s m below meth c ls args Q hQ hsz hx hb hr hml hts hown hlocks hnm hP hK hD hl
  subst hsz
  have hS : va_S (va_A [] s.heap.size) s.heap s.heap [] := va_S.rf
  have hA : ∀ q, s.heap.size ≤ q → va_A [] s.heap.size q := fun q h => Or.inr h
  have hl : lv_has ls 3 [(0, .int a), (1, .int lo), (2, .int hi)] := hl
  refine lv_iload_n hx hb dX11_isIn_0 rfl (lv_at hl 0 rfl) ?_
  refine lv_iload_n hx hb dX11_isIn_1 rfl (lv_at hl 1 rfl) ?_
  refine a_icmp_lt (u := a.toInt) (v := lo.toInt) (tgt := 14) hx hb dX11_isIn_2 (by decide) (rfl) (rfl) (fun c_1 => ?_) (fun c_1 => ?_)
  · refine lv_iconst (v := 0) hx hb dX11_isIn_14 (by decide) ?_
    have hz_2 : (0 : Int32).toInt = 0 := by decide
    exact rp_zret hx hb hr hlocks hS (by first | exact Or.inl rfl | exact Or.inr rfl) (show ((0 : Int32).toInt = 1 ∧ lo.toInt ≤ a.toInt ∧ a.toInt ≤ hi.toInt) ∨ ((0 : Int32).toInt = 0 ∧ (a.toInt < lo.toInt ∨ hi.toInt < a.toInt)) from (by first | assumption | omega)) hQ dX11_isIn_15
  · refine lv_iload_n hx hb dX11_isIn_5 rfl (lv_at hl 0 rfl) ?_
    refine lv_iload_n hx hb dX11_isIn_6 rfl (lv_at hl 2 rfl) ?_
    refine a_icmp_gt (u := a.toInt) (v := hi.toInt) (tgt := 14) hx hb dX11_isIn_7 (by decide) (rfl) (rfl) (fun c_3 => ?_) (fun c_3 => ?_)
    · refine lv_iconst (v := 0) hx hb dX11_isIn_14 (by decide) ?_
      have hz_4 : (0 : Int32).toInt = 0 := by decide
      exact rp_zret hx hb hr hlocks hS (by first | exact Or.inl rfl | exact Or.inr rfl) (show ((0 : Int32).toInt = 1 ∧ lo.toInt ≤ a.toInt ∧ a.toInt ≤ hi.toInt) ∨ ((0 : Int32).toInt = 0 ∧ (a.toInt < lo.toInt ∨ hi.toInt < a.toInt)) from (by first | assumption | omega)) hQ dX11_isIn_15
    · refine lv_iconst (v := 1) hx hb dX11_isIn_10 (by decide) ?_
      refine lv_goto (tgt := 15) hx hb dX11_isIn_11 (by decide) ?_
      have hz_5 : (1 : Int32).toInt = 1 := by decide
      exact rp_zret hx hb hr hlocks hS (by first | exact Or.inl rfl | exact Or.inr rfl) (show ((1 : Int32).toInt = 1 ∧ lo.toInt ≤ a.toInt ∧ a.toInt ≤ hi.toInt) ∨ ((1 : Int32).toInt = 0 ∧ (a.toInt < lo.toInt ∨ hi.toInt < a.toInt)) from (by first | assumption | omega)) hQ dX11_isIn_15
set_option maxRecDepth 100000 in
set_option maxHeartbeats 4000000 in
theorem k_rowAt (l : Launch) (D : va_G) (cI cR cM : ClassId) (sz : Nat) {t k : Int32}  (h1 : 0 ≤ t.toInt ∧ t.toInt ≤ 60) (h2 : 0 ≤ k.toInt ∧ k.toInt < 8) : Met l yX11_rowAt wsX11_rowAt ({ frames := 0, cells := 0, slots := 0, locals := 0 }) (P0 D cI cR cM [.int t, .int k] sz []) (QP (fun r => (r.toInt = 150 * (8 * t.toInt + k.toInt))) sz) 0 0 (va_A [] sz) := by
  refine go (cc := cX11_rowAt) (maxL := 2) (ret := (some .int)) (by decide) rfl (Nat.le_of_ble_eq_true rfl) ?_
  intro p e s m below meth c ls args Q hQ hsz hx hb hr hml hts hown hlocks hnm hP hK hD hl
  subst hsz
  have hS : va_S (va_A [] s.heap.size) s.heap s.heap [] := va_S.rf
  have hA : ∀ q, s.heap.size ≤ q → va_A [] s.heap.size q := fun q h => Or.inr h
  have hl : lv_has ls 2 [(0, .int t), (1, .int k)] := hl
  refine lv_sipush (v := 150) hx hb dX11_rowAt_0 (by decide) ?_
  refine lv_bipush (v := 8) hx hb dX11_rowAt_3 (by decide) ?_
  refine lv_iload_n hx hb dX11_rowAt_5 rfl (lv_at hl 0 rfl) ?_
  refine a_imul (u := 8) (v := t.toInt) hx hb dX11_rowAt_6 (by decide) (rfl) (by omega) (fun z_1 e_1 => ?_)
  refine lv_iload_n hx hb dX11_rowAt_7 rfl (lv_at hl 1 rfl) ?_
  refine a_iadd (u := (8 * t.toInt)) (v := k.toInt) hx hb dX11_rowAt_8 (e_1) (rfl) (by omega) (fun z_2 e_2 => ?_)
  refine a_imul (u := 150) (v := ((8 * t.toInt) + k.toInt)) hx hb dX11_rowAt_9 (by decide) (e_2) (by omega) (fun z_3 e_3 => ?_)
  exact rp_iret hx hb hr hlocks hS (show z_3.toInt = 150 * (8 * t.toInt + k.toInt) from (by first | assumption | omega)) hQ dX11_rowAt_10
set_option maxRecDepth 100000 in
set_option maxHeartbeats 4000000 in
theorem k_latest (l : Launch) (D : va_G) (cI cR cM : ClassId) (sz : Nat) {jn mm : Nat} {q : Nat → Nat} {x0 x1 x2 x3 x4 x5 x6 x7 x8 x9 x10 x11 x12 x13 x14 x15 x16 x17 x18 x19 x20 : Int32} {f0 f1 f2 f3 f4 f5 f6 f7 f8 f9 f10 f11 f12 f13 f14 f15 f16 f17 f18 f19 f20 f21 f22 f23 f24 : Nat → Int32} {k t : Int32}  (h1 : 0 ≤ t.toInt ∧ t.toInt ≤ 60) (h2 : 0 ≤ k.toInt ∧ k.toInt < 8) (hR : RowsX jn f0) : Met l yX11_latest wsX11_latest ({ frames := 1, cells := 0, slots := 0, locals := 21 }) (P0 D cI cR cM [.ref mm, .int k, .int t] sz (mX mm q jn cI x0 x1 x2 x3 x4 x5 x6 x7 x8 x9 x10 x11 x12 x13 x14 x15 x16 x17 x18 x19 x20 f0 f1 f2 f3 f4 f5 f6 f7 f8 f9 f10 f11 f12 f13 f14 f15 f16 f17 f18 f19 f20 f21 f22 f23 f24)) (QP (fun r => (r.toInt = -1 ∨ IsRow jn f0 r.toInt)) sz) 0 0 (va_A [] sz) := by
  refine go (cc := cX11_latest) (maxL := 4) (ret := (some .int)) (by decide) rfl (Nat.le_of_ble_eq_true rfl) ?_
  intro p e s m below meth c ls args Q hQ hsz hx hb hr hml hts hown hlocks hnm hP hK hD hl
  subst hsz
  have hS : va_S (va_A [] s.heap.size) s.heap s.heap [] := va_S.rf
  have hA : ∀ q, s.heap.size ≤ q → va_A [] s.heap.size q := fun q h => Or.inr h
  have hl : lv_has ls 4 [(0, .ref mm), (1, .int k), (2, .int t)] := hl
  refine lv_iload_n hx hb dX11_latest_0 rfl (lv_at hl 2 rfl) ?_
  refine lv_istore_n (lv' := [(3, .int t), (0, .ref mm), (1, .int k), (2, .int t)]) hx hb dX11_latest_1 rfl hl (by decide) rfl (fun ls hl => ?_)
  have loop2 : ∀ (ddloop2 : Nat) (i : Int32) (H : Heap) (locs : List Loc) (ls : Array Slot), (i.toInt).toNat < ddloop2 → (0 ≤ i.toInt ∧ i.toInt ≤ 60) → va_P D vwCl (mX mm q jn cI x0 x1 x2 x3 x4 x5 x6 x7 x8 x9 x10 x11 x12 x13 x14 x15 x16 x17 x18 x19 x20 f0 f1 f2 f3 f4 f5 f6 f7 f8 f9 f10 f11 f12 f13 f14 f15 f16 f17 f18 f19 f20 f21 f22 f23 f24) H → va_S (va_A [] s.heap.size) s.heap H locs → lv_has ls 4 [(0, .ref mm), (1, .int k), (2, .int t), (3, .int i)] → W p l e ({ frames := 1, cells := 0, slots := 0, locals := 21 }) s m args below meth c H locs 0 0 Q (F0 m 2 ls []) := by
    intro ddloop2
    induction ddloop2 with
    | zero =>
      intro i H locs ls hdd
      exact absurd hdd (Nat.not_lt_zero _)
    | succ ddloop2 ih2 =>
      intro i H locs ls hdd hi hP hS hl
      refine lv_iload_n hx hb dX11_latest_2 rfl (lv_at hl 3 rfl) ?_
      refine a_if_le (u := i.toInt) (tgt := 31) hx hb dX11_latest_3 (by decide) (rfl) (fun c_1 => ?_) (fun c_1 => ?_)
      · refine lv_iconst (v := (-1)) hx hb dX11_latest_31 (by decide) ?_
        have hz_2 : (-1 : Int32).toInt = (-1) := by decide
        exact rp_iret hx hb hr hlocks hS (show (-1 : Int32).toInt = -1 ∨ IsRow jn f0 (-1 : Int32).toInt from (Or.inl (by omega))) hQ dX11_latest_32
      · refine lv_aload_n hx hb dX11_latest_6 rfl (lv_at hl 0 rfl) ?_
        refine va_get (D := D) (ci := 11) (v := .ref (q 0)) (C := RX11) (T := TX11) (N := 47) hx hb hts (by decide +kernel) hown hK.1 hP 0 rfl rfl 1 (by decide) (hts (.fieldLink RX11 8 "JugglingHallModel" "rows" "[I") (by decide +kernel)) (fun _ h9 => h9) rfl dX11_latest_7 ?_
        refine lv_iload_n hx hb dX11_latest_10 rfl (lv_at hl 3 rfl) ?_
        refine lv_iload_n hx hb dX11_latest_11 rfl (lv_at hl 1 rfl) ?_
        refine roP (va_runS (As := [.int i, .int k]) (rest := [.ref (q 0)]) ⟨hx, hb, hml, hown, hts⟩ (k_rowAt l D cI cR cM _  (by first | assumption | omega) (by first | assumption | omega)) (va_cwS 2 hts gX11_latest_X11_rowAt rfl rfl rfl (by decide +kernel) ⟨Nat.le_of_ble_eq_true rfl, Nat.le_of_ble_eq_true rfl⟩) (pre_S hK va_P_nil (va_D_nil (A := fun _ => True))) rfl rfl hl.1 rfl (lv_room (Nat.le_of_ble_eq_true rfl)) dX11_latest_12 ⟨Nat.le_of_ble_eq_true rfl, Nat.le_of_ble_eq_true rfl⟩) hS hA hP (fun r_3 H locs hw hP hS => ?_)
        have h_3 : (r_3.toInt = 150 * (8 * i.toInt + k.toInt)) := hw
        refine a_iald (f := f0) (u := r_3.toInt) hx hb hK.1 hP 1 0 rfl rfl dX11_latest_15 (rfl) (by omega) (fun z_4 q_4 e_4 => ?_)
        refine a_if_le (u := z_4.toInt) (tgt := 25) hx hb dX11_latest_16 (by decide) (rfl) (fun c_5 => ?_) (fun c_5 => ?_)
        · obtain ⟨z_6, q_6, e_6⟩ := i_inc (a := i.toInt) (-1) (rfl) (by decide) (by omega) (by omega)
          refine lv_iinc (v := z_6) (lv' := [(3, .int z_6), (0, .ref mm), (1, .int k), (2, .int t)]) hx hb dX11_latest_25 hl (k := 3) rfl q_6 (by decide) rfl (fun ls hl => ?_)
          refine lv_goto (tgt := 2) hx hb dX11_latest_28 (by decide) ?_
          exact ih2 z_6 _ _ _ (by omega) (by first | assumption | omega) hP hS (lv_sub hl [1, 2, 3, 0] rfl)
        · refine lv_iload_n hx hb dX11_latest_19 rfl (lv_at hl 3 rfl) ?_
          refine lv_iload_n hx hb dX11_latest_20 rfl (lv_at hl 1 rfl) ?_
          refine roP (va_runS (As := [.int i, .int k]) (rest := []) ⟨hx, hb, hml, hown, hts⟩ (k_rowAt l D cI cR cM _  (by first | assumption | omega) (by first | assumption | omega)) (va_cwS 2 hts gX11_latest_X11_rowAt rfl rfl rfl (by decide +kernel) ⟨Nat.le_of_ble_eq_true rfl, Nat.le_of_ble_eq_true rfl⟩) (pre_S hK va_P_nil (va_D_nil (A := fun _ => True))) rfl rfl hl.1 rfl (lv_room (Nat.le_of_ble_eq_true rfl)) dX11_latest_21 ⟨Nat.le_of_ble_eq_true rfl, Nat.le_of_ble_eq_true rfl⟩) hS hA hP (fun r_7 H locs hw hP hS => ?_)
          have h_7 : (r_7.toInt = 150 * (8 * i.toInt + k.toInt)) := hw
          exact rp_iret hx hb hr hlocks hS (show r_7.toInt = -1 ∨ IsRow jn f0 r_7.toInt from (Or.inr (by have hq2 := hR i.toInt k.toInt (by omega) (by omega) (by omega) (by omega); have hq3 : 150 * (8 * i.toInt + k.toInt) = r_7.toInt := (by omega); have hq4 : r_3.toInt = r_7.toInt := (by omega); rw [hq3] at hq2; rw [hq4] at e_4; exact ⟨by omega, by omega, by omega, hq2⟩))) hQ dX11_latest_24
  exact loop2 ((t.toInt).toNat + 1) t _ _ _ (by omega) (by first | assumption | omega) hP hS (lv_sub hl [1, 2, 3, 0] rfl)
set_option maxRecDepth 100000 in
set_option maxHeartbeats 4000000 in
theorem k_rowOf (l : Launch) (D : va_G) (cI cR cM : ClassId) (sz : Nat) {jn mm : Nat} {q : Nat → Nat} {x0 x1 x2 x3 x4 x5 x6 x7 x8 x9 x10 x11 x12 x13 x14 x15 x16 x17 x18 x19 x20 : Int32} {f0 f1 f2 f3 f4 f5 f6 f7 f8 f9 f10 f11 f12 f13 f14 f15 f16 f17 f18 f19 f20 f21 f22 f23 f24 : Nat → Int32} {k : Int32}  (h1 : 0 ≤ x1.toInt ∧ x1.toInt ≤ 60) (hR : RowsX jn f0) : Met l yX11_rowOf wsX11_rowOf ({ frames := 2, cells := 0, slots := 0, locals := 44 }) (P0 D cI cR cM [.ref mm, .int k] sz (mX mm q jn cI x0 x1 x2 x3 x4 x5 x6 x7 x8 x9 x10 x11 x12 x13 x14 x15 x16 x17 x18 x19 x20 f0 f1 f2 f3 f4 f5 f6 f7 f8 f9 f10 f11 f12 f13 f14 f15 f16 f17 f18 f19 f20 f21 f22 f23 f24)) (QP (fun r => (r.toInt = -1 ∨ IsRow jn f0 r.toInt)) sz) 0 0 (va_A [] sz) := by
  refine go (cc := cX11_rowOf) (maxL := 2) (ret := (some .int)) (by decide) rfl (Nat.le_of_ble_eq_true rfl) ?_
  intro p e s m below meth c ls args Q hQ hsz hx hb hr hml hts hown hlocks hnm hP hK hD hl
  subst hsz
  have hS : va_S (va_A [] s.heap.size) s.heap s.heap [] := va_S.rf
  have hA : ∀ q, s.heap.size ≤ q → va_A [] s.heap.size q := fun q h => Or.inr h
  have hl : lv_has ls 2 [(0, .ref mm), (1, .int k)] := hl
  refine lv_iload_n hx hb dX11_rowOf_0 rfl (lv_at hl 1 rfl) ?_
  refine lv_iconst (v := 0) hx hb dX11_rowOf_1 (by decide) ?_
  refine lv_bipush (v := 7) hx hb dX11_rowOf_2 (by decide) ?_
  have hz_1 : (0 : Int32).toInt = 0 := by decide
  have hz_2 : (7 : Int32).toInt = 7 := by decide
  refine roP (va_runS (As := [.int k, .int 0, .int 7]) (rest := []) ⟨hx, hb, hml, hown, hts⟩ (k_isIn l D cI cR cM _  ) (va_cwS 3 hts gX11_rowOf_X11_isIn rfl rfl rfl (by decide +kernel) ⟨Nat.le_of_ble_eq_true rfl, Nat.le_of_ble_eq_true rfl⟩) (pre_S hK va_P_nil (va_D_nil (A := fun _ => True))) rfl rfl hl.1 rfl (lv_room (Nat.le_of_ble_eq_true rfl)) dX11_rowOf_4 ⟨Nat.le_of_ble_eq_true rfl, Nat.le_of_ble_eq_true rfl⟩) hS hA hP (fun r_3 H locs hw hP hS => ?_)
  have h_3 : ((r_3.toInt = 1 ∧ (0 : Int32).toInt ≤ k.toInt ∧ k.toInt ≤ (7 : Int32).toInt) ∨ (r_3.toInt = 0 ∧ (k.toInt < (0 : Int32).toInt ∨ (7 : Int32).toInt < k.toInt))) := hw
  refine a_if_eq (u := r_3.toInt) (tgt := 22) hx hb dX11_rowOf_7 (by decide) (rfl) (fun c_4 => ?_) (fun c_4 => ?_)
  · refine lv_iconst (v := (-1)) hx hb dX11_rowOf_22 (by decide) ?_
    have hz_5 : (-1 : Int32).toInt = (-1) := by decide
    exact rp_iret hx hb hr hlocks hS (show (-1 : Int32).toInt = -1 ∨ IsRow jn f0 (-1 : Int32).toInt from (Or.inl (by omega))) hQ dX11_rowOf_23
  · refine lv_aload_n hx hb dX11_rowOf_10 rfl (lv_at hl 0 rfl) ?_
    refine lv_iload_n hx hb dX11_rowOf_11 rfl (lv_at hl 1 rfl) ?_
    refine lv_aload_n hx hb dX11_rowOf_12 rfl (lv_at hl 0 rfl) ?_
    refine va_get (D := D) (ci := 11) (v := .int x1) (C := RX11) (T := TX11) (N := 47) hx hb hts (by decide +kernel) hown hK.1 hP 0 rfl rfl 4 (by decide) (hts (.fieldLink RX11 104 "JugglingHallModel" "looked" "I") (by decide +kernel)) (fun _ h9 => h9) rfl dX11_rowOf_13 ?_
    refine roP (va_runV (As := [.int k, .int x1]) (rest := []) ⟨hx, hb, hml, hown, hts⟩ (k_latest l D cI cR cM _  (by first | assumption | omega) (by first | assumption | omega) (by first | assumption | omega)) (cwV 2 hts gX11_rowOf_X11_latest rfl rfl rfl (by decide +kernel) ⟨Nat.le_of_ble_eq_true rfl, Nat.le_of_ble_eq_true rfl⟩) (pre_V hK hP hD 0 11 rfl rfl) rfl rfl hl.1 rfl (lv_room (Nat.le_of_ble_eq_true rfl)) dX11_rowOf_16 ⟨Nat.le_of_ble_eq_true rfl, Nat.le_of_ble_eq_true rfl⟩) hS hA hP (fun r_6 H locs hw hP hS => ?_)
    have h_6 : (r_6.toInt = -1 ∨ IsRow jn f0 r_6.toInt) := hw
    refine lv_goto (tgt := 23) hx hb dX11_rowOf_19 (by decide) ?_
    exact rp_iret hx hb hr hlocks hS (show r_6.toInt = -1 ∨ IsRow jn f0 r_6.toInt from (h_6)) hQ dX11_rowOf_23
set_option maxRecDepth 100000 in
set_option maxHeartbeats 4000000 in
theorem k_heightAt (l : Launch) (D : va_G) (cI cR cM : ClassId) (sz : Nat) {jn mm : Nat} {q : Nat → Nat} {x0 x1 x2 x3 x4 x5 x6 x7 x8 x9 x10 x11 x12 x13 x14 x15 x16 x17 x18 x19 x20 : Int32} {f0 f1 f2 f3 f4 f5 f6 f7 f8 f9 f10 f11 f12 f13 f14 f15 f16 f17 f18 f19 f20 f21 f22 f23 f24 : Nat → Int32} {a b j k : Int32}  (h1 : 0 ≤ a.toInt ∧ a.toInt + 150 ≤ 73200) (h2 : 0 ≤ b.toInt ∧ b.toInt < 24) (h3 : 0 ≤ j.toInt ∧ j.toInt < 3) (h4 : 0 ≤ k.toInt ∧ k.toInt < 2) (h5 : 0 ≤ (f0 (a.toInt + 1 + 6 * b.toInt + 2 * j.toInt + k.toInt).toNat).toInt) : Met l yX11_heightAt wsX11_heightAt ({ frames := 0, cells := 0, slots := 0, locals := 0 }) (P0 D cI cR cM [.ref mm, .int a, .int b, .int j, .int k] sz (mX mm q jn cI x0 x1 x2 x3 x4 x5 x6 x7 x8 x9 x10 x11 x12 x13 x14 x15 x16 x17 x18 x19 x20 f0 f1 f2 f3 f4 f5 f6 f7 f8 f9 f10 f11 f12 f13 f14 f15 f16 f17 f18 f19 f20 f21 f22 f23 f24)) (QP (fun r => (r.toInt = (f0 (a.toInt + 1 + 6 * b.toInt + 2 * j.toInt + k.toInt).toNat).toInt / 4)) sz) 0 0 (va_A [] sz) := by
  refine go (cc := cX11_heightAt) (maxL := 5) (ret := (some .int)) (by decide) rfl (Nat.le_of_ble_eq_true rfl) ?_
  intro p e s m below meth c ls args Q hQ hsz hx hb hr hml hts hown hlocks hnm hP hK hD hl
  subst hsz
  have hS : va_S (va_A [] s.heap.size) s.heap s.heap [] := va_S.rf
  have hA : ∀ q, s.heap.size ≤ q → va_A [] s.heap.size q := fun q h => Or.inr h
  have hl : lv_has ls 5 [(0, .ref mm), (1, .int a), (2, .int b), (3, .int j), (4, .int k)] := hl
  refine lv_aload_n hx hb dX11_heightAt_0 rfl (lv_at hl 0 rfl) ?_
  refine va_get (D := D) (ci := 11) (v := .ref (q 0)) (C := RX11) (T := TX11) (N := 47) hx hb hts (by decide +kernel) hown hK.1 hP 0 rfl rfl 1 (by decide) (hts (.fieldLink RX11 8 "JugglingHallModel" "rows" "[I") (by decide +kernel)) (fun _ h9 => h9) rfl dX11_heightAt_1 ?_
  refine lv_iload_n hx hb dX11_heightAt_4 rfl (lv_at hl 1 rfl) ?_
  refine lv_iconst (v := 1) hx hb dX11_heightAt_5 (by decide) ?_
  refine a_iadd (u := a.toInt) (v := 1) hx hb dX11_heightAt_6 (rfl) (by decide) (by omega) (fun z_1 e_1 => ?_)
  refine lv_bipush (v := 6) hx hb dX11_heightAt_7 (by decide) ?_
  refine lv_iload_n hx hb dX11_heightAt_9 rfl (lv_at hl 2 rfl) ?_
  refine a_imul (u := 6) (v := b.toInt) hx hb dX11_heightAt_10 (by decide) (rfl) (by omega) (fun z_2 e_2 => ?_)
  refine a_iadd (u := (a.toInt + 1)) (v := (6 * b.toInt)) hx hb dX11_heightAt_11 (e_1) (e_2) (by omega) (fun z_3 e_3 => ?_)
  refine lv_iconst (v := 2) hx hb dX11_heightAt_12 (by decide) ?_
  refine lv_iload_n hx hb dX11_heightAt_13 rfl (lv_at hl 3 rfl) ?_
  refine a_imul (u := 2) (v := j.toInt) hx hb dX11_heightAt_14 (by decide) (rfl) (by omega) (fun z_4 e_4 => ?_)
  refine a_iadd (u := ((a.toInt + 1) + (6 * b.toInt))) (v := (2 * j.toInt)) hx hb dX11_heightAt_15 (e_3) (e_4) (by omega) (fun z_5 e_5 => ?_)
  refine lv_iload hx hb dX11_heightAt_16 (lv_at hl 4 rfl) ?_
  refine a_iadd (u := (((a.toInt + 1) + (6 * b.toInt)) + (2 * j.toInt))) (v := k.toInt) hx hb dX11_heightAt_18 (e_5) (rfl) (by omega) (fun z_6 e_6 => ?_)
  have ht_ : z_6.toInt = a.toInt + 1 + 6 * b.toInt + 2 * j.toInt + k.toInt := by omega
  refine a_iald (f := f0) (u := z_6.toInt) hx hb hK.1 hP 1 0 rfl rfl dX11_heightAt_19 (rfl) (by omega) (fun z_7 q_7 e_7 => ?_)
  rw [ht_] at e_7
  refine lv_iconst (v := 4) hx hb dX11_heightAt_20 (by decide) ?_
  refine a_idiv (u := z_7.toInt) (v := 4) hx hb dX11_heightAt_21 (rfl) (by decide) (by omega) (fun z_8 e_8 => ?_)
  exact rp_iret hx hb hr hlocks hS (show z_8.toInt = (f0 (a.toInt + 1 + 6 * b.toInt + 2 * j.toInt + k.toInt).toNat).toInt / 4 from (by first | assumption | omega)) hQ dX11_heightAt_22
set_option maxRecDepth 100000 in
set_option maxHeartbeats 4000000 in
theorem k_toAt (l : Launch) (D : va_G) (cI cR cM : ClassId) (sz : Nat) {jn mm : Nat} {q : Nat → Nat} {x0 x1 x2 x3 x4 x5 x6 x7 x8 x9 x10 x11 x12 x13 x14 x15 x16 x17 x18 x19 x20 : Int32} {f0 f1 f2 f3 f4 f5 f6 f7 f8 f9 f10 f11 f12 f13 f14 f15 f16 f17 f18 f19 f20 f21 f22 f23 f24 : Nat → Int32} {a b j k : Int32}  (h1 : 0 ≤ a.toInt ∧ a.toInt + 150 ≤ 73200) (h2 : 0 ≤ b.toInt ∧ b.toInt < 24) (h3 : 0 ≤ j.toInt ∧ j.toInt < 3) (h4 : 0 ≤ k.toInt ∧ k.toInt < 2) (h5 : 0 ≤ (f0 (a.toInt + 1 + 6 * b.toInt + 2 * j.toInt + k.toInt).toNat).toInt) : Met l yX11_toAt wsX11_toAt ({ frames := 0, cells := 0, slots := 0, locals := 0 }) (P0 D cI cR cM [.ref mm, .int a, .int b, .int j, .int k] sz (mX mm q jn cI x0 x1 x2 x3 x4 x5 x6 x7 x8 x9 x10 x11 x12 x13 x14 x15 x16 x17 x18 x19 x20 f0 f1 f2 f3 f4 f5 f6 f7 f8 f9 f10 f11 f12 f13 f14 f15 f16 f17 f18 f19 f20 f21 f22 f23 f24)) (QP (fun r => (r.toInt = (f0 (a.toInt + 1 + 6 * b.toInt + 2 * j.toInt + k.toInt).toNat).toInt % 4)) sz) 0 0 (va_A [] sz) := by
  refine go (cc := cX11_toAt) (maxL := 5) (ret := (some .int)) (by decide) rfl (Nat.le_of_ble_eq_true rfl) ?_
  intro p e s m below meth c ls args Q hQ hsz hx hb hr hml hts hown hlocks hnm hP hK hD hl
  subst hsz
  have hS : va_S (va_A [] s.heap.size) s.heap s.heap [] := va_S.rf
  have hA : ∀ q, s.heap.size ≤ q → va_A [] s.heap.size q := fun q h => Or.inr h
  have hl : lv_has ls 5 [(0, .ref mm), (1, .int a), (2, .int b), (3, .int j), (4, .int k)] := hl
  refine lv_aload_n hx hb dX11_toAt_0 rfl (lv_at hl 0 rfl) ?_
  refine va_get (D := D) (ci := 11) (v := .ref (q 0)) (C := RX11) (T := TX11) (N := 47) hx hb hts (by decide +kernel) hown hK.1 hP 0 rfl rfl 1 (by decide) (hts (.fieldLink RX11 8 "JugglingHallModel" "rows" "[I") (by decide +kernel)) (fun _ h9 => h9) rfl dX11_toAt_1 ?_
  refine lv_iload_n hx hb dX11_toAt_4 rfl (lv_at hl 1 rfl) ?_
  refine lv_iconst (v := 1) hx hb dX11_toAt_5 (by decide) ?_
  refine a_iadd (u := a.toInt) (v := 1) hx hb dX11_toAt_6 (rfl) (by decide) (by omega) (fun z_1 e_1 => ?_)
  refine lv_bipush (v := 6) hx hb dX11_toAt_7 (by decide) ?_
  refine lv_iload_n hx hb dX11_toAt_9 rfl (lv_at hl 2 rfl) ?_
  refine a_imul (u := 6) (v := b.toInt) hx hb dX11_toAt_10 (by decide) (rfl) (by omega) (fun z_2 e_2 => ?_)
  refine a_iadd (u := (a.toInt + 1)) (v := (6 * b.toInt)) hx hb dX11_toAt_11 (e_1) (e_2) (by omega) (fun z_3 e_3 => ?_)
  refine lv_iconst (v := 2) hx hb dX11_toAt_12 (by decide) ?_
  refine lv_iload_n hx hb dX11_toAt_13 rfl (lv_at hl 3 rfl) ?_
  refine a_imul (u := 2) (v := j.toInt) hx hb dX11_toAt_14 (by decide) (rfl) (by omega) (fun z_4 e_4 => ?_)
  refine a_iadd (u := ((a.toInt + 1) + (6 * b.toInt))) (v := (2 * j.toInt)) hx hb dX11_toAt_15 (e_3) (e_4) (by omega) (fun z_5 e_5 => ?_)
  refine lv_iload hx hb dX11_toAt_16 (lv_at hl 4 rfl) ?_
  refine a_iadd (u := (((a.toInt + 1) + (6 * b.toInt)) + (2 * j.toInt))) (v := k.toInt) hx hb dX11_toAt_18 (e_5) (rfl) (by omega) (fun z_6 e_6 => ?_)
  have ht_ : z_6.toInt = a.toInt + 1 + 6 * b.toInt + 2 * j.toInt + k.toInt := by omega
  refine a_iald (f := f0) (u := z_6.toInt) hx hb hK.1 hP 1 0 rfl rfl dX11_toAt_19 (rfl) (by omega) (fun z_7 q_7 e_7 => ?_)
  rw [ht_] at e_7
  refine lv_iconst (v := 4) hx hb dX11_toAt_20 (by decide) ?_
  refine a_irem (u := z_7.toInt) (v := 4) hx hb dX11_toAt_21 (rfl) (by decide) (by omega) (fun z_8 e_8 h_8 k_8 => ?_)
  exact rp_iret hx hb hr hlocks hS (show z_8.toInt = (f0 (a.toInt + 1 + 6 * b.toInt + 2 * j.toInt + k.toInt).toNat).toInt % 4 from (by first | assumption | omega)) hQ dX11_toAt_22
set_option maxRecDepth 100000 in
set_option maxHeartbeats 4000000 in
theorem k_heightOf (l : Launch) (D : va_G) (cI cR cM : ClassId) (sz : Nat) {jn mm : Nat} {q : Nat → Nat} {x0 x1 x2 x3 x4 x5 x6 x7 x8 x9 x10 x11 x12 x13 x14 x15 x16 x17 x18 x19 x20 : Int32} {f0 f1 f2 f3 f4 f5 f6 f7 f8 f9 f10 f11 f12 f13 f14 f15 f16 f17 f18 f19 f20 f21 f22 f23 f24 : Nat → Int32} {a t : Int32}  (h1 : 0 ≤ a.toInt ∧ a.toInt + 150 ≤ 73200) (h2 : 0 ≤ t.toInt ∧ t.toInt < 144) (h5 : 0 ≤ (f0 (a.toInt + 1 + t.toInt).toNat).toInt) : Met l yX11_heightOf wsX11_heightOf ({ frames := 0, cells := 0, slots := 0, locals := 0 }) (P0 D cI cR cM [.ref mm, .int a, .int t] sz (mX mm q jn cI x0 x1 x2 x3 x4 x5 x6 x7 x8 x9 x10 x11 x12 x13 x14 x15 x16 x17 x18 x19 x20 f0 f1 f2 f3 f4 f5 f6 f7 f8 f9 f10 f11 f12 f13 f14 f15 f16 f17 f18 f19 f20 f21 f22 f23 f24)) (QP (fun r => (r.toInt = (f0 (a.toInt + 1 + t.toInt).toNat).toInt / 4)) sz) 0 0 (va_A [] sz) := by
  refine go (cc := cX11_heightOf) (maxL := 3) (ret := (some .int)) (by decide) rfl (Nat.le_of_ble_eq_true rfl) ?_
  intro p e s m below meth c ls args Q hQ hsz hx hb hr hml hts hown hlocks hnm hP hK hD hl
  subst hsz
  have hS : va_S (va_A [] s.heap.size) s.heap s.heap [] := va_S.rf
  have hA : ∀ q, s.heap.size ≤ q → va_A [] s.heap.size q := fun q h => Or.inr h
  have hl : lv_has ls 3 [(0, .ref mm), (1, .int a), (2, .int t)] := hl
  refine lv_aload_n hx hb dX11_heightOf_0 rfl (lv_at hl 0 rfl) ?_
  refine va_get (D := D) (ci := 11) (v := .ref (q 0)) (C := RX11) (T := TX11) (N := 47) hx hb hts (by decide +kernel) hown hK.1 hP 0 rfl rfl 1 (by decide) (hts (.fieldLink RX11 8 "JugglingHallModel" "rows" "[I") (by decide +kernel)) (fun _ h9 => h9) rfl dX11_heightOf_1 ?_
  refine lv_iload_n hx hb dX11_heightOf_4 rfl (lv_at hl 1 rfl) ?_
  refine lv_iconst (v := 1) hx hb dX11_heightOf_5 (by decide) ?_
  refine a_iadd (u := a.toInt) (v := 1) hx hb dX11_heightOf_6 (rfl) (by decide) (by omega) (fun z_1 e_1 => ?_)
  refine lv_iload_n hx hb dX11_heightOf_7 rfl (lv_at hl 2 rfl) ?_
  refine a_iadd (u := (a.toInt + 1)) (v := t.toInt) hx hb dX11_heightOf_8 (e_1) (rfl) (by omega) (fun z_2 e_2 => ?_)
  refine a_iald (f := f0) (u := ((a.toInt + 1) + t.toInt)) hx hb hK.1 hP 1 0 rfl rfl dX11_heightOf_9 (e_2) (by omega) (fun z_3 q_3 e_3 => ?_)
  refine lv_iconst (v := 4) hx hb dX11_heightOf_10 (by decide) ?_
  refine a_idiv (u := z_3.toInt) (v := 4) hx hb dX11_heightOf_11 (rfl) (by decide) (by omega) (fun z_4 e_4 => ?_)
  exact rp_iret hx hb hr hlocks hS (show z_4.toInt = (f0 (a.toInt + 1 + t.toInt).toNat).toInt / 4 from (by first | assumption | omega)) hQ dX11_heightOf_12
set_option maxRecDepth 100000 in
set_option maxHeartbeats 4000000 in
theorem k_see (l : Launch) (D : va_G) (cI cR cM : ClassId) (sz : Nat) {jn mm : Nat} {q : Nat → Nat} {x0 x1 x2 x3 x4 x5 x6 x7 x8 x9 x10 x11 x12 x13 x14 x15 x16 x17 x18 x19 x20 : Int32} {f0 f1 f2 f3 f4 f5 f6 f7 f8 f9 f10 f11 f12 f13 f14 f15 f16 f17 f18 f19 f20 f21 f22 f23 f24 : Nat → Int32} {k : Int32}  (h1 : 0 ≤ k.toInt) (h2 : x2.toInt ≤ 300) : Met l yX11_see wsX11_see ({ frames := 0, cells := 0, slots := 0, locals := 0 }) (P0 D cI cR cM [.ref mm, .int k] sz (mX mm q jn cI x0 x1 x2 x3 x4 x5 x6 x7 x8 x9 x10 x11 x12 x13 x14 x15 x16 x17 x18 x19 x20 f0 f1 f2 f3 f4 f5 f6 f7 f8 f9 f10 f11 f12 f13 f14 f15 f16 f17 f18 f19 f20 f21 f22 f23 f24)) (QP (fun r => ((r.toInt = -1 ∧ x2.toInt ≤ k.toInt) ∨ (k.toInt < x2.toInt ∧ r.toInt = (f2 k.toInt.toNat).toInt))) sz) 0 0 (va_A [] sz) := by
  refine go (cc := cX11_see) (maxL := 2) (ret := (some .int)) (by decide) rfl (Nat.le_of_ble_eq_true rfl) ?_
  intro p e s m below meth c ls args Q hQ hsz hx hb hr hml hts hown hlocks hnm hP hK hD hl
  subst hsz
  have hS : va_S (va_A [] s.heap.size) s.heap s.heap [] := va_S.rf
  have hA : ∀ q, s.heap.size ≤ q → va_A [] s.heap.size q := fun q h => Or.inr h
  have hl : lv_has ls 2 [(0, .ref mm), (1, .int k)] := hl
  refine lv_iload_n hx hb dX11_see_0 rfl (lv_at hl 1 rfl) ?_
  refine lv_aload_n hx hb dX11_see_1 rfl (lv_at hl 0 rfl) ?_
  refine va_get (D := D) (ci := 11) (v := .int x2) (C := RX11) (T := TX11) (N := 47) hx hb hts (by decide +kernel) hown hK.1 hP 0 rfl rfl 6 (by decide) (hts (.fieldLink RX11 110 "JugglingHallModel" "taped" "I") (by decide +kernel)) (fun _ h9 => h9) rfl dX11_see_2 ?_
  refine a_icmp_ge (u := k.toInt) (v := x2.toInt) (tgt := 17) hx hb dX11_see_5 (by decide) (rfl) (rfl) (fun c_1 => ?_) (fun c_1 => ?_)
  · refine lv_iconst (v := (-1)) hx hb dX11_see_17 (by decide) ?_
    have hz_2 : (-1 : Int32).toInt = (-1) := by decide
    exact rp_iret hx hb hr hlocks hS (show ((-1 : Int32).toInt = -1 ∧ x2.toInt ≤ k.toInt) ∨ (k.toInt < x2.toInt ∧ (-1 : Int32).toInt = (f2 k.toInt.toNat).toInt) from (by first | assumption | omega)) hQ dX11_see_18
  · refine lv_aload_n hx hb dX11_see_8 rfl (lv_at hl 0 rfl) ?_
    refine va_get (D := D) (ci := 11) (v := .ref (q 2)) (C := RX11) (T := TX11) (N := 47) hx hb hts (by decide +kernel) hown hK.1 hP 0 rfl rfl 5 (by decide) (hts (.fieldLink RX11 17 "JugglingHallModel" "tape" "[I") (by decide +kernel)) (fun _ h9 => h9) rfl dX11_see_9 ?_
    refine lv_iload_n hx hb dX11_see_12 rfl (lv_at hl 1 rfl) ?_
    refine a_iald (f := f2) (u := k.toInt) hx hb hK.1 hP 3 0 rfl rfl dX11_see_13 (rfl) (by omega) (fun z_3 q_3 e_3 => ?_)
    refine lv_goto (tgt := 18) hx hb dX11_see_14 (by decide) ?_
    exact rp_iret hx hb hr hlocks hS (show (z_3.toInt = -1 ∧ x2.toInt ≤ k.toInt) ∨ (k.toInt < x2.toInt ∧ z_3.toInt = (f2 k.toInt.toNat).toInt) from (by first | assumption | omega)) hQ dX11_see_18
set_option maxRecDepth 100000 in
set_option maxHeartbeats 4000000 in
theorem k_isLetter (l : Launch) (D : va_G) (cI cR cM : ClassId) (sz : Nat) {x : Int32}   : Met l yX11_isLetter wsX11_isLetter ({ frames := 1, cells := 0, slots := 0, locals := 22 }) (P0 D cI cR cM [.int x] sz []) (QP (fun r => ((r.toInt = 1 ∧ 65 ≤ x.toInt ∧ x.toInt ≤ 122 ∧ (x.toInt ≤ 90 ∨ 97 ≤ x.toInt)) ∨ (r.toInt = 0 ∧ (x.toInt < 65 ∨ 122 < x.toInt ∨ (90 < x.toInt ∧ x.toInt < 97))))) sz) 0 0 (va_A [] sz) := by
  refine go (cc := cX11_isLetter) (maxL := 1) (ret := (some .boolean)) (by decide) rfl (Nat.le_of_ble_eq_true rfl) ?_
  intro p e s m below meth c ls args Q hQ hsz hx hb hr hml hts hown hlocks hnm hP hK hD hl
  subst hsz
  have hS : va_S (va_A [] s.heap.size) s.heap s.heap [] := va_S.rf
  have hA : ∀ q, s.heap.size ≤ q → va_A [] s.heap.size q := fun q h => Or.inr h
  have hl : lv_has ls 1 [(0, .int x)] := hl
  refine lv_iload_n hx hb dX11_isLetter_0 rfl (lv_at hl 0 rfl) ?_
  refine lv_bipush (v := 97) hx hb dX11_isLetter_1 (by decide) ?_
  refine lv_bipush (v := 122) hx hb dX11_isLetter_3 (by decide) ?_
  have hz_1 : (97 : Int32).toInt = 97 := by decide
  have hz_2 : (122 : Int32).toInt = 122 := by decide
  refine roP (va_runS (As := [.int x, .int 97, .int 122]) (rest := []) ⟨hx, hb, hml, hown, hts⟩ (k_isIn l D cI cR cM _  ) (va_cwS 3 hts gX11_isLetter_X11_isIn rfl rfl rfl (by decide +kernel) ⟨Nat.le_of_ble_eq_true rfl, Nat.le_of_ble_eq_true rfl⟩) (pre_S hK va_P_nil (va_D_nil (A := fun _ => True))) rfl rfl hl.1 rfl (lv_room (Nat.le_of_ble_eq_true rfl)) dX11_isLetter_5 ⟨Nat.le_of_ble_eq_true rfl, Nat.le_of_ble_eq_true rfl⟩) hS hA hP (fun r_3 H locs hw hP hS => ?_)
  have h_3 : ((r_3.toInt = 1 ∧ (97 : Int32).toInt ≤ x.toInt ∧ x.toInt ≤ (122 : Int32).toInt) ∨ (r_3.toInt = 0 ∧ (x.toInt < (97 : Int32).toInt ∨ (122 : Int32).toInt < x.toInt))) := hw
  refine a_if_ne (u := r_3.toInt) (tgt := 22) hx hb dX11_isLetter_8 (by decide) (rfl) (fun c_4 => ?_) (fun c_4 => ?_)
  · refine lv_iconst (v := 1) hx hb dX11_isLetter_22 (by decide) ?_
    refine lv_goto (tgt := 27) hx hb dX11_isLetter_23 (by decide) ?_
    have hz_5 : (1 : Int32).toInt = 1 := by decide
    exact rp_zret hx hb hr hlocks hS (by first | exact Or.inl rfl | exact Or.inr rfl) (show ((1 : Int32).toInt = 1 ∧ 65 ≤ x.toInt ∧ x.toInt ≤ 122 ∧ (x.toInt ≤ 90 ∨ 97 ≤ x.toInt)) ∨ ((1 : Int32).toInt = 0 ∧ (x.toInt < 65 ∨ 122 < x.toInt ∨ (90 < x.toInt ∧ x.toInt < 97))) from (by first | assumption | omega)) hQ dX11_isLetter_27
  · refine lv_iload_n hx hb dX11_isLetter_11 rfl (lv_at hl 0 rfl) ?_
    refine lv_bipush (v := 65) hx hb dX11_isLetter_12 (by decide) ?_
    refine lv_bipush (v := 90) hx hb dX11_isLetter_14 (by decide) ?_
    have hz_6 : (65 : Int32).toInt = 65 := by decide
    have hz_7 : (90 : Int32).toInt = 90 := by decide
    refine roP (va_runS (As := [.int x, .int 65, .int 90]) (rest := []) ⟨hx, hb, hml, hown, hts⟩ (k_isIn l D cI cR cM _  ) (va_cwS 3 hts gX11_isLetter_X11_isIn rfl rfl rfl (by decide +kernel) ⟨Nat.le_of_ble_eq_true rfl, Nat.le_of_ble_eq_true rfl⟩) (pre_S hK va_P_nil (va_D_nil (A := fun _ => True))) rfl rfl hl.1 rfl (lv_room (Nat.le_of_ble_eq_true rfl)) dX11_isLetter_16 ⟨Nat.le_of_ble_eq_true rfl, Nat.le_of_ble_eq_true rfl⟩) hS hA hP (fun r_8 H locs hw hP hS => ?_)
    have h_8 : ((r_8.toInt = 1 ∧ (65 : Int32).toInt ≤ x.toInt ∧ x.toInt ≤ (90 : Int32).toInt) ∨ (r_8.toInt = 0 ∧ (x.toInt < (65 : Int32).toInt ∨ (90 : Int32).toInt < x.toInt))) := hw
    refine a_if_eq (u := r_8.toInt) (tgt := 26) hx hb dX11_isLetter_19 (by decide) (rfl) (fun c_9 => ?_) (fun c_9 => ?_)
    · refine lv_iconst (v := 0) hx hb dX11_isLetter_26 (by decide) ?_
      have hz_10 : (0 : Int32).toInt = 0 := by decide
      exact rp_zret hx hb hr hlocks hS (by first | exact Or.inl rfl | exact Or.inr rfl) (show ((0 : Int32).toInt = 1 ∧ 65 ≤ x.toInt ∧ x.toInt ≤ 122 ∧ (x.toInt ≤ 90 ∨ 97 ≤ x.toInt)) ∨ ((0 : Int32).toInt = 0 ∧ (x.toInt < 65 ∨ 122 < x.toInt ∨ (90 < x.toInt ∧ x.toInt < 97))) from (by first | assumption | omega)) hQ dX11_isLetter_27
    · refine lv_iconst (v := 1) hx hb dX11_isLetter_22 (by decide) ?_
      refine lv_goto (tgt := 27) hx hb dX11_isLetter_23 (by decide) ?_
      have hz_11 : (1 : Int32).toInt = 1 := by decide
      exact rp_zret hx hb hr hlocks hS (by first | exact Or.inl rfl | exact Or.inr rfl) (show ((1 : Int32).toInt = 1 ∧ 65 ≤ x.toInt ∧ x.toInt ≤ 122 ∧ (x.toInt ≤ 90 ∨ 97 ≤ x.toInt)) ∨ ((1 : Int32).toInt = 0 ∧ (x.toInt < 65 ∨ 122 < x.toInt ∨ (90 < x.toInt ∧ x.toInt < 97))) from (by first | assumption | omega)) hQ dX11_isLetter_27
set_option maxRecDepth 100000 in
set_option maxHeartbeats 4000000 in
theorem k_isDigit (l : Launch) (D : va_G) (cI cR cM : ClassId) (sz : Nat) {x : Int32}   : Met l yX11_isDigit wsX11_isDigit ({ frames := 1, cells := 0, slots := 0, locals := 22 }) (P0 D cI cR cM [.int x] sz []) (QP (fun r => ((r.toInt = 1 ∧ 48 ≤ x.toInt ∧ x.toInt ≤ 57) ∨ (r.toInt = 0 ∧ (x.toInt < 48 ∨ 57 < x.toInt)))) sz) 0 0 (va_A [] sz) := by
  refine go (cc := cX11_isDigit) (maxL := 1) (ret := (some .boolean)) (by decide) rfl (Nat.le_of_ble_eq_true rfl) ?_
  intro p e s m below meth c ls args Q hQ hsz hx hb hr hml hts hown hlocks hnm hP hK hD hl
  subst hsz
  have hS : va_S (va_A [] s.heap.size) s.heap s.heap [] := va_S.rf
  have hA : ∀ q, s.heap.size ≤ q → va_A [] s.heap.size q := fun q h => Or.inr h
  have hl : lv_has ls 1 [(0, .int x)] := hl
  refine lv_iload_n hx hb dX11_isDigit_0 rfl (lv_at hl 0 rfl) ?_
  refine lv_bipush (v := 48) hx hb dX11_isDigit_1 (by decide) ?_
  refine lv_bipush (v := 57) hx hb dX11_isDigit_3 (by decide) ?_
  have hz_1 : (48 : Int32).toInt = 48 := by decide
  have hz_2 : (57 : Int32).toInt = 57 := by decide
  refine roP (va_runS (As := [.int x, .int 48, .int 57]) (rest := []) ⟨hx, hb, hml, hown, hts⟩ (k_isIn l D cI cR cM _  ) (va_cwS 3 hts gX11_isDigit_X11_isIn rfl rfl rfl (by decide +kernel) ⟨Nat.le_of_ble_eq_true rfl, Nat.le_of_ble_eq_true rfl⟩) (pre_S hK va_P_nil (va_D_nil (A := fun _ => True))) rfl rfl hl.1 rfl (lv_room (Nat.le_of_ble_eq_true rfl)) dX11_isDigit_5 ⟨Nat.le_of_ble_eq_true rfl, Nat.le_of_ble_eq_true rfl⟩) hS hA hP (fun r_3 H locs hw hP hS => ?_)
  have h_3 : ((r_3.toInt = 1 ∧ (48 : Int32).toInt ≤ x.toInt ∧ x.toInt ≤ (57 : Int32).toInt) ∨ (r_3.toInt = 0 ∧ (x.toInt < (48 : Int32).toInt ∨ (57 : Int32).toInt < x.toInt))) := hw
  exact rp_zret hx hb hr hlocks hS (b01 (by omega)) (show (r_3.toInt = 1 ∧ 48 ≤ x.toInt ∧ x.toInt ≤ 57) ∨ (r_3.toInt = 0 ∧ (x.toInt < 48 ∨ 57 < x.toInt)) from (by first | assumption | omega)) hQ dX11_isDigit_8
set_option maxRecDepth 100000 in
set_option maxHeartbeats 4000000 in
theorem k_isWord (l : Launch) (D : va_G) (cI cR cM : ClassId) (sz : Nat) {jn mm : Nat} {q : Nat → Nat} {x0 x1 x2 x3 x4 x5 x6 x7 x8 x9 x10 x11 x12 x13 x14 x15 x16 x17 x18 x19 x20 : Int32} {f0 f1 f2 f3 f4 f5 f6 f7 f8 f9 f10 f11 f12 f13 f14 f15 f16 f17 f18 f19 f20 f21 f22 f23 f24 : Nat → Int32} {n a b d g : Int32}  (ht : 0 ≤ x2.toInt ∧ x2.toInt ≤ 300) (h5 : 0 ≤ x5.toInt ∧ x5.toInt ≤ 300) (h6 : 0 ≤ x6.toInt ∧ x6.toInt ≤ 300) : Met l yX11_isWord wsX11_isWord ({ frames := 1, cells := 0, slots := 0, locals := 21 }) (P0 D cI cR cM [.ref mm, .int n, .int a, .int b, .int d, .int g] sz (mX mm q jn cI x0 x1 x2 x3 x4 x5 x6 x7 x8 x9 x10 x11 x12 x13 x14 x15 x16 x17 x18 x19 x20 f0 f1 f2 f3 f4 f5 f6 f7 f8 f9 f10 f11 f12 f13 f14 f15 f16 f17 f18 f19 f20 f21 f22 f23 f24)) (QP (fun r => (r.toInt = 0 ∨ r.toInt = 1)) sz) 0 0 (va_A [] sz) := by
  refine go (cc := cX11_isWord) (maxL := 6) (ret := (some .boolean)) (by decide) rfl (Nat.le_of_ble_eq_true rfl) ?_
  intro p e s m below meth c ls args Q hQ hsz hx hb hr hml hts hown hlocks hnm hP hK hD hl
  subst hsz
  have hS : va_S (va_A [] s.heap.size) s.heap s.heap [] := va_S.rf
  have hA : ∀ q, s.heap.size ≤ q → va_A [] s.heap.size q := fun q h => Or.inr h
  have hl : lv_has ls 6 [(0, .ref mm), (1, .int n), (2, .int a), (3, .int b), (4, .int d), (5, .int g)] := hl
  refine lv_aload_n hx hb dX11_isWord_0 rfl (lv_at hl 0 rfl) ?_
  refine va_get (D := D) (ci := 11) (v := .int x5) (C := RX11) (T := TX11) (N := 47) hx hb hts (by decide +kernel) hown hK.1 hP 0 rfl rfl 9 (by decide) (hts (.fieldLink RX11 117 "JugglingHallModel" "at" "I") (by decide +kernel)) (fun _ h9 => h9) rfl dX11_isWord_1 ?_
  refine lv_aload_n hx hb dX11_isWord_4 rfl (lv_at hl 0 rfl) ?_
  refine va_get (D := D) (ci := 11) (v := .int x6) (C := RX11) (T := TX11) (N := 47) hx hb hts (by decide +kernel) hown hK.1 hP 0 rfl rfl 10 (by decide) (hts (.fieldLink RX11 120 "JugglingHallModel" "place" "I") (by decide +kernel)) (fun _ h9 => h9) rfl dX11_isWord_5 ?_
  refine a_isub (u := x5.toInt) (v := x6.toInt) hx hb dX11_isWord_8 (rfl) (rfl) (by omega) (fun z_1 e_1 => ?_)
  refine lv_iload_n hx hb dX11_isWord_9 rfl (lv_at hl 1 rfl) ?_
  refine a_icmp_ne (u := (x5.toInt - x6.toInt)) (v := n.toInt) (tgt := 78) hx hb dX11_isWord_10 (by decide) (e_1) (rfl) (fun c_2 => ?_) (fun c_2 => ?_)
  · refine lv_iconst (v := 0) hx hb dX11_isWord_78 (by decide) ?_
    have hz_3 : (0 : Int32).toInt = 0 := by decide
    exact rp_zret hx hb hr hlocks hS (by first | exact Or.inl rfl | exact Or.inr rfl) (show (0 : Int32).toInt = 0 ∨ (0 : Int32).toInt = 1 from (by first | assumption | omega)) hQ dX11_isWord_79
  · refine lv_aload_n hx hb dX11_isWord_13 rfl (lv_at hl 0 rfl) ?_
    refine lv_aload_n hx hb dX11_isWord_14 rfl (lv_at hl 0 rfl) ?_
    refine va_get (D := D) (ci := 11) (v := .int x6) (C := RX11) (T := TX11) (N := 47) hx hb hts (by decide +kernel) hown hK.1 hP 0 rfl rfl 10 (by decide) (hts (.fieldLink RX11 120 "JugglingHallModel" "place" "I") (by decide +kernel)) (fun _ h9 => h9) rfl dX11_isWord_15 ?_
    refine roP (va_runV (As := [.int x6]) (rest := []) ⟨hx, hb, hml, hown, hts⟩ (k_see l D cI cR cM _  (by first | assumption | omega) (by first | assumption | omega)) (cwV 1 hts gX11_isWord_X11_see rfl rfl rfl (by decide +kernel) ⟨Nat.le_of_ble_eq_true rfl, Nat.le_of_ble_eq_true rfl⟩) (pre_V hK hP hD 0 11 rfl rfl) rfl rfl hl.1 rfl (lv_room (Nat.le_of_ble_eq_true rfl)) dX11_isWord_18 ⟨Nat.le_of_ble_eq_true rfl, Nat.le_of_ble_eq_true rfl⟩) hS hA hP (fun r_4 H locs hw hP hS => ?_)
    have h_4 : ((r_4.toInt = -1 ∧ x2.toInt ≤ x6.toInt) ∨ (x6.toInt < x2.toInt ∧ r_4.toInt = (f2 x6.toInt.toNat).toInt)) := hw
    refine lv_iload_n hx hb dX11_isWord_21 rfl (lv_at hl 2 rfl) ?_
    refine a_icmp_ne (u := r_4.toInt) (v := a.toInt) (tgt := 78) hx hb dX11_isWord_22 (by decide) (rfl) (rfl) (fun c_5 => ?_) (fun c_5 => ?_)
    · refine lv_iconst (v := 0) hx hb dX11_isWord_78 (by decide) ?_
      have hz_6 : (0 : Int32).toInt = 0 := by decide
      exact rp_zret hx hb hr hlocks hS (by first | exact Or.inl rfl | exact Or.inr rfl) (show (0 : Int32).toInt = 0 ∨ (0 : Int32).toInt = 1 from (by first | assumption | omega)) hQ dX11_isWord_79
    · refine lv_aload_n hx hb dX11_isWord_25 rfl (lv_at hl 0 rfl) ?_
      refine lv_aload_n hx hb dX11_isWord_26 rfl (lv_at hl 0 rfl) ?_
      refine va_get (D := D) (ci := 11) (v := .int x6) (C := RX11) (T := TX11) (N := 47) hx hb hts (by decide +kernel) hown hK.1 hP 0 rfl rfl 10 (by decide) (hts (.fieldLink RX11 120 "JugglingHallModel" "place" "I") (by decide +kernel)) (fun _ h9 => h9) rfl dX11_isWord_27 ?_
      refine lv_iconst (v := 1) hx hb dX11_isWord_30 (by decide) ?_
      refine a_iadd (u := x6.toInt) (v := 1) hx hb dX11_isWord_31 (rfl) (by decide) (by omega) (fun z_7 e_7 => ?_)
      refine roP (va_runV (As := [.int z_7]) (rest := []) ⟨hx, hb, hml, hown, hts⟩ (k_see l D cI cR cM _  (by first | assumption | omega) (by first | assumption | omega)) (cwV 1 hts gX11_isWord_X11_see rfl rfl rfl (by decide +kernel) ⟨Nat.le_of_ble_eq_true rfl, Nat.le_of_ble_eq_true rfl⟩) (pre_V hK hP hD 0 11 rfl rfl) rfl rfl hl.1 rfl (lv_room (Nat.le_of_ble_eq_true rfl)) dX11_isWord_32 ⟨Nat.le_of_ble_eq_true rfl, Nat.le_of_ble_eq_true rfl⟩) hS hA hP (fun r_8 H locs hw hP hS => ?_)
      have h_8 : ((r_8.toInt = -1 ∧ x2.toInt ≤ z_7.toInt) ∨ (z_7.toInt < x2.toInt ∧ r_8.toInt = (f2 z_7.toInt.toNat).toInt)) := hw
      refine lv_iload_n hx hb dX11_isWord_35 rfl (lv_at hl 3 rfl) ?_
      refine a_icmp_ne (u := r_8.toInt) (v := b.toInt) (tgt := 78) hx hb dX11_isWord_36 (by decide) (rfl) (rfl) (fun c_9 => ?_) (fun c_9 => ?_)
      · refine lv_iconst (v := 0) hx hb dX11_isWord_78 (by decide) ?_
        have hz_10 : (0 : Int32).toInt = 0 := by decide
        exact rp_zret hx hb hr hlocks hS (by first | exact Or.inl rfl | exact Or.inr rfl) (show (0 : Int32).toInt = 0 ∨ (0 : Int32).toInt = 1 from (by first | assumption | omega)) hQ dX11_isWord_79
      · refine lv_aload_n hx hb dX11_isWord_39 rfl (lv_at hl 0 rfl) ?_
        refine lv_aload_n hx hb dX11_isWord_40 rfl (lv_at hl 0 rfl) ?_
        refine va_get (D := D) (ci := 11) (v := .int x6) (C := RX11) (T := TX11) (N := 47) hx hb hts (by decide +kernel) hown hK.1 hP 0 rfl rfl 10 (by decide) (hts (.fieldLink RX11 120 "JugglingHallModel" "place" "I") (by decide +kernel)) (fun _ h9 => h9) rfl dX11_isWord_41 ?_
        refine lv_iconst (v := 2) hx hb dX11_isWord_44 (by decide) ?_
        refine a_iadd (u := x6.toInt) (v := 2) hx hb dX11_isWord_45 (rfl) (by decide) (by omega) (fun z_11 e_11 => ?_)
        refine roP (va_runV (As := [.int z_11]) (rest := []) ⟨hx, hb, hml, hown, hts⟩ (k_see l D cI cR cM _  (by first | assumption | omega) (by first | assumption | omega)) (cwV 1 hts gX11_isWord_X11_see rfl rfl rfl (by decide +kernel) ⟨Nat.le_of_ble_eq_true rfl, Nat.le_of_ble_eq_true rfl⟩) (pre_V hK hP hD 0 11 rfl rfl) rfl rfl hl.1 rfl (lv_room (Nat.le_of_ble_eq_true rfl)) dX11_isWord_46 ⟨Nat.le_of_ble_eq_true rfl, Nat.le_of_ble_eq_true rfl⟩) hS hA hP (fun r_12 H locs hw hP hS => ?_)
        have h_12 : ((r_12.toInt = -1 ∧ x2.toInt ≤ z_11.toInt) ∨ (z_11.toInt < x2.toInt ∧ r_12.toInt = (f2 z_11.toInt.toNat).toInt)) := hw
        refine lv_iload hx hb dX11_isWord_49 (lv_at hl 4 rfl) ?_
        refine a_icmp_ne (u := r_12.toInt) (v := d.toInt) (tgt := 78) hx hb dX11_isWord_51 (by decide) (rfl) (rfl) (fun c_13 => ?_) (fun c_13 => ?_)
        · refine lv_iconst (v := 0) hx hb dX11_isWord_78 (by decide) ?_
          have hz_14 : (0 : Int32).toInt = 0 := by decide
          exact rp_zret hx hb hr hlocks hS (by first | exact Or.inl rfl | exact Or.inr rfl) (show (0 : Int32).toInt = 0 ∨ (0 : Int32).toInt = 1 from (by first | assumption | omega)) hQ dX11_isWord_79
        · refine lv_iload_n hx hb dX11_isWord_54 rfl (lv_at hl 1 rfl) ?_
          refine lv_iconst (v := 4) hx hb dX11_isWord_55 (by decide) ?_
          refine a_icmp_lt (u := n.toInt) (v := 4) (tgt := 74) hx hb dX11_isWord_56 (by decide) (rfl) (by decide) (fun c_15 => ?_) (fun c_15 => ?_)
          · refine lv_iconst (v := 1) hx hb dX11_isWord_74 (by decide) ?_
            refine lv_goto (tgt := 79) hx hb dX11_isWord_75 (by decide) ?_
            have hz_16 : (1 : Int32).toInt = 1 := by decide
            exact rp_zret hx hb hr hlocks hS (by first | exact Or.inl rfl | exact Or.inr rfl) (show (1 : Int32).toInt = 0 ∨ (1 : Int32).toInt = 1 from (by first | assumption | omega)) hQ dX11_isWord_79
          · refine lv_aload_n hx hb dX11_isWord_59 rfl (lv_at hl 0 rfl) ?_
            refine lv_aload_n hx hb dX11_isWord_60 rfl (lv_at hl 0 rfl) ?_
            refine va_get (D := D) (ci := 11) (v := .int x6) (C := RX11) (T := TX11) (N := 47) hx hb hts (by decide +kernel) hown hK.1 hP 0 rfl rfl 10 (by decide) (hts (.fieldLink RX11 120 "JugglingHallModel" "place" "I") (by decide +kernel)) (fun _ h9 => h9) rfl dX11_isWord_61 ?_
            refine lv_iconst (v := 3) hx hb dX11_isWord_64 (by decide) ?_
            refine a_iadd (u := x6.toInt) (v := 3) hx hb dX11_isWord_65 (rfl) (by decide) (by omega) (fun z_17 e_17 => ?_)
            refine roP (va_runV (As := [.int z_17]) (rest := []) ⟨hx, hb, hml, hown, hts⟩ (k_see l D cI cR cM _  (by first | assumption | omega) (by first | assumption | omega)) (cwV 1 hts gX11_isWord_X11_see rfl rfl rfl (by decide +kernel) ⟨Nat.le_of_ble_eq_true rfl, Nat.le_of_ble_eq_true rfl⟩) (pre_V hK hP hD 0 11 rfl rfl) rfl rfl hl.1 rfl (lv_room (Nat.le_of_ble_eq_true rfl)) dX11_isWord_66 ⟨Nat.le_of_ble_eq_true rfl, Nat.le_of_ble_eq_true rfl⟩) hS hA hP (fun r_18 H locs hw hP hS => ?_)
            have h_18 : ((r_18.toInt = -1 ∧ x2.toInt ≤ z_17.toInt) ∨ (z_17.toInt < x2.toInt ∧ r_18.toInt = (f2 z_17.toInt.toNat).toInt)) := hw
            refine lv_iload hx hb dX11_isWord_69 (lv_at hl 5 rfl) ?_
            refine a_icmp_ne (u := r_18.toInt) (v := g.toInt) (tgt := 78) hx hb dX11_isWord_71 (by decide) (rfl) (rfl) (fun c_19 => ?_) (fun c_19 => ?_)
            · refine lv_iconst (v := 0) hx hb dX11_isWord_78 (by decide) ?_
              have hz_20 : (0 : Int32).toInt = 0 := by decide
              exact rp_zret hx hb hr hlocks hS (by first | exact Or.inl rfl | exact Or.inr rfl) (show (0 : Int32).toInt = 0 ∨ (0 : Int32).toInt = 1 from (by first | assumption | omega)) hQ dX11_isWord_79
            · refine lv_iconst (v := 1) hx hb dX11_isWord_74 (by decide) ?_
              refine lv_goto (tgt := 79) hx hb dX11_isWord_75 (by decide) ?_
              have hz_21 : (1 : Int32).toInt = 1 := by decide
              exact rp_zret hx hb hr hlocks hS (by first | exact Or.inl rfl | exact Or.inr rfl) (show (1 : Int32).toInt = 0 ∨ (1 : Int32).toInt = 1 from (by first | assumption | omega)) hQ dX11_isWord_79
set_option maxRecDepth 100000 in
set_option maxHeartbeats 4000000 in
theorem k_wordOf (l : Launch) (D : va_G) (cI cR cM : ClassId) (sz : Nat) {jn mm : Nat} {q : Nat → Nat} {x0 x1 x2 x3 x4 x5 x6 x7 x8 x9 x10 x11 x12 x13 x14 x15 x16 x17 x18 x19 x20 : Int32} {f0 f1 f2 f3 f4 f5 f6 f7 f8 f9 f10 f11 f12 f13 f14 f15 f16 f17 f18 f19 f20 f21 f22 f23 f24 : Nat → Int32}  (ht : 0 ≤ x2.toInt ∧ x2.toInt ≤ 300) (h5 : 0 ≤ x5.toInt ∧ x5.toInt ≤ 300) (h6 : 0 ≤ x6.toInt ∧ x6.toInt ≤ 300) : Met l yX11_wordOf wsX11_wordOf ({ frames := 2, cells := 0, slots := 0, locals := 46 }) (P0 D cI cR cM [.ref mm] sz (mX mm q jn cI x0 x1 x2 x3 x4 x5 x6 x7 x8 x9 x10 x11 x12 x13 x14 x15 x16 x17 x18 x19 x20 f0 f1 f2 f3 f4 f5 f6 f7 f8 f9 f10 f11 f12 f13 f14 f15 f16 f17 f18 f19 f20 f21 f22 f23 f24)) (QP (fun r => ((r.toInt = 2 ∧ 65 ≤ (f2 x6.toInt.toNat).toInt ∧ (f2 x6.toInt.toNat).toInt ≤ 72) ∨ (3 ≤ r.toInt ∧ r.toInt ≤ 10))) sz) 0 0 (va_A [] sz) := by
  refine go (cc := cX11_wordOf) (maxL := 1) (ret := (some .int)) (by decide) rfl (Nat.le_of_ble_eq_true rfl) ?_
  intro p e s m below meth c ls args Q hQ hsz hx hb hr hml hts hown hlocks hnm hP hK hD hl
  subst hsz
  have hS : va_S (va_A [] s.heap.size) s.heap s.heap [] := va_S.rf
  have hA : ∀ q, s.heap.size ≤ q → va_A [] s.heap.size q := fun q h => Or.inr h
  have hl : lv_has ls 1 [(0, .ref mm)] := hl
  refine lv_aload_n hx hb dX11_wordOf_0 rfl (lv_at hl 0 rfl) ?_
  refine va_get (D := D) (ci := 11) (v := .int x5) (C := RX11) (T := TX11) (N := 47) hx hb hts (by decide +kernel) hown hK.1 hP 0 rfl rfl 9 (by decide) (hts (.fieldLink RX11 117 "JugglingHallModel" "at" "I") (by decide +kernel)) (fun _ h9 => h9) rfl dX11_wordOf_1 ?_
  refine lv_aload_n hx hb dX11_wordOf_4 rfl (lv_at hl 0 rfl) ?_
  refine va_get (D := D) (ci := 11) (v := .int x6) (C := RX11) (T := TX11) (N := 47) hx hb hts (by decide +kernel) hown hK.1 hP 0 rfl rfl 10 (by decide) (hts (.fieldLink RX11 120 "JugglingHallModel" "place" "I") (by decide +kernel)) (fun _ h9 => h9) rfl dX11_wordOf_5 ?_
  refine a_isub (u := x5.toInt) (v := x6.toInt) hx hb dX11_wordOf_8 (rfl) (rfl) (by omega) (fun z_1 e_1 => ?_)
  refine lv_iconst (v := 1) hx hb dX11_wordOf_9 (by decide) ?_
  refine a_icmp_ne (u := (x5.toInt - x6.toInt)) (v := 1) (tgt := 54) hx hb dX11_wordOf_10 (by decide) (e_1) (by decide) (fun c_2 => ?_) (fun c_2 => ?_)
  · refine lv_aload_n hx hb dX11_wordOf_54 rfl (lv_at hl 0 rfl) ?_
    refine lv_iconst (v := 3) hx hb dX11_wordOf_55 (by decide) ?_
    refine lv_bipush (v := 114) hx hb dX11_wordOf_56 (by decide) ?_
    refine lv_bipush (v := 111) hx hb dX11_wordOf_58 (by decide) ?_
    refine lv_bipush (v := 119) hx hb dX11_wordOf_60 (by decide) ?_
    refine lv_iconst (v := 0) hx hb dX11_wordOf_62 (by decide) ?_
    have hz_3 : (3 : Int32).toInt = 3 := by decide
    have hz_4 : (114 : Int32).toInt = 114 := by decide
    have hz_5 : (111 : Int32).toInt = 111 := by decide
    have hz_6 : (119 : Int32).toInt = 119 := by decide
    have hz_7 : (0 : Int32).toInt = 0 := by decide
    refine roP (va_runV (As := [.int 3, .int 114, .int 111, .int 119, .int 0]) (rest := []) ⟨hx, hb, hml, hown, hts⟩ (k_isWord l D cI cR cM _  (by first | assumption | omega) (by first | assumption | omega) (by first | assumption | omega)) (cwV 5 hts gX11_wordOf_X11_isWord rfl rfl rfl (by decide +kernel) ⟨Nat.le_of_ble_eq_true rfl, Nat.le_of_ble_eq_true rfl⟩) (pre_V hK hP hD 0 11 rfl rfl) rfl rfl hl.1 rfl (lv_room (Nat.le_of_ble_eq_true rfl)) dX11_wordOf_63 ⟨Nat.le_of_ble_eq_true rfl, Nat.le_of_ble_eq_true rfl⟩) hS hA hP (fun r_8 H locs hw hP hS => ?_)
    have h_8 : (r_8.toInt = 0 ∨ r_8.toInt = 1) := hw
    refine a_if_eq (u := r_8.toInt) (tgt := 71) hx hb dX11_wordOf_66 (by decide) (rfl) (fun c_9 => ?_) (fun c_9 => ?_)
    · refine lv_aload_n hx hb dX11_wordOf_71 rfl (lv_at hl 0 rfl) ?_
      refine lv_iconst (v := 4) hx hb dX11_wordOf_72 (by decide) ?_
      refine lv_bipush (v := 115) hx hb dX11_wordOf_73 (by decide) ?_
      refine lv_bipush (v := 101) hx hb dX11_wordOf_75 (by decide) ?_
      refine lv_bipush (v := 101) hx hb dX11_wordOf_77 (by decide) ?_
      refine lv_bipush (v := 110) hx hb dX11_wordOf_79 (by decide) ?_
      have hz_10 : (4 : Int32).toInt = 4 := by decide
      have hz_11 : (115 : Int32).toInt = 115 := by decide
      have hz_12 : (101 : Int32).toInt = 101 := by decide
      have hz_13 : (101 : Int32).toInt = 101 := by decide
      have hz_14 : (110 : Int32).toInt = 110 := by decide
      refine roP (va_runV (As := [.int 4, .int 115, .int 101, .int 101, .int 110]) (rest := []) ⟨hx, hb, hml, hown, hts⟩ (k_isWord l D cI cR cM _  (by first | assumption | omega) (by first | assumption | omega) (by first | assumption | omega)) (cwV 5 hts gX11_wordOf_X11_isWord rfl rfl rfl (by decide +kernel) ⟨Nat.le_of_ble_eq_true rfl, Nat.le_of_ble_eq_true rfl⟩) (pre_V hK hP hD 0 11 rfl rfl) rfl rfl hl.1 rfl (lv_room (Nat.le_of_ble_eq_true rfl)) dX11_wordOf_81 ⟨Nat.le_of_ble_eq_true rfl, Nat.le_of_ble_eq_true rfl⟩) hS hA hP (fun r_15 H locs hw hP hS => ?_)
      have h_15 : (r_15.toInt = 0 ∨ r_15.toInt = 1) := hw
      refine a_if_eq (u := r_15.toInt) (tgt := 90) hx hb dX11_wordOf_84 (by decide) (rfl) (fun c_16 => ?_) (fun c_16 => ?_)
      · refine lv_aload_n hx hb dX11_wordOf_90 rfl (lv_at hl 0 rfl) ?_
        refine lv_iconst (v := 4) hx hb dX11_wordOf_91 (by decide) ?_
        refine lv_bipush (v := 98) hx hb dX11_wordOf_92 (by decide) ?_
        refine lv_bipush (v := 97) hx hb dX11_wordOf_94 (by decide) ?_
        refine lv_bipush (v := 99) hx hb dX11_wordOf_96 (by decide) ?_
        refine lv_bipush (v := 107) hx hb dX11_wordOf_98 (by decide) ?_
        have hz_17 : (4 : Int32).toInt = 4 := by decide
        have hz_18 : (98 : Int32).toInt = 98 := by decide
        have hz_19 : (97 : Int32).toInt = 97 := by decide
        have hz_20 : (99 : Int32).toInt = 99 := by decide
        have hz_21 : (107 : Int32).toInt = 107 := by decide
        refine roP (va_runV (As := [.int 4, .int 98, .int 97, .int 99, .int 107]) (rest := []) ⟨hx, hb, hml, hown, hts⟩ (k_isWord l D cI cR cM _  (by first | assumption | omega) (by first | assumption | omega) (by first | assumption | omega)) (cwV 5 hts gX11_wordOf_X11_isWord rfl rfl rfl (by decide +kernel) ⟨Nat.le_of_ble_eq_true rfl, Nat.le_of_ble_eq_true rfl⟩) (pre_V hK hP hD 0 11 rfl rfl) rfl rfl hl.1 rfl (lv_room (Nat.le_of_ble_eq_true rfl)) dX11_wordOf_100 ⟨Nat.le_of_ble_eq_true rfl, Nat.le_of_ble_eq_true rfl⟩) hS hA hP (fun r_22 H locs hw hP hS => ?_)
        have h_22 : (r_22.toInt = 0 ∨ r_22.toInt = 1) := hw
        refine a_if_eq (u := r_22.toInt) (tgt := 109) hx hb dX11_wordOf_103 (by decide) (rfl) (fun c_23 => ?_) (fun c_23 => ?_)
        · refine lv_aload_n hx hb dX11_wordOf_109 rfl (lv_at hl 0 rfl) ?_
          refine lv_iconst (v := 4) hx hb dX11_wordOf_110 (by decide) ?_
          refine lv_bipush (v := 111) hx hb dX11_wordOf_111 (by decide) ?_
          refine lv_bipush (v := 118) hx hb dX11_wordOf_113 (by decide) ?_
          refine lv_bipush (v := 101) hx hb dX11_wordOf_115 (by decide) ?_
          refine lv_bipush (v := 114) hx hb dX11_wordOf_117 (by decide) ?_
          have hz_24 : (4 : Int32).toInt = 4 := by decide
          have hz_25 : (111 : Int32).toInt = 111 := by decide
          have hz_26 : (118 : Int32).toInt = 118 := by decide
          have hz_27 : (101 : Int32).toInt = 101 := by decide
          have hz_28 : (114 : Int32).toInt = 114 := by decide
          refine roP (va_runV (As := [.int 4, .int 111, .int 118, .int 101, .int 114]) (rest := []) ⟨hx, hb, hml, hown, hts⟩ (k_isWord l D cI cR cM _  (by first | assumption | omega) (by first | assumption | omega) (by first | assumption | omega)) (cwV 5 hts gX11_wordOf_X11_isWord rfl rfl rfl (by decide +kernel) ⟨Nat.le_of_ble_eq_true rfl, Nat.le_of_ble_eq_true rfl⟩) (pre_V hK hP hD 0 11 rfl rfl) rfl rfl hl.1 rfl (lv_room (Nat.le_of_ble_eq_true rfl)) dX11_wordOf_119 ⟨Nat.le_of_ble_eq_true rfl, Nat.le_of_ble_eq_true rfl⟩) hS hA hP (fun r_29 H locs hw hP hS => ?_)
          have h_29 : (r_29.toInt = 0 ∨ r_29.toInt = 1) := hw
          refine a_if_eq (u := r_29.toInt) (tgt := 128) hx hb dX11_wordOf_122 (by decide) (rfl) (fun c_30 => ?_) (fun c_30 => ?_)
          · refine lv_aload_n hx hb dX11_wordOf_128 rfl (lv_at hl 0 rfl) ?_
            refine lv_iconst (v := 4) hx hb dX11_wordOf_129 (by decide) ?_
            refine lv_bipush (v := 100) hx hb dX11_wordOf_130 (by decide) ?_
            refine lv_bipush (v := 117) hx hb dX11_wordOf_132 (by decide) ?_
            refine lv_bipush (v := 97) hx hb dX11_wordOf_134 (by decide) ?_
            refine lv_bipush (v := 108) hx hb dX11_wordOf_136 (by decide) ?_
            have hz_31 : (4 : Int32).toInt = 4 := by decide
            have hz_32 : (100 : Int32).toInt = 100 := by decide
            have hz_33 : (117 : Int32).toInt = 117 := by decide
            have hz_34 : (97 : Int32).toInt = 97 := by decide
            have hz_35 : (108 : Int32).toInt = 108 := by decide
            refine roP (va_runV (As := [.int 4, .int 100, .int 117, .int 97, .int 108]) (rest := []) ⟨hx, hb, hml, hown, hts⟩ (k_isWord l D cI cR cM _  (by first | assumption | omega) (by first | assumption | omega) (by first | assumption | omega)) (cwV 5 hts gX11_wordOf_X11_isWord rfl rfl rfl (by decide +kernel) ⟨Nat.le_of_ble_eq_true rfl, Nat.le_of_ble_eq_true rfl⟩) (pre_V hK hP hD 0 11 rfl rfl) rfl rfl hl.1 rfl (lv_room (Nat.le_of_ble_eq_true rfl)) dX11_wordOf_138 ⟨Nat.le_of_ble_eq_true rfl, Nat.le_of_ble_eq_true rfl⟩) hS hA hP (fun r_36 H locs hw hP hS => ?_)
            have h_36 : (r_36.toInt = 0 ∨ r_36.toInt = 1) := hw
            refine a_if_eq (u := r_36.toInt) (tgt := 149) hx hb dX11_wordOf_141 (by decide) (rfl) (fun c_37 => ?_) (fun c_37 => ?_)
            · refine lv_aload_n hx hb dX11_wordOf_149 rfl (lv_at hl 0 rfl) ?_
              refine lv_iconst (v := 4) hx hb dX11_wordOf_150 (by decide) ?_
              refine lv_bipush (v := 116) hx hb dX11_wordOf_151 (by decide) ?_
              refine lv_bipush (v := 117) hx hb dX11_wordOf_153 (by decide) ?_
              refine lv_bipush (v := 114) hx hb dX11_wordOf_155 (by decide) ?_
              refine lv_bipush (v := 110) hx hb dX11_wordOf_157 (by decide) ?_
              have hz_38 : (4 : Int32).toInt = 4 := by decide
              have hz_39 : (116 : Int32).toInt = 116 := by decide
              have hz_40 : (117 : Int32).toInt = 117 := by decide
              have hz_41 : (114 : Int32).toInt = 114 := by decide
              have hz_42 : (110 : Int32).toInt = 110 := by decide
              refine roP (va_runV (As := [.int 4, .int 116, .int 117, .int 114, .int 110]) (rest := []) ⟨hx, hb, hml, hown, hts⟩ (k_isWord l D cI cR cM _  (by first | assumption | omega) (by first | assumption | omega) (by first | assumption | omega)) (cwV 5 hts gX11_wordOf_X11_isWord rfl rfl rfl (by decide +kernel) ⟨Nat.le_of_ble_eq_true rfl, Nat.le_of_ble_eq_true rfl⟩) (pre_V hK hP hD 0 11 rfl rfl) rfl rfl hl.1 rfl (lv_room (Nat.le_of_ble_eq_true rfl)) dX11_wordOf_159 ⟨Nat.le_of_ble_eq_true rfl, Nat.le_of_ble_eq_true rfl⟩) hS hA hP (fun r_43 H locs hw hP hS => ?_)
              have h_43 : (r_43.toInt = 0 ∨ r_43.toInt = 1) := hw
              refine a_if_eq (u := r_43.toInt) (tgt := 170) hx hb dX11_wordOf_162 (by decide) (rfl) (fun c_44 => ?_) (fun c_44 => ?_)
              · refine lv_iconst (v := 3) hx hb dX11_wordOf_170 (by decide) ?_
                have hz_45 : (3 : Int32).toInt = 3 := by decide
                exact rp_iret hx hb hr hlocks hS (show ((3 : Int32).toInt = 2 ∧ 65 ≤ (f2 x6.toInt.toNat).toInt ∧ (f2 x6.toInt.toNat).toInt ≤ 72) ∨ (3 ≤ (3 : Int32).toInt ∧ (3 : Int32).toInt ≤ 10) from (by first | assumption | omega)) hQ dX11_wordOf_171
              · refine lv_bipush (v := 10) hx hb dX11_wordOf_165 (by decide) ?_
                refine lv_goto (tgt := 171) hx hb dX11_wordOf_167 (by decide) ?_
                have hz_46 : (10 : Int32).toInt = 10 := by decide
                exact rp_iret hx hb hr hlocks hS (show ((10 : Int32).toInt = 2 ∧ 65 ≤ (f2 x6.toInt.toNat).toInt ∧ (f2 x6.toInt.toNat).toInt ≤ 72) ∨ (3 ≤ (10 : Int32).toInt ∧ (10 : Int32).toInt ≤ 10) from (by first | assumption | omega)) hQ dX11_wordOf_171
            · refine lv_bipush (v := 9) hx hb dX11_wordOf_144 (by decide) ?_
              refine lv_goto (tgt := 171) hx hb dX11_wordOf_146 (by decide) ?_
              have hz_47 : (9 : Int32).toInt = 9 := by decide
              exact rp_iret hx hb hr hlocks hS (show ((9 : Int32).toInt = 2 ∧ 65 ≤ (f2 x6.toInt.toNat).toInt ∧ (f2 x6.toInt.toNat).toInt ≤ 72) ∨ (3 ≤ (9 : Int32).toInt ∧ (9 : Int32).toInt ≤ 10) from (by first | assumption | omega)) hQ dX11_wordOf_171
          · refine lv_bipush (v := 8) hx hb dX11_wordOf_125 (by decide) ?_
            have hz_48 : (8 : Int32).toInt = 8 := by decide
            exact rp_iret hx hb hr hlocks hS (show ((8 : Int32).toInt = 2 ∧ 65 ≤ (f2 x6.toInt.toNat).toInt ∧ (f2 x6.toInt.toNat).toInt ≤ 72) ∨ (3 ≤ (8 : Int32).toInt ∧ (8 : Int32).toInt ≤ 10) from (by first | assumption | omega)) hQ dX11_wordOf_127
        · refine lv_bipush (v := 7) hx hb dX11_wordOf_106 (by decide) ?_
          have hz_49 : (7 : Int32).toInt = 7 := by decide
          exact rp_iret hx hb hr hlocks hS (show ((7 : Int32).toInt = 2 ∧ 65 ≤ (f2 x6.toInt.toNat).toInt ∧ (f2 x6.toInt.toNat).toInt ≤ 72) ∨ (3 ≤ (7 : Int32).toInt ∧ (7 : Int32).toInt ≤ 10) from (by first | assumption | omega)) hQ dX11_wordOf_108
      · refine lv_bipush (v := 6) hx hb dX11_wordOf_87 (by decide) ?_
        have hz_50 : (6 : Int32).toInt = 6 := by decide
        exact rp_iret hx hb hr hlocks hS (show ((6 : Int32).toInt = 2 ∧ 65 ≤ (f2 x6.toInt.toNat).toInt ∧ (f2 x6.toInt.toNat).toInt ≤ 72) ∨ (3 ≤ (6 : Int32).toInt ∧ (6 : Int32).toInt ≤ 10) from (by first | assumption | omega)) hQ dX11_wordOf_89
    · refine lv_iconst (v := 5) hx hb dX11_wordOf_69 (by decide) ?_
      have hz_51 : (5 : Int32).toInt = 5 := by decide
      exact rp_iret hx hb hr hlocks hS (show ((5 : Int32).toInt = 2 ∧ 65 ≤ (f2 x6.toInt.toNat).toInt ∧ (f2 x6.toInt.toNat).toInt ≤ 72) ∨ (3 ≤ (5 : Int32).toInt ∧ (5 : Int32).toInt ≤ 10) from (by first | assumption | omega)) hQ dX11_wordOf_70
  · refine lv_aload_n hx hb dX11_wordOf_13 rfl (lv_at hl 0 rfl) ?_
    refine lv_aload_n hx hb dX11_wordOf_14 rfl (lv_at hl 0 rfl) ?_
    refine va_get (D := D) (ci := 11) (v := .int x6) (C := RX11) (T := TX11) (N := 47) hx hb hts (by decide +kernel) hown hK.1 hP 0 rfl rfl 10 (by decide) (hts (.fieldLink RX11 120 "JugglingHallModel" "place" "I") (by decide +kernel)) (fun _ h9 => h9) rfl dX11_wordOf_15 ?_
    refine roP (va_runV (As := [.int x6]) (rest := []) ⟨hx, hb, hml, hown, hts⟩ (k_see l D cI cR cM _  (by first | assumption | omega) (by first | assumption | omega)) (cwV 1 hts gX11_wordOf_X11_see rfl rfl rfl (by decide +kernel) ⟨Nat.le_of_ble_eq_true rfl, Nat.le_of_ble_eq_true rfl⟩) (pre_V hK hP hD 0 11 rfl rfl) rfl rfl hl.1 rfl (lv_room (Nat.le_of_ble_eq_true rfl)) dX11_wordOf_18 ⟨Nat.le_of_ble_eq_true rfl, Nat.le_of_ble_eq_true rfl⟩) hS hA hP (fun r_52 H locs hw hP hS => ?_)
    have h_52 : ((r_52.toInt = -1 ∧ x2.toInt ≤ x6.toInt) ∨ (x6.toInt < x2.toInt ∧ r_52.toInt = (f2 x6.toInt.toNat).toInt)) := hw
    refine lv_bipush (v := 65) hx hb dX11_wordOf_21 (by decide) ?_
    refine lv_bipush (v := 72) hx hb dX11_wordOf_23 (by decide) ?_
    have hz_53 : (65 : Int32).toInt = 65 := by decide
    have hz_54 : (72 : Int32).toInt = 72 := by decide
    refine roP (va_runS (As := [.int r_52, .int 65, .int 72]) (rest := []) ⟨hx, hb, hml, hown, hts⟩ (k_isIn l D cI cR cM _  ) (va_cwS 3 hts gX11_wordOf_X11_isIn rfl rfl rfl (by decide +kernel) ⟨Nat.le_of_ble_eq_true rfl, Nat.le_of_ble_eq_true rfl⟩) (pre_S hK va_P_nil (va_D_nil (A := fun _ => True))) rfl rfl hl.1 rfl (lv_room (Nat.le_of_ble_eq_true rfl)) dX11_wordOf_25 ⟨Nat.le_of_ble_eq_true rfl, Nat.le_of_ble_eq_true rfl⟩) hS hA hP (fun r_55 H locs hw hP hS => ?_)
    have h_55 : ((r_55.toInt = 1 ∧ (65 : Int32).toInt ≤ r_52.toInt ∧ r_52.toInt ≤ (72 : Int32).toInt) ∨ (r_55.toInt = 0 ∧ (r_52.toInt < (65 : Int32).toInt ∨ (72 : Int32).toInt < r_52.toInt))) := hw
    refine a_if_eq (u := r_55.toInt) (tgt := 35) hx hb dX11_wordOf_28 (by decide) (rfl) (fun c_56 => ?_) (fun c_56 => ?_)
    · refine lv_aload_n hx hb dX11_wordOf_35 rfl (lv_at hl 0 rfl) ?_
      refine lv_aload_n hx hb dX11_wordOf_36 rfl (lv_at hl 0 rfl) ?_
      refine va_get (D := D) (ci := 11) (v := .int x6) (C := RX11) (T := TX11) (N := 47) hx hb hts (by decide +kernel) hown hK.1 hP 0 rfl rfl 10 (by decide) (hts (.fieldLink RX11 120 "JugglingHallModel" "place" "I") (by decide +kernel)) (fun _ h9 => h9) rfl dX11_wordOf_37 ?_
      refine roP (va_runV (As := [.int x6]) (rest := []) ⟨hx, hb, hml, hown, hts⟩ (k_see l D cI cR cM _  (by first | assumption | omega) (by first | assumption | omega)) (cwV 1 hts gX11_wordOf_X11_see rfl rfl rfl (by decide +kernel) ⟨Nat.le_of_ble_eq_true rfl, Nat.le_of_ble_eq_true rfl⟩) (pre_V hK hP hD 0 11 rfl rfl) rfl rfl hl.1 rfl (lv_room (Nat.le_of_ble_eq_true rfl)) dX11_wordOf_40 ⟨Nat.le_of_ble_eq_true rfl, Nat.le_of_ble_eq_true rfl⟩) hS hA hP (fun r_57 H locs hw hP hS => ?_)
      have h_57 : ((r_57.toInt = -1 ∧ x2.toInt ≤ x6.toInt) ∨ (x6.toInt < x2.toInt ∧ r_57.toInt = (f2 x6.toInt.toNat).toInt)) := hw
      refine lv_bipush (v := 112) hx hb dX11_wordOf_43 (by decide) ?_
      refine a_icmp_ne (u := r_57.toInt) (v := 112) (tgt := 52) hx hb dX11_wordOf_45 (by decide) (rfl) (by decide) (fun c_58 => ?_) (fun c_58 => ?_)
      · refine lv_iconst (v := 3) hx hb dX11_wordOf_52 (by decide) ?_
        have hz_59 : (3 : Int32).toInt = 3 := by decide
        exact rp_iret hx hb hr hlocks hS (show ((3 : Int32).toInt = 2 ∧ 65 ≤ (f2 x6.toInt.toNat).toInt ∧ (f2 x6.toInt.toNat).toInt ≤ 72) ∨ (3 ≤ (3 : Int32).toInt ∧ (3 : Int32).toInt ≤ 10) from (by first | assumption | omega)) hQ dX11_wordOf_53
      · refine lv_iconst (v := 4) hx hb dX11_wordOf_48 (by decide) ?_
        refine lv_goto (tgt := 53) hx hb dX11_wordOf_49 (by decide) ?_
        have hz_60 : (4 : Int32).toInt = 4 := by decide
        exact rp_iret hx hb hr hlocks hS (show ((4 : Int32).toInt = 2 ∧ 65 ≤ (f2 x6.toInt.toNat).toInt ∧ (f2 x6.toInt.toNat).toInt ≤ 72) ∨ (3 ≤ (4 : Int32).toInt ∧ (4 : Int32).toInt ≤ 10) from (by first | assumption | omega)) hQ dX11_wordOf_53
    · refine lv_iconst (v := 2) hx hb dX11_wordOf_31 (by decide) ?_
      refine lv_goto (tgt := 53) hx hb dX11_wordOf_32 (by decide) ?_
      have hz_61 : (2 : Int32).toInt = 2 := by decide
      exact rp_iret hx hb hr hlocks hS (show ((2 : Int32).toInt = 2 ∧ 65 ≤ (f2 x6.toInt.toNat).toInt ∧ (f2 x6.toInt.toNat).toInt ≤ 72) ∨ (3 ≤ (2 : Int32).toInt ∧ (2 : Int32).toInt ≤ 10) from (by first | assumption | omega)) hQ dX11_wordOf_53
set_option maxRecDepth 100000 in
set_option maxHeartbeats 4000000 in
theorem k_next (l : Launch) (D : va_G) (cI cR cM : ClassId) (sz : Nat) {jn mm : Nat} {q : Nat → Nat} {x0 x1 x2 x3 x4 x5 x6 x7 x8 x9 x10 x11 x12 x13 x14 x15 x16 x17 x18 x19 x20 : Int32} {f0 f1 f2 f3 f4 f5 f6 f7 f8 f9 f10 f11 f12 f13 f14 f15 f16 f17 f18 f19 f20 f21 f22 f23 f24 : Nat → Int32}  (ht : 0 ≤ x2.toInt ∧ x2.toInt ≤ 300) (h5 : 0 ≤ x5.toInt ∧ x5.toInt ≤ x2.toInt) : Met l yX11_nextToken wsX11_nextToken ({ frames := 3, cells := 0, slots := 0, locals := 66 }) (P0 D cI cR cM [.ref mm] sz (mX mm q jn cI x0 x1 x2 x3 x4 x5 x6 x7 x8 x9 x10 x11 x12 x13 x14 x15 x16 x17 x18 x19 x20 f0 f1 f2 f3 f4 f5 f6 f7 f8 f9 f10 f11 f12 f13 f14 f15 f16 f17 f18 f19 f20 f21 f22 f23 f24)) (QG (S := Int32 × Int32 × Int32 × Int32) (fun u => none) (fun u => mX mm q jn cI x0 x1 x2 x3 x4 (u.1) (u.2.1) (u.2.2.1) (u.2.2.2) x9 x10 x11 x12 x13 x14 x15 x16 x17 x18 x19 x20 f0 f1 f2 f3 f4 f5 f6 f7 f8 f9 f10 f11 f12 f13 f14 f15 f16 f17 f18 f19 f20 f21 f22 f23 f24) (fun u => (x5.toInt ≤ u.1.toInt ∧ u.1.toInt ≤ x2.toInt) ∧ (0 ≤ u.2.1.toInt ∧ u.2.1.toInt ≤ 300) ∧ (u.2.2.1.toInt = 0 ∨ x5.toInt < u.1.toInt) ∧ (TokOK u.2.2.1 u.2.2.2)) D (va_A (mX mm q jn cI x0 x1 x2 x3 x4 x5 x6 x7 x8 x9 x10 x11 x12 x13 x14 x15 x16 x17 x18 x19 x20 f0 f1 f2 f3 f4 f5 f6 f7 f8 f9 f10 f11 f12 f13 f14 f15 f16 f17 f18 f19 f20 f21 f22 f23 f24) sz)) 0 0 (va_A (mX mm q jn cI x0 x1 x2 x3 x4 x5 x6 x7 x8 x9 x10 x11 x12 x13 x14 x15 x16 x17 x18 x19 x20 f0 f1 f2 f3 f4 f5 f6 f7 f8 f9 f10 f11 f12 f13 f14 f15 f16 f17 f18 f19 f20 f21 f22 f23 f24) sz) := by
  refine go (cc := cX11_nextToken) (maxL := 3) (ret := none) (by decide) rfl (Nat.le_of_ble_eq_true rfl) ?_
  intro p e s m below meth c ls args Q hQ hsz hx hb hr hml hts hown hlocks hnm hP hK hD hl
  subst hsz
  have hD := hD.self (sz := s.heap.size)
  generalize hAe : va_A (mX mm q jn cI x0 x1 x2 x3 x4 x5 x6 x7 x8 x9 x10 x11 x12 x13 x14 x15 x16 x17 x18 x19 x20 f0 f1 f2 f3 f4 f5 f6 f7 f8 f9 f10 f11 f12 f13 f14 f15 f16 f17 f18 f19 f20 f21 f22 f23 f24) s.heap.size = A at hD hQ
  have hA : ∀ q, s.heap.size ≤ q → A q := fun q h => by rw [← hAe]; exact Or.inr h
  have hS : va_S A s.heap s.heap [] := va_S.rf
  have hl : lv_has ls 3 [(0, .ref mm)] := hl
  have loop0 : ∀ (ddloop0 : Nat) (a5 : Int32) (H : Heap) (locs : List Loc) (ls : Array Slot), (x2.toInt - a5.toInt).toNat < ddloop0 → (x5.toInt ≤ a5.toInt ∧ a5.toInt ≤ x2.toInt) → va_P D vwCl (mX mm q jn cI x0 x1 x2 x3 x4 a5 x6 x7 x8 x9 x10 x11 x12 x13 x14 x15 x16 x17 x18 x19 x20 f0 f1 f2 f3 f4 f5 f6 f7 f8 f9 f10 f11 f12 f13 f14 f15 f16 f17 f18 f19 f20 f21 f22 f23 f24) H → va_D A (mX mm q jn cI x0 x1 x2 x3 x4 a5 x6 x7 x8 x9 x10 x11 x12 x13 x14 x15 x16 x17 x18 x19 x20 f0 f1 f2 f3 f4 f5 f6 f7 f8 f9 f10 f11 f12 f13 f14 f15 f16 f17 f18 f19 f20 f21 f22 f23 f24) → va_S A s.heap H locs → lv_has ls 3 [(0, .ref mm)] → W p l e ({ frames := 3, cells := 0, slots := 0, locals := 66 }) s m args below meth c H locs 0 0 Q (F0 m 0 ls []) := by
    intro ddloop0
    induction ddloop0 with
    | zero =>
      intro a5 H locs ls hdd
      exact absurd hdd (Nat.not_lt_zero _)
    | succ ddloop0 ih0 =>
      intro a5 H locs ls hdd hi hP hD hS hl
      refine lv_aload_n hx hb dX11_nextToken_0 rfl (lv_at hl 0 rfl) ?_
      refine lv_aload_n hx hb dX11_nextToken_1 rfl (lv_at hl 0 rfl) ?_
      refine va_get (D := D) (ci := 11) (v := .int a5) (C := RX11) (T := TX11) (N := 47) hx hb hts (by decide +kernel) hown hK.1 hP 0 rfl rfl 9 (by decide) (hts (.fieldLink RX11 117 "JugglingHallModel" "at" "I") (by decide +kernel)) (fun _ h9 => h9) rfl dX11_nextToken_2 ?_
      refine roP (va_runV (As := [.int a5]) (rest := []) ⟨hx, hb, hml, hown, hts⟩ (k_see l D cI cR cM _  (by first | assumption | omega) (by first | assumption | omega)) (cwV 1 hts gX11_nextToken_X11_see rfl rfl rfl (by decide +kernel) ⟨Nat.le_of_ble_eq_true rfl, Nat.le_of_ble_eq_true rfl⟩) (pre_V hK hP hD 0 11 rfl rfl) rfl rfl hl.1 rfl (lv_room (Nat.le_of_ble_eq_true rfl)) dX11_nextToken_5 ⟨Nat.le_of_ble_eq_true rfl, Nat.le_of_ble_eq_true rfl⟩) hS hA hP (fun r_1 H locs hw hP hS => ?_)
      have h_1 : ((r_1.toInt = -1 ∧ x2.toInt ≤ a5.toInt) ∨ (a5.toInt < x2.toInt ∧ r_1.toInt = (f2 a5.toInt.toNat).toInt)) := hw
      refine lv_bipush (v := 32) hx hb dX11_nextToken_8 (by decide) ?_
      refine a_icmp_eq (u := r_1.toInt) (v := 32) (tgt := 26) hx hb dX11_nextToken_10 (by decide) (rfl) (by decide) (fun c_2 => ?_) (fun c_2 => ?_)
      · refine lv_aload_n hx hb dX11_nextToken_26 rfl (lv_at hl 0 rfl) ?_
        refine lv_dup hx hb dX11_nextToken_27 rfl ?_
        refine va_get (D := D) (ci := 11) (v := .int a5) (C := RX11) (T := TX11) (N := 47) hx hb hts (by decide +kernel) hown hK.1 hP 0 rfl rfl 9 (by decide) (hts (.fieldLink RX11 117 "JugglingHallModel" "at" "I") (by decide +kernel)) (fun _ h9 => h9) rfl dX11_nextToken_28 ?_
        refine lv_iconst (v := 1) hx hb dX11_nextToken_31 (by decide) ?_
        refine a_iadd (u := a5.toInt) (v := 1) hx hb dX11_nextToken_32 (rfl) (by decide) (by omega) (fun z_3 e_3 => ?_)
        refine mp_5 hx hb hts (by decide +kernel) hown hK hP hD hS (hts (.fieldLink RX11 117 "JugglingHallModel" "at" "I") (by decide +kernel)) dX11_nextToken_33 (fun H locs hP hD hS => ?_)
        refine lv_goto (tgt := 0) hx hb dX11_nextToken_36 (by decide) ?_
        exact ih0 z_3 _ _ _ (by omega) (by first | assumption | omega) hP hD hS (lv_sub hl [0] rfl)
      · refine lv_aload_n hx hb dX11_nextToken_13 rfl (lv_at hl 0 rfl) ?_
        refine lv_aload_n hx hb dX11_nextToken_14 rfl (lv_at hl 0 rfl) ?_
        refine va_get (D := D) (ci := 11) (v := .int a5) (C := RX11) (T := TX11) (N := 47) hx hb hts (by decide +kernel) hown hK.1 hP 0 rfl rfl 9 (by decide) (hts (.fieldLink RX11 117 "JugglingHallModel" "at" "I") (by decide +kernel)) (fun _ h9 => h9) rfl dX11_nextToken_15 ?_
        refine roP (va_runV (As := [.int a5]) (rest := []) ⟨hx, hb, hml, hown, hts⟩ (k_see l D cI cR cM _  (by first | assumption | omega) (by first | assumption | omega)) (cwV 1 hts gX11_nextToken_X11_see rfl rfl rfl (by decide +kernel) ⟨Nat.le_of_ble_eq_true rfl, Nat.le_of_ble_eq_true rfl⟩) (pre_V hK hP hD 0 11 rfl rfl) rfl rfl hl.1 rfl (lv_room (Nat.le_of_ble_eq_true rfl)) dX11_nextToken_18 ⟨Nat.le_of_ble_eq_true rfl, Nat.le_of_ble_eq_true rfl⟩) hS hA hP (fun r_4 H locs hw hP hS => ?_)
        have h_4 : ((r_4.toInt = -1 ∧ x2.toInt ≤ a5.toInt) ∨ (a5.toInt < x2.toInt ∧ r_4.toInt = (f2 a5.toInt.toNat).toInt)) := hw
        refine lv_bipush (v := 10) hx hb dX11_nextToken_21 (by decide) ?_
        refine a_icmp_ne (u := r_4.toInt) (v := 10) (tgt := 39) hx hb dX11_nextToken_23 (by decide) (rfl) (by decide) (fun c_5 => ?_) (fun c_5 => ?_)
        · refine lv_aload_n hx hb dX11_nextToken_39 rfl (lv_at hl 0 rfl) ?_
          refine lv_aload_n hx hb dX11_nextToken_40 rfl (lv_at hl 0 rfl) ?_
          refine va_get (D := D) (ci := 11) (v := .int a5) (C := RX11) (T := TX11) (N := 47) hx hb hts (by decide +kernel) hown hK.1 hP 0 rfl rfl 9 (by decide) (hts (.fieldLink RX11 117 "JugglingHallModel" "at" "I") (by decide +kernel)) (fun _ h9 => h9) rfl dX11_nextToken_41 ?_
          refine mp_6 hx hb hts (by decide +kernel) hown hK hP hD hS (hts (.fieldLink RX11 120 "JugglingHallModel" "place" "I") (by decide +kernel)) dX11_nextToken_44 (fun H locs hP hD hS => ?_)
          refine lv_aload_n hx hb dX11_nextToken_47 rfl (lv_at hl 0 rfl) ?_
          refine lv_aload_n hx hb dX11_nextToken_48 rfl (lv_at hl 0 rfl) ?_
          refine va_get (D := D) (ci := 11) (v := .int a5) (C := RX11) (T := TX11) (N := 47) hx hb hts (by decide +kernel) hown hK.1 hP 0 rfl rfl 9 (by decide) (hts (.fieldLink RX11 117 "JugglingHallModel" "at" "I") (by decide +kernel)) (fun _ h9 => h9) rfl dX11_nextToken_49 ?_
          refine roP (va_runV (As := [.int a5]) (rest := []) ⟨hx, hb, hml, hown, hts⟩ (k_see l D cI cR cM _  (by first | assumption | omega) (by first | assumption | omega)) (cwV 1 hts gX11_nextToken_X11_see rfl rfl rfl (by decide +kernel) ⟨Nat.le_of_ble_eq_true rfl, Nat.le_of_ble_eq_true rfl⟩) (pre_V hK hP hD 0 11 rfl rfl) rfl rfl hl.1 rfl (lv_room (Nat.le_of_ble_eq_true rfl)) dX11_nextToken_52 ⟨Nat.le_of_ble_eq_true rfl, Nat.le_of_ble_eq_true rfl⟩) hS hA hP (fun r_6 H locs hw hP hS => ?_)
          have h_6 : ((r_6.toInt = -1 ∧ x2.toInt ≤ a5.toInt) ∨ (a5.toInt < x2.toInt ∧ r_6.toInt = (f2 a5.toInt.toNat).toInt)) := hw
          refine lv_istore_n (lv' := [(1, .int r_6), (0, .ref mm)]) hx hb dX11_nextToken_55 rfl hl (by decide) rfl (fun ls hl => ?_)
          refine lv_iload_n hx hb dX11_nextToken_56 rfl (lv_at hl 0 rfl) ?_
          refine a_if_ge (u := r_6.toInt) (tgt := 68) hx hb dX11_nextToken_57 (by decide) (rfl) (fun c_7 => ?_) (fun c_7 => ?_)
          · refine lv_iload_n hx hb dX11_nextToken_68 rfl (lv_at hl 0 rfl) ?_
            refine roP (va_runS (As := [.int r_6]) (rest := []) ⟨hx, hb, hml, hown, hts⟩ (k_isDigit l D cI cR cM _  ) (va_cwS 1 hts gX11_nextToken_X11_isDigit rfl rfl rfl (by decide +kernel) ⟨Nat.le_of_ble_eq_true rfl, Nat.le_of_ble_eq_true rfl⟩) (pre_S hK va_P_nil (va_D_nil (A := fun _ => True))) rfl rfl hl.1 rfl (lv_room (Nat.le_of_ble_eq_true rfl)) dX11_nextToken_69 ⟨Nat.le_of_ble_eq_true rfl, Nat.le_of_ble_eq_true rfl⟩) hS hA hP (fun r_8 H locs hw hP hS => ?_)
            have h_8 : ((r_8.toInt = 1 ∧ 48 ≤ r_6.toInt ∧ r_6.toInt ≤ 57) ∨ (r_8.toInt = 0 ∧ (r_6.toInt < 48 ∨ 57 < r_6.toInt))) := hw
            refine a_if_eq (u := r_8.toInt) (tgt := 101) hx hb dX11_nextToken_72 (by decide) (rfl) (fun c_9 => ?_) (fun c_9 => ?_)
            · refine lv_iload_n hx hb dX11_nextToken_101 rfl (lv_at hl 0 rfl) ?_
              refine roP (va_runS (As := [.int r_6]) (rest := []) ⟨hx, hb, hml, hown, hts⟩ (k_isLetter l D cI cR cM _  ) (va_cwS 1 hts gX11_nextToken_X11_isLetter rfl rfl rfl (by decide +kernel) ⟨Nat.le_of_ble_eq_true rfl, Nat.le_of_ble_eq_true rfl⟩) (pre_S hK va_P_nil (va_D_nil (A := fun _ => True))) rfl rfl hl.1 rfl (lv_room (Nat.le_of_ble_eq_true rfl)) dX11_nextToken_102 ⟨Nat.le_of_ble_eq_true rfl, Nat.le_of_ble_eq_true rfl⟩) hS hA hP (fun r_10 H locs hw hP hS => ?_)
              have h_10 : ((r_10.toInt = 1 ∧ 65 ≤ r_6.toInt ∧ r_6.toInt ≤ 122 ∧ (r_6.toInt ≤ 90 ∨ 97 ≤ r_6.toInt)) ∨ (r_10.toInt = 0 ∧ (r_6.toInt < 65 ∨ 122 < r_6.toInt ∨ (90 < r_6.toInt ∧ r_6.toInt < 97)))) := hw
              refine a_if_eq (u := r_10.toInt) (tgt := 154) hx hb dX11_nextToken_105 (by decide) (rfl) (fun c_11 => ?_) (fun c_11 => ?_)
              · have join12 : ∀  (H : Heap) (locs : List Loc) (ls : Array Slot), (40 ≤ r_6.toInt ∧ r_6.toInt ≤ 124) → va_P D vwCl (mX mm q jn cI x0 x1 x2 x3 x4 a5 a5 x7 x8 x9 x10 x11 x12 x13 x14 x15 x16 x17 x18 x19 x20 f0 f1 f2 f3 f4 f5 f6 f7 f8 f9 f10 f11 f12 f13 f14 f15 f16 f17 f18 f19 f20 f21 f22 f23 f24) H → va_D A (mX mm q jn cI x0 x1 x2 x3 x4 a5 a5 x7 x8 x9 x10 x11 x12 x13 x14 x15 x16 x17 x18 x19 x20 f0 f1 f2 f3 f4 f5 f6 f7 f8 f9 f10 f11 f12 f13 f14 f15 f16 f17 f18 f19 f20 f21 f22 f23 f24) → va_S A s.heap H locs → lv_has ls 3 [(0, .ref mm), (1, .int r_6)] → W p l e ({ frames := 3, cells := 0, slots := 0, locals := 66 }) s m args below meth c H locs 0 0 Q (F0 m 220 ls []) := by
                  intro  H locs ls hj hP hD hS hl
                  refine lv_iconst (v := 1) hx hb dX11_nextToken_220 (by decide) ?_
                  refine lv_goto (tgt := 225) hx hb dX11_nextToken_221 (by decide) ?_
                  refine lv_istore_n (lv' := [(2, .int 1), (0, .ref mm), (1, .int r_6)]) hx hb dX11_nextToken_225 rfl hl (by decide) rfl (fun ls hl => ?_)
                  refine lv_aload_n hx hb dX11_nextToken_226 rfl (lv_at hl 1 rfl) ?_
                  refine lv_iload_n hx hb dX11_nextToken_227 rfl (lv_at hl 0 rfl) ?_
                  refine a_if_eq (u := 1) (tgt := 235) hx hb dX11_nextToken_228 (by decide) (by decide) (fun c_13 => absurd c_13 (by omega)) (fun c_13 => ?_)
                  refine lv_iload_n hx hb dX11_nextToken_231 rfl (lv_at hl 2 rfl) ?_
                  refine lv_goto (tgt := 236) hx hb dX11_nextToken_232 (by decide) ?_
                  refine mp_7 hx hb hts (by decide +kernel) hown hK hP hD hS (hts (.fieldLink RX11 131 "JugglingHallModel" "token" "I") (by decide +kernel)) dX11_nextToken_236 (fun H locs hP hD hS => ?_)
                  refine lv_aload_n hx hb dX11_nextToken_239 rfl (lv_at hl 1 rfl) ?_
                  refine lv_dup hx hb dX11_nextToken_240 rfl ?_
                  refine va_get (D := D) (ci := 11) (v := .int a5) (C := RX11) (T := TX11) (N := 47) hx hb hts (by decide +kernel) hown hK.1 hP 0 rfl rfl 9 (by decide) (hts (.fieldLink RX11 117 "JugglingHallModel" "at" "I") (by decide +kernel)) (fun _ h9 => h9) rfl dX11_nextToken_241 ?_
                  refine lv_iconst (v := 1) hx hb dX11_nextToken_244 (by decide) ?_
                  refine a_iadd (u := a5.toInt) (v := 1) hx hb dX11_nextToken_245 (rfl) (by decide) (by omega) (fun z_14 e_14 => ?_)
                  refine mp_5 hx hb hts (by decide +kernel) hown hK hP hD hS (hts (.fieldLink RX11 117 "JugglingHallModel" "at" "I") (by decide +kernel)) dX11_nextToken_246 (fun H locs hP hD hS => ?_)
                  exact g_vret (z_14, a5, r_6, x8) hx hb hr hlocks hS rfl (⟨show x5.toInt ≤ z_14.toInt ∧ z_14.toInt ≤ x2.toInt from (by first | assumption | omega), show 0 ≤ a5.toInt ∧ a5.toInt ≤ 300 from (by first | assumption | omega), show r_6.toInt = 0 ∨ x5.toInt < z_14.toInt from (by first | assumption | omega), show TokOK r_6 x8 from (⟨by omega, by omega, by omega⟩)⟩) hP hD hQ (Nat.le_of_ble_eq_true rfl) (Nat.le_of_ble_eq_true rfl) dX11_nextToken_249
                refine lv_iload_n hx hb dX11_nextToken_154 rfl (lv_at hl 0 rfl) ?_
                refine lv_bipush (v := 61) hx hb dX11_nextToken_155 (by decide) ?_
                refine a_icmp_eq (u := r_6.toInt) (v := 61) (tgt := 220) hx hb dX11_nextToken_157 (by decide) (rfl) (by decide) (fun c_15 => ?_) (fun c_15 => ?_)
                · exact join12  _ _ _ (by first | assumption | omega) hP hD hS (lv_sub hl [1, 0] rfl)
                · refine lv_iload_n hx hb dX11_nextToken_160 rfl (lv_at hl 0 rfl) ?_
                  refine lv_bipush (v := 59) hx hb dX11_nextToken_161 (by decide) ?_
                  refine a_icmp_eq (u := r_6.toInt) (v := 59) (tgt := 220) hx hb dX11_nextToken_163 (by decide) (rfl) (by decide) (fun c_16 => ?_) (fun c_16 => ?_)
                  · exact join12  _ _ _ (by first | assumption | omega) hP hD hS (lv_sub hl [1, 0] rfl)
                  · refine lv_iload_n hx hb dX11_nextToken_166 rfl (lv_at hl 0 rfl) ?_
                    refine lv_bipush (v := 42) hx hb dX11_nextToken_167 (by decide) ?_
                    refine a_icmp_eq (u := r_6.toInt) (v := 42) (tgt := 220) hx hb dX11_nextToken_169 (by decide) (rfl) (by decide) (fun c_17 => ?_) (fun c_17 => ?_)
                    · exact join12  _ _ _ (by first | assumption | omega) hP hD hS (lv_sub hl [1, 0] rfl)
                    · refine lv_iload_n hx hb dX11_nextToken_172 rfl (lv_at hl 0 rfl) ?_
                      refine lv_bipush (v := 40) hx hb dX11_nextToken_173 (by decide) ?_
                      refine a_icmp_eq (u := r_6.toInt) (v := 40) (tgt := 220) hx hb dX11_nextToken_175 (by decide) (rfl) (by decide) (fun c_18 => ?_) (fun c_18 => ?_)
                      · exact join12  _ _ _ (by first | assumption | omega) hP hD hS (lv_sub hl [1, 0] rfl)
                      · refine lv_iload_n hx hb dX11_nextToken_178 rfl (lv_at hl 0 rfl) ?_
                        refine lv_bipush (v := 41) hx hb dX11_nextToken_179 (by decide) ?_
                        refine a_icmp_eq (u := r_6.toInt) (v := 41) (tgt := 220) hx hb dX11_nextToken_181 (by decide) (rfl) (by decide) (fun c_19 => ?_) (fun c_19 => ?_)
                        · exact join12  _ _ _ (by first | assumption | omega) hP hD hS (lv_sub hl [1, 0] rfl)
                        · refine lv_iload_n hx hb dX11_nextToken_184 rfl (lv_at hl 0 rfl) ?_
                          refine lv_bipush (v := 91) hx hb dX11_nextToken_185 (by decide) ?_
                          refine a_icmp_eq (u := r_6.toInt) (v := 91) (tgt := 220) hx hb dX11_nextToken_187 (by decide) (rfl) (by decide) (fun c_20 => ?_) (fun c_20 => ?_)
                          · exact join12  _ _ _ (by first | assumption | omega) hP hD hS (lv_sub hl [1, 0] rfl)
                          · refine lv_iload_n hx hb dX11_nextToken_190 rfl (lv_at hl 0 rfl) ?_
                            refine lv_bipush (v := 93) hx hb dX11_nextToken_191 (by decide) ?_
                            refine a_icmp_eq (u := r_6.toInt) (v := 93) (tgt := 220) hx hb dX11_nextToken_193 (by decide) (rfl) (by decide) (fun c_21 => ?_) (fun c_21 => ?_)
                            · exact join12  _ _ _ (by first | assumption | omega) hP hD hS (lv_sub hl [1, 0] rfl)
                            · refine lv_iload_n hx hb dX11_nextToken_196 rfl (lv_at hl 0 rfl) ?_
                              refine lv_bipush (v := 60) hx hb dX11_nextToken_197 (by decide) ?_
                              refine a_icmp_eq (u := r_6.toInt) (v := 60) (tgt := 220) hx hb dX11_nextToken_199 (by decide) (rfl) (by decide) (fun c_22 => ?_) (fun c_22 => ?_)
                              · exact join12  _ _ _ (by first | assumption | omega) hP hD hS (lv_sub hl [1, 0] rfl)
                              · refine lv_iload_n hx hb dX11_nextToken_202 rfl (lv_at hl 0 rfl) ?_
                                refine lv_bipush (v := 62) hx hb dX11_nextToken_203 (by decide) ?_
                                refine a_icmp_eq (u := r_6.toInt) (v := 62) (tgt := 220) hx hb dX11_nextToken_205 (by decide) (rfl) (by decide) (fun c_23 => ?_) (fun c_23 => ?_)
                                · exact join12  _ _ _ (by first | assumption | omega) hP hD hS (lv_sub hl [1, 0] rfl)
                                · refine lv_iload_n hx hb dX11_nextToken_208 rfl (lv_at hl 0 rfl) ?_
                                  refine lv_bipush (v := 124) hx hb dX11_nextToken_209 (by decide) ?_
                                  refine a_icmp_eq (u := r_6.toInt) (v := 124) (tgt := 220) hx hb dX11_nextToken_211 (by decide) (rfl) (by decide) (fun c_24 => ?_) (fun c_24 => ?_)
                                  · exact join12  _ _ _ (by first | assumption | omega) hP hD hS (lv_sub hl [1, 0] rfl)
                                  · refine lv_iload_n hx hb dX11_nextToken_214 rfl (lv_at hl 0 rfl) ?_
                                    refine lv_bipush (v := 63) hx hb dX11_nextToken_215 (by decide) ?_
                                    refine a_icmp_ne (u := r_6.toInt) (v := 63) (tgt := 224) hx hb dX11_nextToken_217 (by decide) (rfl) (by decide) (fun c_25 => ?_) (fun c_25 => ?_)
                                    · refine lv_iconst (v := 0) hx hb dX11_nextToken_224 (by decide) ?_
                                      refine lv_istore_n (lv' := [(2, .int 0), (1, .int r_6), (0, .ref mm)]) hx hb dX11_nextToken_225 rfl hl (by decide) rfl (fun ls hl => ?_)
                                      refine lv_aload_n hx hb dX11_nextToken_226 rfl (lv_at hl 2 rfl) ?_
                                      refine lv_iload_n hx hb dX11_nextToken_227 rfl (lv_at hl 0 rfl) ?_
                                      refine a_if_eq (u := 0) (tgt := 235) hx hb dX11_nextToken_228 (by decide) (by decide) (fun c_26 => ?_) (fun c_26 => absurd c_26 (by omega))
                                      refine lv_iconst (v := 3) hx hb dX11_nextToken_235 (by decide) ?_
                                      refine mp_7 hx hb hts (by decide +kernel) hown hK hP hD hS (hts (.fieldLink RX11 131 "JugglingHallModel" "token" "I") (by decide +kernel)) dX11_nextToken_236 (fun H locs hP hD hS => ?_)
                                      refine lv_aload_n hx hb dX11_nextToken_239 rfl (lv_at hl 2 rfl) ?_
                                      refine lv_dup hx hb dX11_nextToken_240 rfl ?_
                                      refine va_get (D := D) (ci := 11) (v := .int a5) (C := RX11) (T := TX11) (N := 47) hx hb hts (by decide +kernel) hown hK.1 hP 0 rfl rfl 9 (by decide) (hts (.fieldLink RX11 117 "JugglingHallModel" "at" "I") (by decide +kernel)) (fun _ h9 => h9) rfl dX11_nextToken_241 ?_
                                      refine lv_iconst (v := 1) hx hb dX11_nextToken_244 (by decide) ?_
                                      refine a_iadd (u := a5.toInt) (v := 1) hx hb dX11_nextToken_245 (rfl) (by decide) (by omega) (fun z_27 e_27 => ?_)
                                      refine mp_5 hx hb hts (by decide +kernel) hown hK hP hD hS (hts (.fieldLink RX11 117 "JugglingHallModel" "at" "I") (by decide +kernel)) dX11_nextToken_246 (fun H locs hP hD hS => ?_)
                                      have hz_28 : (3 : Int32).toInt = 3 := by decide
                                      exact g_vret (z_27, a5, (3 : Int32), x8) hx hb hr hlocks hS rfl (⟨show x5.toInt ≤ z_27.toInt ∧ z_27.toInt ≤ x2.toInt from (by first | assumption | omega), show 0 ≤ a5.toInt ∧ a5.toInt ≤ 300 from (by first | assumption | omega), show (3 : Int32).toInt = 0 ∨ x5.toInt < z_27.toInt from (by first | assumption | omega), show TokOK (3 : Int32) x8 from (⟨by omega, by omega, by omega⟩)⟩) hP hD hQ (Nat.le_of_ble_eq_true rfl) (Nat.le_of_ble_eq_true rfl) dX11_nextToken_249
                                    · exact join12  _ _ _ (by first | assumption | omega) hP hD hS (lv_sub hl [1, 0] rfl)
              · have loop108 : ∀ (ddloop108 : Nat) (b5 : Int32) (H : Heap) (locs : List Loc) (ls : Array Slot), (x2.toInt - b5.toInt).toNat < ddloop108 → (a5.toInt ≤ b5.toInt ∧ b5.toInt ≤ x2.toInt) → (a5.toInt < b5.toInt ∨ a5.toInt = b5.toInt) → va_P D vwCl (mX mm q jn cI x0 x1 x2 x3 x4 b5 a5 x7 x8 x9 x10 x11 x12 x13 x14 x15 x16 x17 x18 x19 x20 f0 f1 f2 f3 f4 f5 f6 f7 f8 f9 f10 f11 f12 f13 f14 f15 f16 f17 f18 f19 f20 f21 f22 f23 f24) H → va_D A (mX mm q jn cI x0 x1 x2 x3 x4 b5 a5 x7 x8 x9 x10 x11 x12 x13 x14 x15 x16 x17 x18 x19 x20 f0 f1 f2 f3 f4 f5 f6 f7 f8 f9 f10 f11 f12 f13 f14 f15 f16 f17 f18 f19 f20 f21 f22 f23 f24) → va_S A s.heap H locs → lv_has ls 3 [(0, .ref mm), (1, .int r_6)] → W p l e ({ frames := 3, cells := 0, slots := 0, locals := 66 }) s m args below meth c H locs 0 0 Q (F0 m 108 ls []) := by
                  intro ddloop108
                  induction ddloop108 with
                  | zero =>
                    intro b5 H locs ls hdd
                    exact absurd hdd (Nat.not_lt_zero _)
                  | succ ddloop108 ih108 =>
                    intro b5 H locs ls hdd hj hj2 hP hD hS hl
                    refine lv_aload_n hx hb dX11_nextToken_108 rfl (lv_at hl 0 rfl) ?_
                    refine lv_aload_n hx hb dX11_nextToken_109 rfl (lv_at hl 0 rfl) ?_
                    refine va_get (D := D) (ci := 11) (v := .int b5) (C := RX11) (T := TX11) (N := 47) hx hb hts (by decide +kernel) hown hK.1 hP 0 rfl rfl 9 (by decide) (hts (.fieldLink RX11 117 "JugglingHallModel" "at" "I") (by decide +kernel)) (fun _ h9 => h9) rfl dX11_nextToken_110 ?_
                    refine roP (va_runV (As := [.int b5]) (rest := []) ⟨hx, hb, hml, hown, hts⟩ (k_see l D cI cR cM _  (by first | assumption | omega) (by first | assumption | omega)) (cwV 1 hts gX11_nextToken_X11_see rfl rfl rfl (by decide +kernel) ⟨Nat.le_of_ble_eq_true rfl, Nat.le_of_ble_eq_true rfl⟩) (pre_V hK hP hD 0 11 rfl rfl) rfl rfl hl.1 rfl (lv_room (Nat.le_of_ble_eq_true rfl)) dX11_nextToken_113 ⟨Nat.le_of_ble_eq_true rfl, Nat.le_of_ble_eq_true rfl⟩) hS hA hP (fun r_29 H locs hw hP hS => ?_)
                    have h_29 : ((r_29.toInt = -1 ∧ x2.toInt ≤ b5.toInt) ∨ (b5.toInt < x2.toInt ∧ r_29.toInt = (f2 b5.toInt.toNat).toInt)) := hw
                    refine roP (va_runS (As := [.int r_29]) (rest := []) ⟨hx, hb, hml, hown, hts⟩ (k_isLetter l D cI cR cM _  ) (va_cwS 1 hts gX11_nextToken_X11_isLetter rfl rfl rfl (by decide +kernel) ⟨Nat.le_of_ble_eq_true rfl, Nat.le_of_ble_eq_true rfl⟩) (pre_S hK va_P_nil (va_D_nil (A := fun _ => True))) rfl rfl hl.1 rfl (lv_room (Nat.le_of_ble_eq_true rfl)) dX11_nextToken_116 ⟨Nat.le_of_ble_eq_true rfl, Nat.le_of_ble_eq_true rfl⟩) hS hA hP (fun r_30 H locs hw hP hS => ?_)
                    have h_30 : ((r_30.toInt = 1 ∧ 65 ≤ r_29.toInt ∧ r_29.toInt ≤ 122 ∧ (r_29.toInt ≤ 90 ∨ 97 ≤ r_29.toInt)) ∨ (r_30.toInt = 0 ∧ (r_29.toInt < 65 ∨ 122 < r_29.toInt ∨ (90 < r_29.toInt ∧ r_29.toInt < 97)))) := hw
                    refine a_if_eq (u := r_30.toInt) (tgt := 135) hx hb dX11_nextToken_119 (by decide) (rfl) (fun c_31 => ?_) (fun c_31 => ?_)
                    · have hcong : b5.toInt = a5.toInt → (f2 b5.toInt.toNat).toInt = (f2 a5.toInt.toNat).toInt := fun q => by rw [q]
                      refine lv_aload_n hx hb dX11_nextToken_135 rfl (lv_at hl 0 rfl) ?_
                      refine lv_aload_n hx hb dX11_nextToken_136 rfl (lv_at hl 0 rfl) ?_
                      refine roP (va_runV (As := []) (rest := [.ref mm]) ⟨hx, hb, hml, hown, hts⟩ (k_wordOf l D cI cR cM _  (by first | assumption | omega) (by first | assumption | omega) (by first | assumption | omega)) (cwV 0 hts gX11_nextToken_X11_wordOf rfl rfl rfl (by decide +kernel) ⟨Nat.le_of_ble_eq_true rfl, Nat.le_of_ble_eq_true rfl⟩) (pre_V hK hP hD 0 11 rfl rfl) rfl rfl hl.1 rfl (lv_room (Nat.le_of_ble_eq_true rfl)) dX11_nextToken_137 ⟨Nat.le_of_ble_eq_true rfl, Nat.le_of_ble_eq_true rfl⟩) hS hA hP (fun r_32 H locs hw hP hS => ?_)
                      have h_32 : ((r_32.toInt = 2 ∧ 65 ≤ (f2 a5.toInt.toNat).toInt ∧ (f2 a5.toInt.toNat).toInt ≤ 72) ∨ (3 ≤ r_32.toInt ∧ r_32.toInt ≤ 10)) := hw
                      refine mp_7 hx hb hts (by decide +kernel) hown hK hP hD hS (hts (.fieldLink RX11 131 "JugglingHallModel" "token" "I") (by decide +kernel)) dX11_nextToken_140 (fun H locs hP hD hS => ?_)
                      refine lv_aload_n hx hb dX11_nextToken_143 rfl (lv_at hl 0 rfl) ?_
                      refine lv_iload_n hx hb dX11_nextToken_144 rfl (lv_at hl 1 rfl) ?_
                      refine lv_bipush (v := 65) hx hb dX11_nextToken_145 (by decide) ?_
                      refine a_isub (u := r_6.toInt) (v := 65) hx hb dX11_nextToken_147 (rfl) (by decide) (by omega) (fun z_33 e_33 => ?_)
                      refine mp_8 hx hb hts (by decide +kernel) hown hK hP hD hS (hts (.fieldLink RX11 138 "JugglingHallModel" "value" "I") (by decide +kernel)) dX11_nextToken_148 (fun H locs hP hD hS => ?_)
                      refine lv_goto (tgt := 249) hx hb dX11_nextToken_151 (by decide) ?_
                      exact g_vret (b5, a5, r_32, z_33) hx hb hr hlocks hS rfl (⟨show x5.toInt ≤ b5.toInt ∧ b5.toInt ≤ x2.toInt from (by first | assumption | omega), show 0 ≤ a5.toInt ∧ a5.toInt ≤ 300 from (by first | assumption | omega), show r_32.toInt = 0 ∨ x5.toInt < b5.toInt from (by first | assumption | omega), show TokOK r_32 z_33 from (⟨by omega, by omega, by omega⟩)⟩) hP hD hQ (Nat.le_of_ble_eq_true rfl) (Nat.le_of_ble_eq_true rfl) dX11_nextToken_249
                    · refine lv_aload_n hx hb dX11_nextToken_122 rfl (lv_at hl 0 rfl) ?_
                      refine lv_dup hx hb dX11_nextToken_123 rfl ?_
                      refine va_get (D := D) (ci := 11) (v := .int b5) (C := RX11) (T := TX11) (N := 47) hx hb hts (by decide +kernel) hown hK.1 hP 0 rfl rfl 9 (by decide) (hts (.fieldLink RX11 117 "JugglingHallModel" "at" "I") (by decide +kernel)) (fun _ h9 => h9) rfl dX11_nextToken_124 ?_
                      refine lv_iconst (v := 1) hx hb dX11_nextToken_127 (by decide) ?_
                      refine a_iadd (u := b5.toInt) (v := 1) hx hb dX11_nextToken_128 (rfl) (by decide) (by omega) (fun z_34 e_34 => ?_)
                      refine mp_5 hx hb hts (by decide +kernel) hown hK hP hD hS (hts (.fieldLink RX11 117 "JugglingHallModel" "at" "I") (by decide +kernel)) dX11_nextToken_129 (fun H locs hP hD hS => ?_)
                      refine lv_goto (tgt := 108) hx hb dX11_nextToken_132 (by decide) ?_
                      exact ih108 z_34 _ _ _ (by omega) (by first | assumption | omega) (by first | assumption | omega) hP hD hS (lv_sub hl [0, 1] rfl)
                exact loop108 ((x2.toInt - a5.toInt).toNat + 1) a5 _ _ _ (by omega) (by first | assumption | omega) (by first | assumption | omega) hP hD hS (lv_sub hl [1, 0] rfl)
            · refine lv_aload_n hx hb dX11_nextToken_75 rfl (lv_at hl 1 rfl) ?_
              refine lv_iconst (v := 1) hx hb dX11_nextToken_76 (by decide) ?_
              refine mp_7 hx hb hts (by decide +kernel) hown hK hP hD hS (hts (.fieldLink RX11 131 "JugglingHallModel" "token" "I") (by decide +kernel)) dX11_nextToken_77 (fun H locs hP hD hS => ?_)
              refine lv_aload_n hx hb dX11_nextToken_80 rfl (lv_at hl 1 rfl) ?_
              refine lv_iload_n hx hb dX11_nextToken_81 rfl (lv_at hl 0 rfl) ?_
              refine lv_bipush (v := 48) hx hb dX11_nextToken_82 (by decide) ?_
              refine a_isub (u := r_6.toInt) (v := 48) hx hb dX11_nextToken_84 (rfl) (by decide) (by omega) (fun z_35 e_35 => ?_)
              refine mp_8 hx hb hts (by decide +kernel) hown hK hP hD hS (hts (.fieldLink RX11 138 "JugglingHallModel" "value" "I") (by decide +kernel)) dX11_nextToken_85 (fun H locs hP hD hS => ?_)
              refine lv_aload_n hx hb dX11_nextToken_88 rfl (lv_at hl 1 rfl) ?_
              refine lv_dup hx hb dX11_nextToken_89 rfl ?_
              refine va_get (D := D) (ci := 11) (v := .int a5) (C := RX11) (T := TX11) (N := 47) hx hb hts (by decide +kernel) hown hK.1 hP 0 rfl rfl 9 (by decide) (hts (.fieldLink RX11 117 "JugglingHallModel" "at" "I") (by decide +kernel)) (fun _ h9 => h9) rfl dX11_nextToken_90 ?_
              refine lv_iconst (v := 1) hx hb dX11_nextToken_93 (by decide) ?_
              refine a_iadd (u := a5.toInt) (v := 1) hx hb dX11_nextToken_94 (rfl) (by decide) (by omega) (fun z_36 e_36 => ?_)
              refine mp_5 hx hb hts (by decide +kernel) hown hK hP hD hS (hts (.fieldLink RX11 117 "JugglingHallModel" "at" "I") (by decide +kernel)) dX11_nextToken_95 (fun H locs hP hD hS => ?_)
              refine lv_goto (tgt := 249) hx hb dX11_nextToken_98 (by decide) ?_
              have hz_37 : (1 : Int32).toInt = 1 := by decide
              exact g_vret (z_36, a5, (1 : Int32), z_35) hx hb hr hlocks hS rfl (⟨show x5.toInt ≤ z_36.toInt ∧ z_36.toInt ≤ x2.toInt from (by first | assumption | omega), show 0 ≤ a5.toInt ∧ a5.toInt ≤ 300 from (by first | assumption | omega), show (1 : Int32).toInt = 0 ∨ x5.toInt < z_36.toInt from (by first | assumption | omega), show TokOK (1 : Int32) z_35 from (⟨by omega, by omega, by omega⟩)⟩) hP hD hQ (Nat.le_of_ble_eq_true rfl) (Nat.le_of_ble_eq_true rfl) dX11_nextToken_249
          · refine lv_aload_n hx hb dX11_nextToken_60 rfl (lv_at hl 1 rfl) ?_
            refine lv_iconst (v := 0) hx hb dX11_nextToken_61 (by decide) ?_
            refine mp_7 hx hb hts (by decide +kernel) hown hK hP hD hS (hts (.fieldLink RX11 131 "JugglingHallModel" "token" "I") (by decide +kernel)) dX11_nextToken_62 (fun H locs hP hD hS => ?_)
            refine lv_goto (tgt := 249) hx hb dX11_nextToken_65 (by decide) ?_
            have hz_38 : (0 : Int32).toInt = 0 := by decide
            exact g_vret (a5, a5, (0 : Int32), x8) hx hb hr hlocks hS rfl (⟨show x5.toInt ≤ a5.toInt ∧ a5.toInt ≤ x2.toInt from (by first | assumption | omega), show 0 ≤ a5.toInt ∧ a5.toInt ≤ 300 from (by first | assumption | omega), show (0 : Int32).toInt = 0 ∨ x5.toInt < a5.toInt from (by first | assumption | omega), show TokOK (0 : Int32) x8 from (⟨by omega, by omega, by omega⟩)⟩) hP hD hQ (Nat.le_of_ble_eq_true rfl) (Nat.le_of_ble_eq_true rfl) dX11_nextToken_249
        · refine lv_aload_n hx hb dX11_nextToken_26 rfl (lv_at hl 0 rfl) ?_
          refine lv_dup hx hb dX11_nextToken_27 rfl ?_
          refine va_get (D := D) (ci := 11) (v := .int a5) (C := RX11) (T := TX11) (N := 47) hx hb hts (by decide +kernel) hown hK.1 hP 0 rfl rfl 9 (by decide) (hts (.fieldLink RX11 117 "JugglingHallModel" "at" "I") (by decide +kernel)) (fun _ h9 => h9) rfl dX11_nextToken_28 ?_
          refine lv_iconst (v := 1) hx hb dX11_nextToken_31 (by decide) ?_
          refine a_iadd (u := a5.toInt) (v := 1) hx hb dX11_nextToken_32 (rfl) (by decide) (by omega) (fun z_39 e_39 => ?_)
          refine mp_5 hx hb hts (by decide +kernel) hown hK hP hD hS (hts (.fieldLink RX11 117 "JugglingHallModel" "at" "I") (by decide +kernel)) dX11_nextToken_33 (fun H locs hP hD hS => ?_)
          refine lv_goto (tgt := 0) hx hb dX11_nextToken_36 (by decide) ?_
          exact ih0 z_39 _ _ _ (by omega) (by first | assumption | omega) hP hD hS (lv_sub hl [0] rfl)
  exact loop0 ((x2.toInt - x5.toInt).toNat + 1) x5 _ _ _ (by omega) (by first | assumption | omega) hP hD hS (lv_sub hl [0] rfl)
