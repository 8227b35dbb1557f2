theorem dX11_tie_0 : decode cX11_tie 0 = .ok (.aload_n 0, 1) := by decide +kernel
theorem dX11_tie_1 : decode cX11_tie 1 = .ok (.getfield 8, 3) := by decide +kernel
theorem dX11_tie_4 : decode cX11_tie 4 = .ok (.iload_n 1, 1) := by decide +kernel
theorem dX11_tie_5 : decode cX11_tie 5 = .ok (.iaload, 1) := by decide +kernel
theorem dX11_tie_6 : decode cX11_tie 6 = .ok (.istore_n 2, 1) := by decide +kernel
theorem dX11_tie_7 : decode cX11_tie 7 = .ok (.iconst 0, 1) := by decide +kernel
theorem dX11_tie_8 : decode cX11_tie 8 = .ok (.istore_n 3, 1) := by decide +kernel
theorem dX11_tie_9 : decode cX11_tie 9 = .ok (.iload_n 3, 1) := by decide +kernel
theorem dX11_tie_10 : decode cX11_tie 10 = .ok (.bipush 6, 2) := by decide +kernel
theorem dX11_tie_12 : decode cX11_tie 12 = .ok (.iload_n 2, 1) := by decide +kernel
theorem dX11_tie_13 : decode cX11_tie 13 = .ok (.imul, 1) := by decide +kernel
theorem dX11_tie_14 : decode cX11_tie 14 = .ok (.if_icmp .ge 30, 3) := by decide +kernel
theorem dX11_tie_17 : decode cX11_tie 17 = .ok (.aload_n 0, 1) := by decide +kernel
theorem dX11_tie_18 : decode cX11_tie 18 = .ok (.getfield 57, 3) := by decide +kernel
theorem dX11_tie_21 : decode cX11_tie 21 = .ok (.iload_n 3, 1) := by decide +kernel
theorem dX11_tie_22 : decode cX11_tie 22 = .ok (.iconst (-1), 1) := by decide +kernel
theorem dX11_tie_23 : decode cX11_tie 23 = .ok (.iastore, 1) := by decide +kernel
theorem dX11_tie_24 : decode cX11_tie 24 = .ok (.aload_n 0, 1) := by decide +kernel
theorem dX11_tie_25 : decode cX11_tie 25 = .ok (.getfield 60, 3) := by decide +kernel
theorem dX11_tie_28 : decode cX11_tie 28 = .ok (.iload_n 3, 1) := by decide +kernel
theorem dX11_tie_29 : decode cX11_tie 29 = .ok (.iconst (-1), 1) := by decide +kernel
theorem dX11_tie_30 : decode cX11_tie 30 = .ok (.iastore, 1) := by decide +kernel
theorem dX11_tie_31 : decode cX11_tie 31 = .ok (.aload_n 0, 1) := by decide +kernel
theorem dX11_tie_32 : decode cX11_tie 32 = .ok (.getfield 63, 3) := by decide +kernel
theorem dX11_tie_35 : decode cX11_tie 35 = .ok (.iload_n 3, 1) := by decide +kernel
theorem dX11_tie_36 : decode cX11_tie 36 = .ok (.iconst (-1), 1) := by decide +kernel
theorem dX11_tie_37 : decode cX11_tie 37 = .ok (.iastore, 1) := by decide +kernel
theorem dX11_tie_38 : decode cX11_tie 38 = .ok (.iinc 3 1, 3) := by decide +kernel
theorem dX11_tie_41 : decode cX11_tie 41 = .ok (.goto (-32), 3) := by decide +kernel
theorem dX11_tie_44 : decode cX11_tie 44 = .ok (.iconst 0, 1) := by decide +kernel
theorem dX11_tie_45 : decode cX11_tie 45 = .ok (.istore_n 3, 1) := by decide +kernel
theorem dX11_tie_46 : decode cX11_tie 46 = .ok (.iload_n 3, 1) := by decide +kernel
theorem dX11_tie_47 : decode cX11_tie 47 = .ok (.iload_n 2, 1) := by decide +kernel
theorem dX11_tie_48 : decode cX11_tie 48 = .ok (.if_icmp .ge 95, 3) := by decide +kernel
theorem dX11_tie_51 : decode cX11_tie 51 = .ok (.iconst 0, 1) := by decide +kernel
theorem dX11_tie_52 : decode cX11_tie 52 = .ok (.istore 4, 2) := by decide +kernel
theorem dX11_tie_54 : decode cX11_tie 54 = .ok (.iload 4, 2) := by decide +kernel
theorem dX11_tie_56 : decode cX11_tie 56 = .ok (.aload_n 0, 1) := by decide +kernel
theorem dX11_tie_57 : decode cX11_tie 57 = .ok (.getfield 93, 3) := by decide +kernel
theorem dX11_tie_60 : decode cX11_tie 60 = .ok (.if_icmp .ge 77, 3) := by decide +kernel
theorem dX11_tie_63 : decode cX11_tie 63 = .ok (.aload_n 0, 1) := by decide +kernel
theorem dX11_tie_64 : decode cX11_tie 64 = .ok (.iload_n 1, 1) := by decide +kernel
theorem dX11_tie_65 : decode cX11_tie 65 = .ok (.iload_n 3, 1) := by decide +kernel
theorem dX11_tie_66 : decode cX11_tie 66 = .ok (.iload 4, 2) := by decide +kernel
theorem dX11_tie_68 : decode cX11_tie 68 = .ok (.invokevirtual 264, 3) := by decide +kernel
theorem dX11_tie_71 : decode cX11_tie 71 = .ok (.istore 5, 2) := by decide +kernel
theorem dX11_tie_73 : decode cX11_tie 73 = .ok (.iconst 0, 1) := by decide +kernel
theorem dX11_tie_74 : decode cX11_tie 74 = .ok (.istore 6, 2) := by decide +kernel
theorem dX11_tie_76 : decode cX11_tie 76 = .ok (.iload 6, 2) := by decide +kernel
theorem dX11_tie_78 : decode cX11_tie 78 = .ok (.iload 5, 2) := by decide +kernel
theorem dX11_tie_80 : decode cX11_tie 80 = .ok (.if_icmp .ge 51, 3) := by decide +kernel
theorem dX11_tie_83 : decode cX11_tie 83 = .ok (.bipush 6, 2) := by decide +kernel
theorem dX11_tie_85 : decode cX11_tie 85 = .ok (.iload_n 3, 1) := by decide +kernel
theorem dX11_tie_86 : decode cX11_tie 86 = .ok (.imul, 1) := by decide +kernel
theorem dX11_tie_87 : decode cX11_tie 87 = .ok (.iconst 2, 1) := by decide +kernel
theorem dX11_tie_88 : decode cX11_tie 88 = .ok (.iload 4, 2) := by decide +kernel
theorem dX11_tie_90 : decode cX11_tie 90 = .ok (.imul, 1) := by decide +kernel
theorem dX11_tie_91 : decode cX11_tie 91 = .ok (.iadd, 1) := by decide +kernel
theorem dX11_tie_92 : decode cX11_tie 92 = .ok (.iload 6, 2) := by decide +kernel
theorem dX11_tie_94 : decode cX11_tie 94 = .ok (.iadd, 1) := by decide +kernel
theorem dX11_tie_95 : decode cX11_tie 95 = .ok (.istore 7, 2) := by decide +kernel
theorem dX11_tie_97 : decode cX11_tie 97 = .ok (.aload_n 0, 1) := by decide +kernel
theorem dX11_tie_98 : decode cX11_tie 98 = .ok (.getfield 57, 3) := by decide +kernel
theorem dX11_tie_101 : decode cX11_tie 101 = .ok (.aload_n 0, 1) := by decide +kernel
theorem dX11_tie_102 : decode cX11_tie 102 = .ok (.getfield 66, 3) := by decide +kernel
theorem dX11_tie_105 : decode cX11_tie 105 = .ok (.iload 6, 2) := by decide +kernel
theorem dX11_tie_107 : decode cX11_tie 107 = .ok (.iaload, 1) := by decide +kernel
theorem dX11_tie_108 : decode cX11_tie 108 = .ok (.iload 7, 2) := by decide +kernel
theorem dX11_tie_110 : decode cX11_tie 110 = .ok (.iastore, 1) := by decide +kernel
theorem dX11_tie_111 : decode cX11_tie 111 = .ok (.aload_n 0, 1) := by decide +kernel
theorem dX11_tie_112 : decode cX11_tie 112 = .ok (.getfield 60, 3) := by decide +kernel
theorem dX11_tie_115 : decode cX11_tie 115 = .ok (.iload 7, 2) := by decide +kernel
theorem dX11_tie_117 : decode cX11_tie 117 = .ok (.aload_n 0, 1) := by decide +kernel
theorem dX11_tie_118 : decode cX11_tie 118 = .ok (.getfield 66, 3) := by decide +kernel
theorem dX11_tie_121 : decode cX11_tie 121 = .ok (.iload 6, 2) := by decide +kernel
theorem dX11_tie_123 : decode cX11_tie 123 = .ok (.iaload, 1) := by decide +kernel
theorem dX11_tie_124 : decode cX11_tie 124 = .ok (.iastore, 1) := by decide +kernel
theorem dX11_tie_125 : decode cX11_tie 125 = .ok (.iinc 6 1, 3) := by decide +kernel
theorem dX11_tie_128 : decode cX11_tie 128 = .ok (.goto (-52), 3) := by decide +kernel
theorem dX11_tie_131 : decode cX11_tie 131 = .ok (.iinc 4 1, 3) := by decide +kernel
theorem dX11_tie_134 : decode cX11_tie 134 = .ok (.goto (-80), 3) := by decide +kernel
theorem dX11_tie_137 : decode cX11_tie 137 = .ok (.iinc 3 1, 3) := by decide +kernel
theorem dX11_tie_140 : decode cX11_tie 140 = .ok (.goto (-94), 3) := by decide +kernel
theorem dX11_tie_143 : decode cX11_tie 143 = .ok (.aload_n 0, 1) := by decide +kernel
theorem dX11_tie_144 : decode cX11_tie 144 = .ok (.iconst 0, 1) := by decide +kernel
theorem dX11_tie_145 : decode cX11_tie 145 = .ok (.putfield 268, 3) := by decide +kernel
theorem dX11_tie_148 : decode cX11_tie 148 = .ok (.iconst 0, 1) := by decide +kernel
theorem dX11_tie_149 : decode cX11_tie 149 = .ok (.istore_n 3, 1) := by decide +kernel
theorem dX11_tie_150 : decode cX11_tie 150 = .ok (.iload_n 3, 1) := by decide +kernel
theorem dX11_tie_151 : decode cX11_tie 151 = .ok (.bipush 6, 2) := by decide +kernel
theorem dX11_tie_153 : decode cX11_tie 153 = .ok (.iload_n 2, 1) := by decide +kernel
theorem dX11_tie_154 : decode cX11_tie 154 = .ok (.imul, 1) := by decide +kernel
theorem dX11_tie_155 : decode cX11_tie 155 = .ok (.if_icmp .ge 76, 3) := by decide +kernel
theorem dX11_tie_158 : decode cX11_tie 158 = .ok (.aload_n 0, 1) := by decide +kernel
theorem dX11_tie_159 : decode cX11_tie 159 = .ok (.iload_n 1, 1) := by decide +kernel
theorem dX11_tie_160 : decode cX11_tie 160 = .ok (.iload_n 3, 1) := by decide +kernel
theorem dX11_tie_161 : decode cX11_tie 161 = .ok (.invokevirtual 258, 3) := by decide +kernel
theorem dX11_tie_164 : decode cX11_tie 164 = .ok (.ifCond .eq 61, 3) := by decide +kernel
theorem dX11_tie_167 : decode cX11_tie 167 = .ok (.aload_n 0, 1) := by decide +kernel
theorem dX11_tie_168 : decode cX11_tie 168 = .ok (.getfield 63, 3) := by decide +kernel
theorem dX11_tie_171 : decode cX11_tie 171 = .ok (.iload_n 3, 1) := by decide +kernel
theorem dX11_tie_172 : decode cX11_tie 172 = .ok (.iaload, 1) := by decide +kernel
theorem dX11_tie_173 : decode cX11_tie 173 = .ok (.ifCond .lt 6, 3) := by decide +kernel
theorem dX11_tie_176 : decode cX11_tie 176 = .ok (.goto 49, 3) := by decide +kernel
theorem dX11_tie_179 : decode cX11_tie 179 = .ok (.iload_n 3, 1) := by decide +kernel
theorem dX11_tie_180 : decode cX11_tie 180 = .ok (.istore 4, 2) := by decide +kernel
theorem dX11_tie_182 : decode cX11_tie 182 = .ok (.aload_n 0, 1) := by decide +kernel
theorem dX11_tie_183 : decode cX11_tie 183 = .ok (.getfield 63, 3) := by decide +kernel
theorem dX11_tie_186 : decode cX11_tie 186 = .ok (.iload 4, 2) := by decide +kernel
theorem dX11_tie_188 : decode cX11_tie 188 = .ok (.iaload, 1) := by decide +kernel
theorem dX11_tie_189 : decode cX11_tie 189 = .ok (.ifCond .ge 26, 3) := by decide +kernel
theorem dX11_tie_192 : decode cX11_tie 192 = .ok (.aload_n 0, 1) := by decide +kernel
theorem dX11_tie_193 : decode cX11_tie 193 = .ok (.getfield 63, 3) := by decide +kernel
theorem dX11_tie_196 : decode cX11_tie 196 = .ok (.iload 4, 2) := by decide +kernel
theorem dX11_tie_198 : decode cX11_tie 198 = .ok (.aload_n 0, 1) := by decide +kernel
theorem dX11_tie_199 : decode cX11_tie 199 = .ok (.getfield 268, 3) := by decide +kernel
theorem dX11_tie_202 : decode cX11_tie 202 = .ok (.iastore, 1) := by decide +kernel
theorem dX11_tie_203 : decode cX11_tie 203 = .ok (.aload_n 0, 1) := by decide +kernel
theorem dX11_tie_204 : decode cX11_tie 204 = .ok (.getfield 57, 3) := by decide +kernel
theorem dX11_tie_207 : decode cX11_tie 207 = .ok (.iload 4, 2) := by decide +kernel
theorem dX11_tie_209 : decode cX11_tie 209 = .ok (.iaload, 1) := by decide +kernel
theorem dX11_tie_210 : decode cX11_tie 210 = .ok (.istore 4, 2) := by decide +kernel
theorem dX11_tie_212 : decode cX11_tie 212 = .ok (.goto (-30), 3) := by decide +kernel
theorem dX11_tie_215 : decode cX11_tie 215 = .ok (.aload_n 0, 1) := by decide +kernel
theorem dX11_tie_216 : decode cX11_tie 216 = .ok (.dup, 1) := by decide +kernel
theorem dX11_tie_217 : decode cX11_tie 217 = .ok (.getfield 268, 3) := by decide +kernel
theorem dX11_tie_220 : decode cX11_tie 220 = .ok (.iconst 1, 1) := by decide +kernel
theorem dX11_tie_221 : decode cX11_tie 221 = .ok (.iadd, 1) := by decide +kernel
theorem dX11_tie_222 : decode cX11_tie 222 = .ok (.putfield 268, 3) := by decide +kernel
theorem dX11_tie_225 : decode cX11_tie 225 = .ok (.iinc 3 1, 3) := by decide +kernel
theorem dX11_tie_228 : decode cX11_tie 228 = .ok (.goto (-78), 3) := by decide +kernel
theorem dX11_tie_231 : decode cX11_tie 231 = .ok (.return_, 1) := by decide +kernel
theorem dX11_tied_0 : decode cX11_tied 0 = .ok (.aload_n 0, 1) := by decide +kernel
theorem dX11_tied_1 : decode cX11_tied 1 = .ok (.iload_n 1, 1) := by decide +kernel
theorem dX11_tied_2 : decode cX11_tied 2 = .ok (.invokevirtual 233, 3) := by decide +kernel
theorem dX11_tied_5 : decode cX11_tied 5 = .ok (.istore_n 2, 1) := by decide +kernel
theorem dX11_tied_6 : decode cX11_tied 6 = .ok (.aload_n 0, 1) := by decide +kernel
theorem dX11_tied_7 : decode cX11_tied 7 = .ok (.iload_n 2, 1) := by decide +kernel
theorem dX11_tied_8 : decode cX11_tied 8 = .ok (.invokevirtual 271, 3) := by decide +kernel
theorem dX11_tied_11 : decode cX11_tied 11 = .ok (.ifCond .ne 5, 3) := by decide +kernel
theorem dX11_tied_14 : decode cX11_tied 14 = .ok (.iconst (-1), 1) := by decide +kernel
theorem dX11_tied_15 : decode cX11_tied 15 = .ok (.ireturn, 1) := by decide +kernel
theorem dX11_tied_16 : decode cX11_tied 16 = .ok (.aload_n 0, 1) := by decide +kernel
theorem dX11_tied_17 : decode cX11_tied 17 = .ok (.iload_n 2, 1) := by decide +kernel
theorem dX11_tied_18 : decode cX11_tied 18 = .ok (.invokevirtual 274, 3) := by decide +kernel
theorem dX11_tied_21 : decode cX11_tied 21 = .ok (.iload_n 2, 1) := by decide +kernel
theorem dX11_tied_22 : decode cX11_tied 22 = .ok (.ireturn, 1) := by decide +kernel
theorem dX11_cycles_0 : decode cX11_cycles 0 = .ok (.aload_n 0, 1) := by decide +kernel
theorem dX11_cycles_1 : decode cX11_cycles 1 = .ok (.iload_n 1, 1) := by decide +kernel
theorem dX11_cycles_2 : decode cX11_cycles 2 = .ok (.invokevirtual 277, 3) := by decide +kernel
theorem dX11_cycles_5 : decode cX11_cycles 5 = .ok (.ifCond .ge 7, 3) := by decide +kernel
theorem dX11_cycles_8 : decode cX11_cycles 8 = .ok (.iconst (-1), 1) := by decide +kernel
theorem dX11_cycles_9 : decode cX11_cycles 9 = .ok (.goto 7, 3) := by decide +kernel
theorem dX11_cycles_12 : decode cX11_cycles 12 = .ok (.aload_n 0, 1) := by decide +kernel
theorem dX11_cycles_13 : decode cX11_cycles 13 = .ok (.getfield 268, 3) := by decide +kernel
theorem dX11_cycles_16 : decode cX11_cycles 16 = .ok (.ireturn, 1) := by decide +kernel
theorem dX11_cycle_0 : decode cX11_cycle 0 = .ok (.aload_n 0, 1) := by decide +kernel
theorem dX11_cycle_1 : decode cX11_cycle 1 = .ok (.iload_n 1, 1) := by decide +kernel
theorem dX11_cycle_2 : decode cX11_cycle 2 = .ok (.invokevirtual 277, 3) := by decide +kernel
theorem dX11_cycle_5 : decode cX11_cycle 5 = .ok (.istore 4, 2) := by decide +kernel
theorem dX11_cycle_7 : decode cX11_cycle 7 = .ok (.iload 4, 2) := by decide +kernel
theorem dX11_cycle_9 : decode cX11_cycle 9 = .ok (.ifCond .lt 17, 3) := by decide +kernel
theorem dX11_cycle_12 : decode cX11_cycle 12 = .ok (.iload_n 2, 1) := by decide +kernel
theorem dX11_cycle_13 : decode cX11_cycle 13 = .ok (.iconst 0, 1) := by decide +kernel
theorem dX11_cycle_14 : decode cX11_cycle 14 = .ok (.aload_n 0, 1) := by decide +kernel
theorem dX11_cycle_15 : decode cX11_cycle 15 = .ok (.getfield 268, 3) := by decide +kernel
theorem dX11_cycle_18 : decode cX11_cycle 18 = .ok (.iconst 1, 1) := by decide +kernel
theorem dX11_cycle_19 : decode cX11_cycle 19 = .ok (.isub, 1) := by decide +kernel
theorem dX11_cycle_20 : decode cX11_cycle 20 = .ok (.invokestatic 100, 3) := by decide +kernel
theorem dX11_cycle_23 : decode cX11_cycle 23 = .ok (.ifCond .ne 5, 3) := by decide +kernel
theorem dX11_cycle_26 : decode cX11_cycle 26 = .ok (.iconst (-1), 1) := by decide +kernel
theorem dX11_cycle_27 : decode cX11_cycle 27 = .ok (.ireturn, 1) := by decide +kernel
theorem dX11_cycle_28 : decode cX11_cycle 28 = .ok (.iconst 0, 1) := by decide +kernel
theorem dX11_cycle_29 : decode cX11_cycle 29 = .ok (.istore 5, 2) := by decide +kernel
theorem dX11_cycle_31 : decode cX11_cycle 31 = .ok (.iconst 0, 1) := by decide +kernel
theorem dX11_cycle_32 : decode cX11_cycle 32 = .ok (.istore 6, 2) := by decide +kernel
theorem dX11_cycle_34 : decode cX11_cycle 34 = .ok (.iconst (-1), 1) := by decide +kernel
theorem dX11_cycle_35 : decode cX11_cycle 35 = .ok (.istore 7, 2) := by decide +kernel
theorem dX11_cycle_37 : decode cX11_cycle 37 = .ok (.bipush 6, 2) := by decide +kernel
theorem dX11_cycle_39 : decode cX11_cycle 39 = .ok (.aload_n 0, 1) := by decide +kernel
theorem dX11_cycle_40 : decode cX11_cycle 40 = .ok (.getfield 8, 3) := by decide +kernel
theorem dX11_cycle_43 : decode cX11_cycle 43 = .ok (.iload 4, 2) := by decide +kernel
theorem dX11_cycle_45 : decode cX11_cycle 45 = .ok (.iaload, 1) := by decide +kernel
theorem dX11_cycle_46 : decode cX11_cycle 46 = .ok (.imul, 1) := by decide +kernel
theorem dX11_cycle_47 : decode cX11_cycle 47 = .ok (.iconst 1, 1) := by decide +kernel
theorem dX11_cycle_48 : decode cX11_cycle 48 = .ok (.isub, 1) := by decide +kernel
theorem dX11_cycle_49 : decode cX11_cycle 49 = .ok (.istore 8, 2) := by decide +kernel
theorem dX11_cycle_51 : decode cX11_cycle 51 = .ok (.iload 8, 2) := by decide +kernel
theorem dX11_cycle_53 : decode cX11_cycle 53 = .ok (.ifCond .lt 43, 3) := by decide +kernel
theorem dX11_cycle_56 : decode cX11_cycle 56 = .ok (.aload_n 0, 1) := by decide +kernel
theorem dX11_cycle_57 : decode cX11_cycle 57 = .ok (.getfield 63, 3) := by decide +kernel
theorem dX11_cycle_60 : decode cX11_cycle 60 = .ok (.iload 8, 2) := by decide +kernel
theorem dX11_cycle_62 : decode cX11_cycle 62 = .ok (.iaload, 1) := by decide +kernel
theorem dX11_cycle_63 : decode cX11_cycle 63 = .ok (.iload_n 2, 1) := by decide +kernel
theorem dX11_cycle_64 : decode cX11_cycle 64 = .ok (.if_icmp .eq 6, 3) := by decide +kernel
theorem dX11_cycle_67 : decode cX11_cycle 67 = .ok (.goto 23, 3) := by decide +kernel
theorem dX11_cycle_70 : decode cX11_cycle 70 = .ok (.iinc 5 1, 3) := by decide +kernel
theorem dX11_cycle_73 : decode cX11_cycle 73 = .ok (.iload 6, 2) := by decide +kernel
theorem dX11_cycle_75 : decode cX11_cycle 75 = .ok (.aload_n 0, 1) := by decide +kernel
theorem dX11_cycle_76 : decode cX11_cycle 76 = .ok (.iload 4, 2) := by decide +kernel
theorem dX11_cycle_78 : decode cX11_cycle 78 = .ok (.iload 8, 2) := by decide +kernel
theorem dX11_cycle_80 : decode cX11_cycle 80 = .ok (.invokevirtual 258, 3) := by decide +kernel
theorem dX11_cycle_83 : decode cX11_cycle 83 = .ok (.iadd, 1) := by decide +kernel
theorem dX11_cycle_84 : decode cX11_cycle 84 = .ok (.istore 6, 2) := by decide +kernel
theorem dX11_cycle_86 : decode cX11_cycle 86 = .ok (.iload 8, 2) := by decide +kernel
theorem dX11_cycle_88 : decode cX11_cycle 88 = .ok (.istore 7, 2) := by decide +kernel
theorem dX11_cycle_90 : decode cX11_cycle 90 = .ok (.iinc 8 (-1), 3) := by decide +kernel
theorem dX11_cycle_93 : decode cX11_cycle 93 = .ok (.goto (-42), 3) := by decide +kernel
theorem dX11_cycle_96 : decode cX11_cycle 96 = .ok (.iload_n 3, 1) := by decide +kernel
theorem dX11_cycle_97 : decode cX11_cycle 97 = .ok (.tableswitch 75 0 5 #[39, 42, 45, 56, 62, 70], 39) := by decide +kernel
theorem dX11_cycle_136 : decode cX11_cycle 136 = .ok (.iload 5, 2) := by decide +kernel
theorem dX11_cycle_138 : decode cX11_cycle 138 = .ok (.ireturn, 1) := by decide +kernel
theorem dX11_cycle_139 : decode cX11_cycle 139 = .ok (.iload 6, 2) := by decide +kernel
theorem dX11_cycle_141 : decode cX11_cycle 141 = .ok (.ireturn, 1) := by decide +kernel
theorem dX11_cycle_142 : decode cX11_cycle 142 = .ok (.iload 6, 2) := by decide +kernel
theorem dX11_cycle_144 : decode cX11_cycle 144 = .ok (.aload_n 0, 1) := by decide +kernel
theorem dX11_cycle_145 : decode cX11_cycle 145 = .ok (.getfield 8, 3) := by decide +kernel
theorem dX11_cycle_148 : decode cX11_cycle 148 = .ok (.iload 4, 2) := by decide +kernel
theorem dX11_cycle_150 : decode cX11_cycle 150 = .ok (.iaload, 1) := by decide +kernel
theorem dX11_cycle_151 : decode cX11_cycle 151 = .ok (.idiv, 1) := by decide +kernel
theorem dX11_cycle_152 : decode cX11_cycle 152 = .ok (.ireturn, 1) := by decide +kernel
theorem dX11_cycle_153 : decode cX11_cycle 153 = .ok (.iload 7, 2) := by decide +kernel
theorem dX11_cycle_155 : decode cX11_cycle 155 = .ok (.bipush 6, 2) := by decide +kernel
theorem dX11_cycle_157 : decode cX11_cycle 157 = .ok (.idiv, 1) := by decide +kernel
theorem dX11_cycle_158 : decode cX11_cycle 158 = .ok (.ireturn, 1) := by decide +kernel
theorem dX11_cycle_159 : decode cX11_cycle 159 = .ok (.iload 7, 2) := by decide +kernel
theorem dX11_cycle_161 : decode cX11_cycle 161 = .ok (.bipush 6, 2) := by decide +kernel
theorem dX11_cycle_163 : decode cX11_cycle 163 = .ok (.irem, 1) := by decide +kernel
theorem dX11_cycle_164 : decode cX11_cycle 164 = .ok (.iconst 2, 1) := by decide +kernel
theorem dX11_cycle_165 : decode cX11_cycle 165 = .ok (.idiv, 1) := by decide +kernel
theorem dX11_cycle_166 : decode cX11_cycle 166 = .ok (.ireturn, 1) := by decide +kernel
theorem dX11_cycle_167 : decode cX11_cycle 167 = .ok (.iload 7, 2) := by decide +kernel
theorem dX11_cycle_169 : decode cX11_cycle 169 = .ok (.iconst 2, 1) := by decide +kernel
theorem dX11_cycle_170 : decode cX11_cycle 170 = .ok (.irem, 1) := by decide +kernel
theorem dX11_cycle_171 : decode cX11_cycle 171 = .ok (.ireturn, 1) := by decide +kernel
theorem dX11_cycle_172 : decode cX11_cycle 172 = .ok (.iconst (-1), 1) := by decide +kernel
theorem dX11_cycle_173 : decode cX11_cycle 173 = .ok (.ireturn, 1) := by decide +kernel
theorem dX11_cycleOf_0 : decode cX11_cycleOf 0 = .ok (.aload_n 0, 1) := by decide +kernel
theorem dX11_cycleOf_1 : decode cX11_cycleOf 1 = .ok (.iload_n 1, 1) := by decide +kernel
theorem dX11_cycleOf_2 : decode cX11_cycleOf 2 = .ok (.invokevirtual 277, 3) := by decide +kernel
theorem dX11_cycleOf_5 : decode cX11_cycleOf 5 = .ok (.istore 5, 2) := by decide +kernel
theorem dX11_cycleOf_7 : decode cX11_cycleOf 7 = .ok (.aload_n 0, 1) := by decide +kernel
theorem dX11_cycleOf_8 : decode cX11_cycleOf 8 = .ok (.iload 5, 2) := by decide +kernel
theorem dX11_cycleOf_10 : decode cX11_cycleOf 10 = .ok (.iload_n 2, 1) := by decide +kernel
theorem dX11_cycleOf_11 : decode cX11_cycleOf 11 = .ok (.iload_n 3, 1) := by decide +kernel
theorem dX11_cycleOf_12 : decode cX11_cycleOf 12 = .ok (.iload 4, 2) := by decide +kernel
theorem dX11_cycleOf_14 : decode cX11_cycleOf 14 = .ok (.invokevirtual 236, 3) := by decide +kernel
theorem dX11_cycleOf_17 : decode cX11_cycleOf 17 = .ok (.ifCond .ne 5, 3) := by decide +kernel
theorem dX11_cycleOf_20 : decode cX11_cycleOf 20 = .ok (.iconst (-1), 1) := by decide +kernel
theorem dX11_cycleOf_21 : decode cX11_cycleOf 21 = .ok (.ireturn, 1) := by decide +kernel
theorem dX11_cycleOf_22 : decode cX11_cycleOf 22 = .ok (.aload_n 0, 1) := by decide +kernel
theorem dX11_cycleOf_23 : decode cX11_cycleOf 23 = .ok (.getfield 63, 3) := by decide +kernel
theorem dX11_cycleOf_26 : decode cX11_cycleOf 26 = .ok (.bipush 6, 2) := by decide +kernel
theorem dX11_cycleOf_28 : decode cX11_cycleOf 28 = .ok (.iload_n 2, 1) := by decide +kernel
theorem dX11_cycleOf_29 : decode cX11_cycleOf 29 = .ok (.imul, 1) := by decide +kernel
theorem dX11_cycleOf_30 : decode cX11_cycleOf 30 = .ok (.iconst 2, 1) := by decide +kernel
theorem dX11_cycleOf_31 : decode cX11_cycleOf 31 = .ok (.iload_n 3, 1) := by decide +kernel
theorem dX11_cycleOf_32 : decode cX11_cycleOf 32 = .ok (.imul, 1) := by decide +kernel
theorem dX11_cycleOf_33 : decode cX11_cycleOf 33 = .ok (.iadd, 1) := by decide +kernel
theorem dX11_cycleOf_34 : decode cX11_cycleOf 34 = .ok (.iload 4, 2) := by decide +kernel
theorem dX11_cycleOf_36 : decode cX11_cycleOf 36 = .ok (.iadd, 1) := by decide +kernel
theorem dX11_cycleOf_37 : decode cX11_cycleOf 37 = .ok (.iaload, 1) := by decide +kernel
theorem dX11_cycleOf_38 : decode cX11_cycleOf 38 = .ok (.ireturn, 1) := by decide +kernel
theorem dX11_sourceTime_0 : decode cX11_sourceTime 0 = .ok (.iload_n 2, 1) := by decide +kernel
theorem dX11_sourceTime_1 : decode cX11_sourceTime 1 = .ok (.aload_n 0, 1) := by decide +kernel
theorem dX11_sourceTime_2 : decode cX11_sourceTime 2 = .ok (.iload_n 1, 1) := by decide +kernel
theorem dX11_sourceTime_3 : decode cX11_sourceTime 3 = .ok (.aload_n 0, 1) := by decide +kernel
theorem dX11_sourceTime_4 : decode cX11_sourceTime 4 = .ok (.getfield 60, 3) := by decide +kernel
theorem dX11_sourceTime_7 : decode cX11_sourceTime 7 = .ok (.iload_n 3, 1) := by decide +kernel
theorem dX11_sourceTime_8 : decode cX11_sourceTime 8 = .ok (.iaload, 1) := by decide +kernel
theorem dX11_sourceTime_9 : decode cX11_sourceTime 9 = .ok (.invokevirtual 258, 3) := by decide +kernel
theorem dX11_sourceTime_12 : decode cX11_sourceTime 12 = .ok (.isub, 1) := by decide +kernel
theorem dX11_sourceTime_13 : decode cX11_sourceTime 13 = .ok (.ireturn, 1) := by decide +kernel
theorem dX11_ballOf_0 : decode cX11_ballOf 0 = .ok (.iload_n 2, 1) := by decide +kernel
theorem dX11_ballOf_1 : decode cX11_ballOf 1 = .ok (.istore 4, 2) := by decide +kernel
theorem dX11_ballOf_3 : decode cX11_ballOf 3 = .ok (.iload_n 3, 1) := by decide +kernel
theorem dX11_ballOf_4 : decode cX11_ballOf 4 = .ok (.istore 5, 2) := by decide +kernel
theorem dX11_ballOf_6 : decode cX11_ballOf 6 = .ok (.aload_n 0, 1) := by decide +kernel
theorem dX11_ballOf_7 : decode cX11_ballOf 7 = .ok (.iload_n 1, 1) := by decide +kernel
theorem dX11_ballOf_8 : decode cX11_ballOf 8 = .ok (.iload 4, 2) := by decide +kernel
theorem dX11_ballOf_10 : decode cX11_ballOf 10 = .ok (.iload 5, 2) := by decide +kernel
theorem dX11_ballOf_12 : decode cX11_ballOf 12 = .ok (.invokevirtual 280, 3) := by decide +kernel
theorem dX11_ballOf_15 : decode cX11_ballOf 15 = .ok (.ifCond .lt 30, 3) := by decide +kernel
theorem dX11_ballOf_18 : decode cX11_ballOf 18 = .ok (.aload_n 0, 1) := by decide +kernel
theorem dX11_ballOf_19 : decode cX11_ballOf 19 = .ok (.getfield 60, 3) := by decide +kernel
theorem dX11_ballOf_22 : decode cX11_ballOf 22 = .ok (.iload 5, 2) := by decide +kernel
theorem dX11_ballOf_24 : decode cX11_ballOf 24 = .ok (.iaload, 1) := by decide +kernel
theorem dX11_ballOf_25 : decode cX11_ballOf 25 = .ok (.istore 6, 2) := by decide +kernel
theorem dX11_ballOf_27 : decode cX11_ballOf 27 = .ok (.aload_n 0, 1) := by decide +kernel
theorem dX11_ballOf_28 : decode cX11_ballOf 28 = .ok (.iload_n 1, 1) := by decide +kernel
theorem dX11_ballOf_29 : decode cX11_ballOf 29 = .ok (.iload 4, 2) := by decide +kernel
theorem dX11_ballOf_31 : decode cX11_ballOf 31 = .ok (.iload 5, 2) := by decide +kernel
theorem dX11_ballOf_33 : decode cX11_ballOf 33 = .ok (.invokevirtual 280, 3) := by decide +kernel
theorem dX11_ballOf_36 : decode cX11_ballOf 36 = .ok (.istore 4, 2) := by decide +kernel
theorem dX11_ballOf_38 : decode cX11_ballOf 38 = .ok (.iload 6, 2) := by decide +kernel
theorem dX11_ballOf_40 : decode cX11_ballOf 40 = .ok (.istore 5, 2) := by decide +kernel
theorem dX11_ballOf_42 : decode cX11_ballOf 42 = .ok (.goto (-36), 3) := by decide +kernel
theorem dX11_ballOf_45 : decode cX11_ballOf 45 = .ok (.iconst 0, 1) := by decide +kernel
theorem dX11_ballOf_46 : decode cX11_ballOf 46 = .ok (.istore 6, 2) := by decide +kernel
theorem dX11_ballOf_48 : decode cX11_ballOf 48 = .ok (.iconst 0, 1) := by decide +kernel
theorem dX11_ballOf_49 : decode cX11_ballOf 49 = .ok (.istore 7, 2) := by decide +kernel
theorem dX11_ballOf_51 : decode cX11_ballOf 51 = .ok (.iload 7, 2) := by decide +kernel
theorem dX11_ballOf_53 : decode cX11_ballOf 53 = .ok (.iload 4, 2) := by decide +kernel
theorem dX11_ballOf_55 : decode cX11_ballOf 55 = .ok (.if_icmp .gt 84, 3) := by decide +kernel
theorem dX11_ballOf_58 : decode cX11_ballOf 58 = .ok (.iconst 0, 1) := by decide +kernel
theorem dX11_ballOf_59 : decode cX11_ballOf 59 = .ok (.istore 8, 2) := by decide +kernel
theorem dX11_ballOf_61 : decode cX11_ballOf 61 = .ok (.iload 8, 2) := by decide +kernel
theorem dX11_ballOf_63 : decode cX11_ballOf 63 = .ok (.bipush 6, 2) := by decide +kernel
theorem dX11_ballOf_65 : decode cX11_ballOf 65 = .ok (.if_icmp .ge 68, 3) := by decide +kernel
theorem dX11_ballOf_68 : decode cX11_ballOf 68 = .ok (.bipush 6, 2) := by decide +kernel
theorem dX11_ballOf_70 : decode cX11_ballOf 70 = .ok (.iload 7, 2) := by decide +kernel
theorem dX11_ballOf_72 : decode cX11_ballOf 72 = .ok (.aload_n 0, 1) := by decide +kernel
theorem dX11_ballOf_73 : decode cX11_ballOf 73 = .ok (.getfield 8, 3) := by decide +kernel
theorem dX11_ballOf_76 : decode cX11_ballOf 76 = .ok (.iload_n 1, 1) := by decide +kernel
theorem dX11_ballOf_77 : decode cX11_ballOf 77 = .ok (.iaload, 1) := by decide +kernel
theorem dX11_ballOf_78 : decode cX11_ballOf 78 = .ok (.irem, 1) := by decide +kernel
theorem dX11_ballOf_79 : decode cX11_ballOf 79 = .ok (.imul, 1) := by decide +kernel
theorem dX11_ballOf_80 : decode cX11_ballOf 80 = .ok (.iload 8, 2) := by decide +kernel
theorem dX11_ballOf_82 : decode cX11_ballOf 82 = .ok (.iadd, 1) := by decide +kernel
theorem dX11_ballOf_83 : decode cX11_ballOf 83 = .ok (.istore 9, 2) := by decide +kernel
theorem dX11_ballOf_85 : decode cX11_ballOf 85 = .ok (.aload_n 0, 1) := by decide +kernel
theorem dX11_ballOf_86 : decode cX11_ballOf 86 = .ok (.iload_n 1, 1) := by decide +kernel
theorem dX11_ballOf_87 : decode cX11_ballOf 87 = .ok (.iload 9, 2) := by decide +kernel
theorem dX11_ballOf_89 : decode cX11_ballOf 89 = .ok (.invokevirtual 258, 3) := by decide +kernel
theorem dX11_ballOf_92 : decode cX11_ballOf 92 = .ok (.ifCond .le 35, 3) := by decide +kernel
theorem dX11_ballOf_95 : decode cX11_ballOf 95 = .ok (.aload_n 0, 1) := by decide +kernel
theorem dX11_ballOf_96 : decode cX11_ballOf 96 = .ok (.iload_n 1, 1) := by decide +kernel
theorem dX11_ballOf_97 : decode cX11_ballOf 97 = .ok (.iload 7, 2) := by decide +kernel
theorem dX11_ballOf_99 : decode cX11_ballOf 99 = .ok (.iload 9, 2) := by decide +kernel
theorem dX11_ballOf_101 : decode cX11_ballOf 101 = .ok (.invokevirtual 280, 3) := by decide +kernel
theorem dX11_ballOf_104 : decode cX11_ballOf 104 = .ok (.ifCond .ge 23, 3) := by decide +kernel
theorem dX11_ballOf_107 : decode cX11_ballOf 107 = .ok (.iload 7, 2) := by decide +kernel
theorem dX11_ballOf_109 : decode cX11_ballOf 109 = .ok (.iload 4, 2) := by decide +kernel
theorem dX11_ballOf_111 : decode cX11_ballOf 111 = .ok (.if_icmp .lt 13, 3) := by decide +kernel
theorem dX11_ballOf_114 : decode cX11_ballOf 114 = .ok (.iload 8, 2) := by decide +kernel
theorem dX11_ballOf_116 : decode cX11_ballOf 116 = .ok (.iload 5, 2) := by decide +kernel
theorem dX11_ballOf_118 : decode cX11_ballOf 118 = .ok (.bipush 6, 2) := by decide +kernel
theorem dX11_ballOf_120 : decode cX11_ballOf 120 = .ok (.irem, 1) := by decide +kernel
theorem dX11_ballOf_121 : decode cX11_ballOf 121 = .ok (.if_icmp .ge 6, 3) := by decide +kernel
theorem dX11_ballOf_124 : decode cX11_ballOf 124 = .ok (.iinc 6 1, 3) := by decide +kernel
theorem dX11_ballOf_127 : decode cX11_ballOf 127 = .ok (.iinc 8 1, 3) := by decide +kernel
theorem dX11_ballOf_130 : decode cX11_ballOf 130 = .ok (.goto (-69), 3) := by decide +kernel
theorem dX11_ballOf_133 : decode cX11_ballOf 133 = .ok (.iinc 7 1, 3) := by decide +kernel
theorem dX11_ballOf_136 : decode cX11_ballOf 136 = .ok (.goto (-85), 3) := by decide +kernel
theorem dX11_ballOf_139 : decode cX11_ballOf 139 = .ok (.iload 6, 2) := by decide +kernel
theorem dX11_ballOf_141 : decode cX11_ballOf 141 = .ok (.ireturn, 1) := by decide +kernel
theorem dX11_caught_0 : decode cX11_caught 0 = .ok (.aload_n 0, 1) := by decide +kernel
theorem dX11_caught_1 : decode cX11_caught 1 = .ok (.iload_n 1, 1) := by decide +kernel
theorem dX11_caught_2 : decode cX11_caught 2 = .ok (.invokevirtual 277, 3) := by decide +kernel
theorem dX11_caught_5 : decode cX11_caught 5 = .ok (.istore 6, 2) := by decide +kernel
theorem dX11_caught_7 : decode cX11_caught 7 = .ok (.iload 6, 2) := by decide +kernel
theorem dX11_caught_9 : decode cX11_caught 9 = .ok (.ifCond .lt 45, 3) := by decide +kernel
theorem dX11_caught_12 : decode cX11_caught 12 = .ok (.iload_n 2, 1) := by decide +kernel
theorem dX11_caught_13 : decode cX11_caught 13 = .ok (.iconst 0, 1) := by decide +kernel
theorem dX11_caught_14 : decode cX11_caught 14 = .ok (.sipush 999, 3) := by decide +kernel
theorem dX11_caught_17 : decode cX11_caught 17 = .ok (.invokestatic 100, 3) := by decide +kernel
theorem dX11_caught_20 : decode cX11_caught 20 = .ok (.ifCond .eq 34, 3) := by decide +kernel
theorem dX11_caught_23 : decode cX11_caught 23 = .ok (.aload_n 0, 1) := by decide +kernel
theorem dX11_caught_24 : decode cX11_caught 24 = .ok (.iload 6, 2) := by decide +kernel
theorem dX11_caught_26 : decode cX11_caught 26 = .ok (.iload_n 2, 1) := by decide +kernel
theorem dX11_caught_27 : decode cX11_caught 27 = .ok (.aload_n 0, 1) := by decide +kernel
theorem dX11_caught_28 : decode cX11_caught 28 = .ok (.getfield 8, 3) := by decide +kernel
theorem dX11_caught_31 : decode cX11_caught 31 = .ok (.iload 6, 2) := by decide +kernel
theorem dX11_caught_33 : decode cX11_caught 33 = .ok (.iaload, 1) := by decide +kernel
theorem dX11_caught_34 : decode cX11_caught 34 = .ok (.irem, 1) := by decide +kernel
theorem dX11_caught_35 : decode cX11_caught 35 = .ok (.iload_n 3, 1) := by decide +kernel
theorem dX11_caught_36 : decode cX11_caught 36 = .ok (.iload 4, 2) := by decide +kernel
theorem dX11_caught_38 : decode cX11_caught 38 = .ok (.invokevirtual 236, 3) := by decide +kernel
theorem dX11_caught_41 : decode cX11_caught 41 = .ok (.ifCond .eq 13, 3) := by decide +kernel
theorem dX11_caught_44 : decode cX11_caught 44 = .ok (.iload 5, 2) := by decide +kernel
theorem dX11_caught_46 : decode cX11_caught 46 = .ok (.iconst 0, 1) := by decide +kernel
theorem dX11_caught_47 : decode cX11_caught 47 = .ok (.iconst 3, 1) := by decide +kernel
theorem dX11_caught_48 : decode cX11_caught 48 = .ok (.invokestatic 100, 3) := by decide +kernel
theorem dX11_caught_51 : decode cX11_caught 51 = .ok (.ifCond .ne 5, 3) := by decide +kernel
theorem dX11_caught_54 : decode cX11_caught 54 = .ok (.iconst (-1), 1) := by decide +kernel
theorem dX11_caught_55 : decode cX11_caught 55 = .ok (.ireturn, 1) := by decide +kernel
theorem dX11_caught_56 : decode cX11_caught 56 = .ok (.bipush 6, 2) := by decide +kernel
theorem dX11_caught_58 : decode cX11_caught 58 = .ok (.iload_n 2, 1) := by decide +kernel
theorem dX11_caught_59 : decode cX11_caught 59 = .ok (.aload_n 0, 1) := by decide +kernel
theorem dX11_caught_60 : decode cX11_caught 60 = .ok (.getfield 8, 3) := by decide +kernel
theorem dX11_caught_63 : decode cX11_caught 63 = .ok (.iload 6, 2) := by decide +kernel
theorem dX11_caught_65 : decode cX11_caught 65 = .ok (.iaload, 1) := by decide +kernel
theorem dX11_caught_66 : decode cX11_caught 66 = .ok (.irem, 1) := by decide +kernel
theorem dX11_caught_67 : decode cX11_caught 67 = .ok (.imul, 1) := by decide +kernel
theorem dX11_caught_68 : decode cX11_caught 68 = .ok (.iconst 2, 1) := by decide +kernel
theorem dX11_caught_69 : decode cX11_caught 69 = .ok (.iload_n 3, 1) := by decide +kernel
theorem dX11_caught_70 : decode cX11_caught 70 = .ok (.imul, 1) := by decide +kernel
theorem dX11_caught_71 : decode cX11_caught 71 = .ok (.iadd, 1) := by decide +kernel
theorem dX11_caught_72 : decode cX11_caught 72 = .ok (.iload 4, 2) := by decide +kernel
theorem dX11_caught_74 : decode cX11_caught 74 = .ok (.iadd, 1) := by decide +kernel
theorem dX11_caught_75 : decode cX11_caught 75 = .ok (.istore 7, 2) := by decide +kernel
theorem dX11_caught_77 : decode cX11_caught 77 = .ok (.aload_n 0, 1) := by decide +kernel
theorem dX11_caught_78 : decode cX11_caught 78 = .ok (.iload 6, 2) := by decide +kernel
theorem dX11_caught_80 : decode cX11_caught 80 = .ok (.iload 7, 2) := by decide +kernel
theorem dX11_caught_82 : decode cX11_caught 82 = .ok (.invokevirtual 258, 3) := by decide +kernel
theorem dX11_caught_85 : decode cX11_caught 85 = .ok (.ifCond .ne 5, 3) := by decide +kernel
theorem dX11_caught_88 : decode cX11_caught 88 = .ok (.iconst (-1), 1) := by decide +kernel
theorem dX11_caught_89 : decode cX11_caught 89 = .ok (.ireturn, 1) := by decide +kernel
theorem dX11_caught_90 : decode cX11_caught 90 = .ok (.iload 5, 2) := by decide +kernel
theorem dX11_caught_92 : decode cX11_caught 92 = .ok (.iconst 3, 1) := by decide +kernel
theorem dX11_caught_93 : decode cX11_caught 93 = .ok (.if_icmp .ne 13, 3) := by decide +kernel
theorem dX11_caught_96 : decode cX11_caught 96 = .ok (.aload_n 0, 1) := by decide +kernel
theorem dX11_caught_97 : decode cX11_caught 97 = .ok (.iload 6, 2) := by decide +kernel
theorem dX11_caught_99 : decode cX11_caught 99 = .ok (.iload_n 2, 1) := by decide +kernel
theorem dX11_caught_100 : decode cX11_caught 100 = .ok (.iload 7, 2) := by decide +kernel
theorem dX11_caught_102 : decode cX11_caught 102 = .ok (.invokevirtual 283, 3) := by decide +kernel
theorem dX11_caught_105 : decode cX11_caught 105 = .ok (.ireturn, 1) := by decide +kernel
theorem dX11_caught_106 : decode cX11_caught 106 = .ok (.aload_n 0, 1) := by decide +kernel
theorem dX11_caught_107 : decode cX11_caught 107 = .ok (.iload 6, 2) := by decide +kernel
theorem dX11_caught_109 : decode cX11_caught 109 = .ok (.iload_n 2, 1) := by decide +kernel
theorem dX11_caught_110 : decode cX11_caught 110 = .ok (.iload 7, 2) := by decide +kernel
theorem dX11_caught_112 : decode cX11_caught 112 = .ok (.invokevirtual 280, 3) := by decide +kernel
theorem dX11_caught_115 : decode cX11_caught 115 = .ok (.istore 8, 2) := by decide +kernel
theorem dX11_caught_117 : decode cX11_caught 117 = .ok (.iload 8, 2) := by decide +kernel
theorem dX11_caught_119 : decode cX11_caught 119 = .ok (.ifCond .ge 5, 3) := by decide +kernel
theorem dX11_caught_122 : decode cX11_caught 122 = .ok (.iconst (-1), 1) := by decide +kernel
theorem dX11_caught_123 : decode cX11_caught 123 = .ok (.ireturn, 1) := by decide +kernel
theorem dX11_caught_124 : decode cX11_caught 124 = .ok (.iload 5, 2) := by decide +kernel
theorem dX11_caught_126 : decode cX11_caught 126 = .ok (.ifCond .ne 8, 3) := by decide +kernel
theorem dX11_caught_129 : decode cX11_caught 129 = .ok (.iload 8, 2) := by decide +kernel
theorem dX11_caught_131 : decode cX11_caught 131 = .ok (.goto 33, 3) := by decide +kernel
theorem dX11_caught_134 : decode cX11_caught 134 = .ok (.iload 5, 2) := by decide +kernel
theorem dX11_caught_136 : decode cX11_caught 136 = .ok (.iconst 1, 1) := by decide +kernel
theorem dX11_caught_137 : decode cX11_caught 137 = .ok (.if_icmp .ne 18, 3) := by decide +kernel
theorem dX11_caught_140 : decode cX11_caught 140 = .ok (.aload_n 0, 1) := by decide +kernel
theorem dX11_caught_141 : decode cX11_caught 141 = .ok (.getfield 60, 3) := by decide +kernel
theorem dX11_caught_144 : decode cX11_caught 144 = .ok (.iload 7, 2) := by decide +kernel
theorem dX11_caught_146 : decode cX11_caught 146 = .ok (.iaload, 1) := by decide +kernel
theorem dX11_caught_147 : decode cX11_caught 147 = .ok (.bipush 6, 2) := by decide +kernel
theorem dX11_caught_149 : decode cX11_caught 149 = .ok (.irem, 1) := by decide +kernel
theorem dX11_caught_150 : decode cX11_caught 150 = .ok (.iconst 2, 1) := by decide +kernel
theorem dX11_caught_151 : decode cX11_caught 151 = .ok (.idiv, 1) := by decide +kernel
theorem dX11_caught_152 : decode cX11_caught 152 = .ok (.goto 12, 3) := by decide +kernel
theorem dX11_caught_155 : decode cX11_caught 155 = .ok (.aload_n 0, 1) := by decide +kernel
theorem dX11_caught_156 : decode cX11_caught 156 = .ok (.getfield 60, 3) := by decide +kernel
theorem dX11_caught_159 : decode cX11_caught 159 = .ok (.iload 7, 2) := by decide +kernel
theorem dX11_caught_161 : decode cX11_caught 161 = .ok (.iaload, 1) := by decide +kernel
theorem dX11_caught_162 : decode cX11_caught 162 = .ok (.iconst 2, 1) := by decide +kernel
theorem dX11_caught_163 : decode cX11_caught 163 = .ok (.irem, 1) := by decide +kernel
theorem dX11_caught_164 : decode cX11_caught 164 = .ok (.ireturn, 1) := by decide +kernel
set_option maxRecDepth 20000 in
theorem ggX11_tie_X11_landOn : GoodIn wsX11_tie wsX11_landOn := goodIn_r _ [12, 1, 6, 13, 14, 15, 11, 16, 17, 18, 19, 20, 21, 22, 23, 24, 25, 26, 27, 28, 29, 30, 31, 32, 33, 34, 35, 36, 37, 38, 39, 40, 41, 42, 43, 44, 45, 46, 47, 48, 49, 50, 51, 52, 53, 54, 55, 56, 57, 58, 59, 60, 61, 62, 63, 64, 65, 66, 67] (by decide +kernel) (by decide +kernel)
set_option maxRecDepth 20000 in
theorem gX11_tie_X11_landOn : GoodIn wsX11_tie (wsV RX11 264 RX11 yX11_landOn wsX11_landOn) := goodIn_app (goodIn_of _ (by decide +kernel)) ggX11_tie_X11_landOn
set_option maxRecDepth 20000 in
theorem ggX11_tie_X11_heightOf : GoodIn wsX11_tie wsX11_heightOf := goodIn_r _ [16, 1, 21, 22, 23, 24, 25, 26, 27, 28, 29, 30, 31, 32, 33, 34, 35, 36, 37, 38, 39, 40, 41, 42, 43, 44, 45, 46, 47, 48, 49, 50, 51, 52, 53, 54, 55, 56, 57, 58, 59, 60, 61, 62, 63, 64, 65, 66, 67] (by decide +kernel) (by decide +kernel)
set_option maxRecDepth 20000 in
theorem gX11_tie_X11_heightOf : GoodIn wsX11_tie (wsV RX11 258 RX11 yX11_heightOf wsX11_heightOf) := goodIn_app (goodIn_of _ (by decide +kernel)) ggX11_tie_X11_heightOf
set_option maxRecDepth 20000 in
theorem ggX11_tied_X11_rowOf : GoodIn wsX11_tied wsX11_rowOf := goodIn_r _ [5, 6, 7, 8, 4, 9, 10, 11, 12, 13, 14, 15, 16, 17, 59, 60, 61, 62, 63, 64, 65, 66, 67, 68, 69, 70, 71, 72, 73, 74, 75, 76, 77, 78, 79, 80, 81, 82, 83, 84, 85, 86, 87, 88, 89, 90, 91, 92, 93, 94, 95, 96, 97, 98, 99, 100, 101, 102, 103, 104, 105] (by decide +kernel) (by decide +kernel)
set_option maxRecDepth 20000 in
theorem gX11_tied_X11_rowOf : GoodIn wsX11_tied (wsV RX11 233 RX11 yX11_rowOf wsX11_rowOf) := goodIn_app (goodIn_of _ (by decide +kernel)) ggX11_tied_X11_rowOf
set_option maxRecDepth 100000 in
set_option maxHeartbeats 4000000 in
theorem ggX11_tied_X11_isGood : GoodIn wsX11_tied wsX11_isGood := goodIn_r _ [21, 22, 23, 24, 25, 4, 26, 14, 27, 28, 29, 30, 31, 32, 33, 34, 35, 36, 59, 60, 61, 62, 63, 64, 65, 66, 67, 68, 69, 70, 71, 72, 73, 74, 75, 76, 77, 78, 79, 80, 81, 82, 83, 84, 85, 86, 87, 88, 89, 90, 91, 92, 93, 94, 95, 96, 97, 98, 99, 100, 101, 102, 103, 104, 105] (by with_unfolding_all rfl) (by decide +kernel)
set_option maxRecDepth 20000 in
theorem gX11_tied_X11_isGood : GoodIn wsX11_tied (wsV RX11 271 RX11 yX11_isGood wsX11_isGood) := goodIn_app (goodIn_of _ (by decide +kernel)) ggX11_tied_X11_isGood
set_option maxRecDepth 100000 in
set_option maxHeartbeats 4000000 in
theorem ggX11_tied_X11_tie : GoodIn wsX11_tied wsX11_tie := goodIn_r _ [40, 14, 41, 42, 43, 44, 45, 46, 47, 48, 49, 4, 50, 51, 52, 53, 54, 55, 56, 57, 58, 59, 60, 61, 62, 63, 64, 65, 66, 67, 68, 69, 70, 71, 72, 73, 74, 75, 76, 77, 78, 79, 80, 81, 82, 83, 84, 85, 86, 87, 88, 89, 90, 91, 92, 93, 94, 95, 96, 97, 98, 99, 100, 101, 102, 103, 104, 105] (by with_unfolding_all rfl) (by decide +kernel)
set_option maxRecDepth 20000 in
theorem gX11_tied_X11_tie : GoodIn wsX11_tied (wsV RX11 274 RX11 yX11_tie wsX11_tie) := goodIn_app (goodIn_of _ (by decide +kernel)) ggX11_tied_X11_tie
set_option maxRecDepth 100000 in
set_option maxHeartbeats 4000000 in
theorem ggX11_cycles_X11_tied : GoodIn wsX11_cycles wsX11_tied := goodIn_r _ [6, 7, 8, 9, 5, 10, 11, 12, 13, 14, 15, 16, 17, 18, 19, 20, 21, 22, 23, 24, 25, 26, 27, 28, 29, 30, 31, 32, 33, 34, 35, 36, 37, 38, 39, 40, 41, 42, 43, 44, 45, 46, 47, 48, 49, 50, 1, 51, 52, 53, 54, 55, 56, 57, 58, 59, 60, 61, 62, 63, 64, 65, 66, 67, 68, 69, 70, 71, 72, 73, 74, 75, 76, 77, 78, 79, 80, 81, 82, 83, 84, 85, 86, 87, 88, 89, 90, 91, 92, 93, 94, 95, 96, 97, 98, 99, 100, 101, 102, 103, 104, 105, 106, 107, 108, 109] (by with_unfolding_all rfl) (by decide +kernel)
set_option maxRecDepth 20000 in
theorem gX11_cycles_X11_tied : GoodIn wsX11_cycles (wsV RX11 277 RX11 yX11_tied wsX11_tied) := goodIn_app (goodIn_of _ (by decide +kernel)) ggX11_cycles_X11_tied
set_option maxRecDepth 100000 in
set_option maxHeartbeats 4000000 in
theorem ggX11_cycle_X11_tied : GoodIn wsX11_cycle wsX11_tied := goodIn_r _ [8, 9, 10, 11, 7, 12, 13, 14, 15, 16, 17, 18, 19, 20, 2, 21, 22, 23, 24, 25, 26, 27, 28, 29, 30, 31, 32, 33, 34, 35, 36, 37, 38, 39, 40, 41, 42, 43, 44, 45, 46, 47, 48, 3, 49, 50, 1, 51, 52, 53, 54, 55, 56, 57, 58, 59, 60, 61, 62, 63, 64, 65, 66, 67, 68, 69, 70, 71, 72, 73, 74, 75, 76, 77, 78, 79, 80, 81, 82, 83, 84, 85, 86, 87, 88, 89, 90, 91, 92, 93, 94, 95, 96, 97, 98, 99, 100, 101, 102, 103, 104, 105, 106, 107, 108, 109] (by with_unfolding_all rfl) (by decide +kernel)
set_option maxRecDepth 20000 in
theorem gX11_cycle_X11_tied : GoodIn wsX11_cycle (wsV RX11 277 RX11 yX11_tied wsX11_tied) := goodIn_app (goodIn_of _ (by decide +kernel)) ggX11_cycle_X11_tied
set_option maxRecDepth 20000 in
theorem ggX11_cycle_X11_isIn : GoodIn wsX11_cycle wsX11_isIn := goodIn_r _ [16] (by decide +kernel) (by decide +kernel)
set_option maxRecDepth 20000 in
theorem gX11_cycle_X11_isIn : GoodIn wsX11_cycle (va_wsS RX11 100 yX11_isIn wsX11_isIn) := goodIn_app (goodIn_of _ (by decide +kernel)) ggX11_cycle_X11_isIn
set_option maxRecDepth 20000 in
theorem ggX11_cycle_X11_heightOf : GoodIn wsX11_cycle wsX11_heightOf := goodIn_r _ [58, 2, 63, 64, 65, 66, 67, 68, 69, 70, 71, 72, 73, 74, 75, 76, 77, 78, 79, 80, 81, 82, 83, 84, 85, 86, 87, 88, 89, 90, 91, 92, 93, 94, 95, 96, 97, 98, 99, 100, 101, 102, 103, 104, 105, 106, 107, 108, 109] (by decide +kernel) (by decide +kernel)
set_option maxRecDepth 20000 in
theorem gX11_cycle_X11_heightOf : GoodIn wsX11_cycle (wsV RX11 258 RX11 yX11_heightOf wsX11_heightOf) := goodIn_app (goodIn_of _ (by decide +kernel)) ggX11_cycle_X11_heightOf
set_option maxRecDepth 100000 in
set_option maxHeartbeats 4000000 in
theorem ggX11_cycleOf_X11_tied : GoodIn wsX11_cycleOf wsX11_tied := goodIn_r _ [6, 7, 8, 9, 5, 10, 11, 12, 13, 14, 15, 16, 17, 18, 19, 20, 21, 22, 23, 24, 25, 26, 27, 28, 29, 30, 31, 32, 33, 34, 35, 36, 37, 38, 39, 40, 41, 42, 43, 44, 45, 46, 47, 1, 48, 49, 50, 51, 52, 53, 54, 55, 56, 57, 58, 59, 60, 61, 62, 67, 68, 69, 70, 71, 72, 73, 74, 75, 76, 77, 78, 79, 80, 81, 82, 83, 84, 85, 86, 87, 88, 89, 90, 91, 92, 93, 94, 95, 96, 97, 98, 99, 100, 101, 102, 103, 104, 105, 106, 107, 108, 109, 110, 111, 112, 113] (by with_unfolding_all rfl) (by decide +kernel)
set_option maxRecDepth 20000 in
theorem gX11_cycleOf_X11_tied : GoodIn wsX11_cycleOf (wsV RX11 277 RX11 yX11_tied wsX11_tied) := goodIn_app (goodIn_of _ (by decide +kernel)) ggX11_cycleOf_X11_tied
set_option maxRecDepth 20000 in
theorem ggX11_cycleOf_X11_isThere : GoodIn wsX11_cycleOf wsX11_isThere := goodIn_r _ [66, 19, 48, 12, 13, 5, 14, 67, 68, 69, 70, 71, 72, 73, 74, 75, 76, 77, 78, 79, 80, 81, 82, 83, 84, 85, 86, 87, 88, 89, 90, 91, 92, 93, 94, 95, 96, 97, 98, 99, 100, 101, 102, 103, 104, 105, 106, 107, 108, 109, 110, 111, 112, 113] (by decide +kernel) (by decide +kernel)
set_option maxRecDepth 20000 in
theorem gX11_cycleOf_X11_isThere : GoodIn wsX11_cycleOf (wsV RX11 236 RX11 yX11_isThere wsX11_isThere) := goodIn_app (goodIn_of _ (by decide +kernel)) ggX11_cycleOf_X11_isThere
set_option maxRecDepth 20000 in
theorem ggX11_sourceTime_X11_heightOf : GoodIn wsX11_sourceTime wsX11_heightOf := goodIn_r _ [6, 7, 8, 9, 10, 11, 12, 13, 14, 15, 16, 17, 18, 19, 20, 21, 22, 23, 24, 25, 26, 27, 28, 29, 30, 31, 32, 33, 34, 35, 36, 37, 38, 39, 40, 41, 42, 43, 44, 45, 46, 47, 48, 49, 50, 51, 52, 53, 54] (by decide +kernel) (by decide +kernel)
set_option maxRecDepth 20000 in
theorem gX11_sourceTime_X11_heightOf : GoodIn wsX11_sourceTime (wsV RX11 258 RX11 yX11_heightOf wsX11_heightOf) := goodIn_app (goodIn_of _ (by decide +kernel)) ggX11_sourceTime_X11_heightOf
set_option maxRecDepth 20000 in
theorem ggX11_ballOf_X11_sourceTime : GoodIn wsX11_ballOf wsX11_sourceTime := goodIn_r _ [7, 1, 8, 9, 10, 6, 11, 2, 12, 13, 14, 15, 16, 17, 18, 19, 20, 21, 22, 23, 24, 25, 26, 27, 28, 29, 30, 31, 32, 33, 34, 35, 36, 37, 38, 39, 40, 41, 42, 43, 44, 45, 46, 47, 48, 49, 50, 51, 52, 53, 54, 55, 56, 57, 58] (by decide +kernel) (by decide +kernel)
set_option maxRecDepth 20000 in
theorem gX11_ballOf_X11_sourceTime : GoodIn wsX11_ballOf (wsV RX11 280 RX11 yX11_sourceTime wsX11_sourceTime) := goodIn_app (goodIn_of _ (by decide +kernel)) ggX11_ballOf_X11_sourceTime
set_option maxRecDepth 20000 in
theorem ggX11_ballOf_X11_heightOf : GoodIn wsX11_ballOf wsX11_heightOf := goodIn_r _ [11, 2, 12, 13, 14, 15, 16, 17, 18, 19, 20, 21, 22, 23, 24, 25, 26, 27, 28, 29, 30, 31, 32, 33, 34, 35, 36, 37, 38, 39, 40, 41, 42, 43, 44, 45, 46, 47, 48, 49, 50, 51, 52, 53, 54, 55, 56, 57, 58] (by decide +kernel) (by decide +kernel)
set_option maxRecDepth 20000 in
theorem gX11_ballOf_X11_heightOf : GoodIn wsX11_ballOf (wsV RX11 258 RX11 yX11_heightOf wsX11_heightOf) := goodIn_app (goodIn_of _ (by decide +kernel)) ggX11_ballOf_X11_heightOf
set_option maxRecDepth 100000 in
set_option maxHeartbeats 4000000 in
theorem ggX11_caught_X11_tied : GoodIn wsX11_caught wsX11_tied := goodIn_r _ [7, 8, 9, 10, 6, 11, 12, 13, 14, 15, 16, 17, 18, 19, 1, 20, 21, 22, 23, 24, 25, 26, 27, 28, 29, 30, 31, 32, 33, 34, 35, 36, 37, 38, 39, 40, 41, 42, 43, 44, 45, 46, 2, 47, 48, 49, 50, 51, 52, 53, 54, 55, 56, 57, 58, 59, 60, 61, 62, 75, 76, 77, 78, 79, 80, 81, 82, 83, 84, 85, 86, 87, 88, 89, 90, 91, 92, 93, 94, 95, 96, 97, 98, 99, 100, 101, 102, 103, 104, 105, 106, 107, 108, 109, 110, 111, 112, 113, 114, 115, 116, 117, 118, 119, 120, 121] (by with_unfolding_all rfl) (by decide +kernel)
set_option maxRecDepth 20000 in
theorem gX11_caught_X11_tied : GoodIn wsX11_caught (wsV RX11 277 RX11 yX11_tied wsX11_tied) := goodIn_app (goodIn_of _ (by decide +kernel)) ggX11_caught_X11_tied
set_option maxRecDepth 20000 in
theorem ggX11_caught_X11_isIn : GoodIn wsX11_caught wsX11_isIn := goodIn_r _ [15] (by decide +kernel) (by decide +kernel)
set_option maxRecDepth 20000 in
theorem gX11_caught_X11_isIn : GoodIn wsX11_caught (va_wsS RX11 100 yX11_isIn wsX11_isIn) := goodIn_app (goodIn_of _ (by decide +kernel)) ggX11_caught_X11_isIn
set_option maxRecDepth 20000 in
theorem ggX11_caught_X11_isThere : GoodIn wsX11_caught wsX11_isThere := goodIn_r _ [66, 1, 48, 13, 14, 6, 15, 75, 76, 77, 78, 79, 80, 81, 82, 83, 84, 85, 86, 87, 88, 89, 90, 91, 92, 93, 94, 95, 96, 97, 98, 99, 100, 101, 102, 103, 104, 105, 106, 107, 108, 109, 110, 111, 112, 113, 114, 115, 116, 117, 118, 119, 120, 121] (by decide +kernel) (by decide +kernel)
set_option maxRecDepth 20000 in
theorem gX11_caught_X11_isThere : GoodIn wsX11_caught (wsV RX11 236 RX11 yX11_isThere wsX11_isThere) := goodIn_app (goodIn_of _ (by decide +kernel)) ggX11_caught_X11_isThere
set_option maxRecDepth 20000 in
theorem ggX11_caught_X11_heightOf : GoodIn wsX11_caught wsX11_heightOf := goodIn_r _ [58, 1, 75, 76, 77, 78, 79, 80, 81, 82, 83, 84, 85, 86, 87, 88, 89, 90, 91, 92, 93, 94, 95, 96, 97, 98, 99, 100, 101, 102, 103, 104, 105, 106, 107, 108, 109, 110, 111, 112, 113, 114, 115, 116, 117, 118, 119, 120, 121] (by decide +kernel) (by decide +kernel)
set_option maxRecDepth 20000 in
theorem gX11_caught_X11_heightOf : GoodIn wsX11_caught (wsV RX11 258 RX11 yX11_heightOf wsX11_heightOf) := goodIn_app (goodIn_of _ (by decide +kernel)) ggX11_caught_X11_heightOf
set_option maxRecDepth 20000 in
theorem ggX11_caught_X11_ballOf : GoodIn wsX11_caught wsX11_ballOf := goodIn_r _ [70, 2, 1, 71, 72, 73, 6, 74, 55, 56, 57, 58, 75, 76, 77, 78, 79, 80, 81, 82, 83, 84, 85, 86, 87, 88, 89, 90, 91, 92, 93, 94, 95, 96, 97, 98, 99, 100, 101, 102, 103, 104, 105, 106, 107, 108, 109, 110, 111, 112, 113, 114, 115, 116, 117, 118, 119, 120, 121] (by decide +kernel) (by decide +kernel)
set_option maxRecDepth 20000 in
theorem gX11_caught_X11_ballOf : GoodIn wsX11_caught (wsV RX11 283 RX11 yX11_ballOf wsX11_ballOf) := goodIn_app (goodIn_of _ (by decide +kernel)) ggX11_caught_X11_ballOf
set_option maxRecDepth 20000 in
theorem ggX11_caught_X11_sourceTime : GoodIn wsX11_caught wsX11_sourceTime := goodIn_r _ [74, 2, 55, 56, 57, 6, 58, 1, 75, 76, 77, 78, 79, 80, 81, 82, 83, 84, 85, 86, 87, 88, 89, 90, 91, 92, 93, 94, 95, 96, 97, 98, 99, 100, 101, 102, 103, 104, 105, 106, 107, 108, 109, 110, 111, 112, 113, 114, 115, 116, 117, 118, 119, 120, 121] (by decide +kernel) (by decide +kernel)
set_option maxRecDepth 20000 in
theorem gX11_caught_X11_sourceTime : GoodIn wsX11_caught (wsV RX11 280 RX11 yX11_sourceTime wsX11_sourceTime) := goodIn_app (goodIn_of _ (by decide +kernel)) ggX11_caught_X11_sourceTime
set_option maxRecDepth 100000 in
set_option maxHeartbeats 4000000 in
theorem k_tie (l : Launch) (D : va_G) (cI cR cM : ClassId) (sz : Nat) {jn mm : Nat} {q : Nat → Nat} {x0 x1 x2 x3 x4 x5 x6 x7 x8 x9 x10 x11 x12 x13 x14 x15 x16 x17 x18 x19 x20 : Int32} {f0 f1 f2 f3 f4 f5 f6 f7 f8 f9 f10 f11 f12 f13 f14 f15 f16 f17 f18 f19 f20 f21 f22 f23 f24 : Nat → Int32} {a : Int32}  (hj : 1 ≤ jn ∧ jn ≤ 3) (hrow9 : IsRow jn f0 a.toInt) (hZ9 : ZX jn f0 (a.toInt + 1) (f0 a.toInt.toNat).toInt) (hG : cy_G f0 a.toInt (f0 a.toInt.toNat).toInt) : Met l yX11_tie wsX11_tie ({ frames := 3, cells := 0, slots := 0, locals := 75 }) (P0 D cI cR cM [.ref mm, .int a] sz (mX mm q jn cI x0 x1 x2 x3 x4 x5 x6 x7 x8 x9 x10 x11 x12 x13 x14 x15 x16 x17 x18 x19 x20 f0 f1 f2 f3 f4 f5 f6 f7 f8 f9 f10 f11 f12 f13 f14 f15 f16 f17 f18 f19 f20 f21 f22 f23 f24)) (QG (S := Int32 × (Nat → Int32) × (Nat → Int32) × (Nat → Int32) × (Nat → Int32)) (fun u => none) (fun u => mX mm q jn cI x0 x1 x2 x3 x4 x5 x6 x7 x8 x9 x10 x11 x12 x13 x14 x15 x16 (u.1) x18 x19 x20 f0 f1 f2 f3 f4 f5 f6 f7 f8 f9 f10 f11 f12 (u.2.1) (u.2.2.1) (u.2.2.2.1) (u.2.2.2.2) f17 f18 f19 f20 f21 f22 f23 f24) (fun u => (cy_CO f0 a.toInt (f0 a.toInt.toNat).toInt u.2.2.1 (3 * (f0 a.toInt.toNat).toInt)) ∧ (0 ≤ u.1.toInt ∧ u.1.toInt ≤ 144)) D (va_A (mX mm q jn cI x0 x1 x2 x3 x4 x5 x6 x7 x8 x9 x10 x11 x12 x13 x14 x15 x16 x17 x18 x19 x20 f0 f1 f2 f3 f4 f5 f6 f7 f8 f9 f10 f11 f12 f13 f14 f15 f16 f17 f18 f19 f20 f21 f22 f23 f24) sz)) 0 0 (va_A (mX mm q jn cI x0 x1 x2 x3 x4 x5 x6 x7 x8 x9 x10 x11 x12 x13 x14 x15 x16 x17 x18 x19 x20 f0 f1 f2 f3 f4 f5 f6 f7 f8 f9 f10 f11 f12 f13 f14 f15 f16 f17 f18 f19 f20 f21 f22 f23 f24) sz) := by
  refine go (cc := cX11_tie) (maxL := 8) (ret := none) (by decide) rfl (Nat.le_of_ble_eq_true rfl) ?_
  intro p e s m below meth c ls args Q hQ hsz hx hb hr hml hts hown hlocks hnm hP hK hD hl
  subst hsz
  have hD := hD.self (sz := s.heap.size)
  generalize hAe : va_A (mX mm q jn cI x0 x1 x2 x3 x4 x5 x6 x7 x8 x9 x10 x11 x12 x13 x14 x15 x16 x17 x18 x19 x20 f0 f1 f2 f3 f4 f5 f6 f7 f8 f9 f10 f11 f12 f13 f14 f15 f16 f17 f18 f19 f20 f21 f22 f23 f24) s.heap.size = A at hD hQ
  have hA : ∀ q, s.heap.size ≤ q → A q := fun q h => by rw [← hAe]; exact Or.inr h
  have hS : va_S A s.heap s.heap [] := va_S.rf
  have hl : lv_has ls 8 [(0, .ref mm), (1, .int a)] := hl
  have hr0 := hrow9
  obtain ⟨hr1, hr2, hr3, hr4, hr5, hr6⟩ := hrow9
  refine lv_aload_n hx hb dX11_tie_0 rfl (lv_at hl 0 rfl) ?_
  refine va_get (D := D) (ci := 11) (v := .ref (q 0)) (C := RX11) (T := TX11) (N := 47) hx hb hts (by decide +kernel) hown hK.1 hP 0 rfl rfl 1 (by decide) (hts (.fieldLink RX11 8 "JugglingHallModel" "rows" "[I") (by decide +kernel)) (fun _ h9 => h9) rfl dX11_tie_1 ?_
  refine lv_iload_n hx hb dX11_tie_4 rfl (lv_at hl 1 rfl) ?_
  refine a_iald (f := f0) (u := a.toInt) hx hb hK.1 hP 1 0 rfl rfl dX11_tie_5 (rfl) (by omega) (fun z_1 q_1 e_1 => ?_)
  have hn9 : z_1.toInt = (f0 a.toInt.toNat).toInt := e_1
  refine lv_istore_n (lv' := [(2, .int z_1), (0, .ref mm), (1, .int a)]) hx hb dX11_tie_6 rfl hl (by decide) rfl (fun ls hl => ?_)
  refine lv_iconst (v := 0) hx hb dX11_tie_7 (by decide) ?_
  refine lv_istore_n (lv' := [(3, .int 0), (2, .int z_1), (0, .ref mm), (1, .int a)]) hx hb dX11_tie_8 rfl hl (by decide) rfl (fun ls hl => ?_)
  have loop9 : ∀ (ddloop9 : Nat) (t : Int32) (ga : (Nat → Int32)) (gb : (Nat → Int32)) (gc : (Nat → Int32)) (H : Heap) (locs : List Loc) (ls : Array Slot), (6 * (f0 a.toInt.toNat).toInt - t.toInt).toNat < ddloop9 → (0 ≤ t.toInt ∧ t.toInt ≤ 6 * (f0 a.toInt.toNat).toInt) → (∀ t9 : Int, 0 ≤ t9 → t9 < t.toInt → (gc t9.toNat).toInt = -1) → va_P D vwCl (mX mm q jn cI x0 x1 x2 x3 x4 x5 x6 x7 x8 x9 x10 x11 x12 x13 x14 x15 x16 x17 x18 x19 x20 f0 f1 f2 f3 f4 f5 f6 f7 f8 f9 f10 f11 f12 ga gb gc f16 f17 f18 f19 f20 f21 f22 f23 f24) H → va_D A (mX mm q jn cI x0 x1 x2 x3 x4 x5 x6 x7 x8 x9 x10 x11 x12 x13 x14 x15 x16 x17 x18 x19 x20 f0 f1 f2 f3 f4 f5 f6 f7 f8 f9 f10 f11 f12 ga gb gc f16 f17 f18 f19 f20 f21 f22 f23 f24) → va_S A s.heap H locs → lv_has ls 8 [(0, .ref mm), (1, .int a), (2, .int z_1), (3, .int t)] → W p l e ({ frames := 3, cells := 0, slots := 0, locals := 75 }) s m args below meth c H locs 0 0 Q (F0 m 9 ls []) := by
    intro ddloop9
    induction ddloop9 with
    | zero =>
      intro t ga gb gc H locs ls hdd
      exact absurd hdd (Nat.not_lt_zero _)
    | succ ddloop9 ih9 =>
      intro t ga gb gc H locs ls hdd ht hng hP hD hS hl
      refine lv_iload_n hx hb dX11_tie_9 rfl (lv_at hl 3 rfl) ?_
      refine lv_bipush (v := 6) hx hb dX11_tie_10 (by decide) ?_
      refine lv_iload_n hx hb dX11_tie_12 rfl (lv_at hl 2 rfl) ?_
      refine a_imul (u := 6) (v := z_1.toInt) hx hb dX11_tie_13 (by decide) (rfl) (by omega) (fun z_2 e_2 => ?_)
      refine a_icmp_ge (u := t.toInt) (v := (6 * z_1.toInt)) (tgt := 44) hx hb dX11_tie_14 (by decide) (rfl) (e_2) (fun c_3 => ?_) (fun c_3 => ?_)
      · refine lv_iconst (v := 0) hx hb dX11_tie_44 (by decide) ?_
        refine lv_istore_n (lv' := [(3, .int 0), (0, .ref mm), (1, .int a), (2, .int z_1)]) hx hb dX11_tie_45 rfl hl (by decide) rfl (fun ls hl => ?_)
        have loop46 : ∀ (ddloop46 : Nat) (i : Int32) (gd : (Nat → Int32)) (ge : (Nat → Int32)) (gf : (Nat → Int32)) (H : Heap) (locs : List Loc) (ls : Array Slot), ((f0 a.toInt.toNat).toInt - i.toInt).toNat < ddloop46 → (0 ≤ i.toInt ∧ i.toInt ≤ (f0 a.toInt.toNat).toInt) → (cy_GO f0 a.toInt (f0 a.toInt.toNat).toInt gd (3 * i.toInt)) → (cy_CO f0 a.toInt (f0 a.toInt.toNat).toInt ge (3 * i.toInt)) → va_P D vwCl (mX mm q jn cI x0 x1 x2 x3 x4 x5 x6 x7 x8 x9 x10 x11 x12 x13 x14 x15 x16 x17 x18 x19 x20 f0 f1 f2 f3 f4 f5 f6 f7 f8 f9 f10 f11 f12 gd ge gc gf f17 f18 f19 f20 f21 f22 f23 f24) H → va_D A (mX mm q jn cI x0 x1 x2 x3 x4 x5 x6 x7 x8 x9 x10 x11 x12 x13 x14 x15 x16 x17 x18 x19 x20 f0 f1 f2 f3 f4 f5 f6 f7 f8 f9 f10 f11 f12 gd ge gc gf f17 f18 f19 f20 f21 f22 f23 f24) → va_S A s.heap H locs → lv_has ls 8 [(0, .ref mm), (1, .int a), (2, .int z_1), (3, .int i)] → W p l e ({ frames := 3, cells := 0, slots := 0, locals := 75 }) s m args below meth c H locs 0 0 Q (F0 m 46 ls []) := by
          intro ddloop46
          induction ddloop46 with
          | zero =>
            intro i gd ge gf H locs ls hdd
            exact absurd hdd (Nat.not_lt_zero _)
          | succ ddloop46 ih46 =>
            intro i gd ge gf H locs ls hdd hi hGO hCO hP hD hS hl
            refine lv_iload_n hx hb dX11_tie_46 rfl (lv_at hl 3 rfl) ?_
            refine lv_iload_n hx hb dX11_tie_47 rfl (lv_at hl 2 rfl) ?_
            refine a_icmp_ge (u := i.toInt) (v := z_1.toInt) (tgt := 143) hx hb dX11_tie_48 (by decide) (rfl) (rfl) (fun c_4 => ?_) (fun c_4 => ?_)
            · have hGO9 : cy_GO f0 a.toInt (f0 a.toInt.toNat).toInt gd (3 * (f0 a.toInt.toNat).toInt) := by rw [show 3 * (f0 a.toInt.toNat).toInt = 3 * i.toInt by omega]; exact hGO
              have hCO9 : cy_CO f0 a.toInt (f0 a.toInt.toNat).toInt ge (3 * (f0 a.toInt.toNat).toInt) := by rw [show 3 * (f0 a.toInt.toNat).toInt = 3 * i.toInt by omega]; exact hCO
              refine lv_aload_n hx hb dX11_tie_143 rfl (lv_at hl 0 rfl) ?_
              refine lv_iconst (v := 0) hx hb dX11_tie_144 (by decide) ?_
              refine mp_17 hx hb hts (by decide +kernel) hown hK hP hD hS (hts (.fieldLink RX11 268 "JugglingHallModel" "cycleCount" "I") (by decide +kernel)) dX11_tie_145 (fun H locs hP hD hS => ?_)
              refine lv_iconst (v := 0) hx hb dX11_tie_148 (by decide) ?_
              refine lv_istore_n (lv' := [(3, .int 0), (0, .ref mm), (1, .int a), (2, .int z_1)]) hx hb dX11_tie_149 rfl hl (by decide) rfl (fun ls hl => ?_)
              have loop150 : ∀ (ddloop150 : Nat) (t2 : Int32) (c17 : Int32) (gl : (Nat → Int32)) (H : Heap) (locs : List Loc) (ls : Array Slot), (6 * (f0 a.toInt.toNat).toInt - t2.toInt).toNat < ddloop150 → (0 ≤ t2.toInt ∧ t2.toInt ≤ 6 * (f0 a.toInt.toNat).toInt) → (0 ≤ c17.toInt ∧ c17.toInt ≤ t2.toInt) → (∀ t9 : Int, 0 ≤ t9 → t9 < 6 * (f0 a.toInt.toNat).toInt → (gl t9.toNat).toInt = -1 ∨ 0 ≤ (gl t9.toNat).toInt) → va_P D vwCl (mX mm q jn cI x0 x1 x2 x3 x4 x5 x6 x7 x8 x9 x10 x11 x12 x13 x14 x15 x16 c17 x18 x19 x20 f0 f1 f2 f3 f4 f5 f6 f7 f8 f9 f10 f11 f12 gd ge gl gf f17 f18 f19 f20 f21 f22 f23 f24) H → va_D A (mX mm q jn cI x0 x1 x2 x3 x4 x5 x6 x7 x8 x9 x10 x11 x12 x13 x14 x15 x16 c17 x18 x19 x20 f0 f1 f2 f3 f4 f5 f6 f7 f8 f9 f10 f11 f12 gd ge gl gf f17 f18 f19 f20 f21 f22 f23 f24) → va_S A s.heap H locs → lv_has ls 8 [(0, .ref mm), (1, .int a), (2, .int z_1), (3, .int t2)] → W p l e ({ frames := 3, cells := 0, slots := 0, locals := 75 }) s m args below meth c H locs 0 0 Q (F0 m 150 ls []) := by
                intro ddloop150
                induction ddloop150 with
                | zero =>
                  intro t2 c17 gl H locs ls hdd
                  exact absurd hdd (Nat.not_lt_zero _)
                | succ ddloop150 ih150 =>
                  intro t2 c17 gl H locs ls hdd ht2 hc17 hng2 hP hD hS hl
                  refine lv_iload_n hx hb dX11_tie_150 rfl (lv_at hl 3 rfl) ?_
                  refine lv_bipush (v := 6) hx hb dX11_tie_151 (by decide) ?_
                  refine lv_iload_n hx hb dX11_tie_153 rfl (lv_at hl 2 rfl) ?_
                  refine a_imul (u := 6) (v := z_1.toInt) hx hb dX11_tie_154 (by decide) (rfl) (by omega) (fun z_5 e_5 => ?_)
                  refine a_icmp_ge (u := t2.toInt) (v := (6 * z_1.toInt)) (tgt := 231) hx hb dX11_tie_155 (by decide) (rfl) (e_5) (fun c_6 => ?_) (fun c_6 => ?_)
                  · exact g_vret (c17, gd, ge, gl, gf) hx hb hr hlocks hS rfl (⟨show cy_CO f0 a.toInt (f0 a.toInt.toNat).toInt ge (3 * (f0 a.toInt.toNat).toInt) from (hCO9), show 0 ≤ c17.toInt ∧ c17.toInt ≤ 144 from (by first | assumption | omega)⟩) hP hD hQ (Nat.le_of_ble_eq_true rfl) (Nat.le_of_ble_eq_true rfl) dX11_tie_231
                  · refine lv_aload_n hx hb dX11_tie_158 rfl (lv_at hl 0 rfl) ?_
                    refine lv_iload_n hx hb dX11_tie_159 rfl (lv_at hl 1 rfl) ?_
                    refine lv_iload_n hx hb dX11_tie_160 rfl (lv_at hl 3 rfl) ?_
                    refine roP (va_runV (As := [.int a, .int t2]) (rest := []) ⟨hx, hb, hml, hown, hts⟩ (k_heightOf2 l D cI cR cM _  (by first | assumption | omega) (hr0) (by first | assumption | omega)) (cwV 2 hts gX11_tie_X11_heightOf rfl rfl rfl (by decide +kernel) ⟨Nat.le_of_ble_eq_true rfl, Nat.le_of_ble_eq_true rfl⟩) (pre_V hK hP hD 0 11 rfl rfl) rfl rfl hl.1 rfl (lv_room (Nat.le_of_ble_eq_true rfl)) dX11_tie_161 ⟨Nat.le_of_ble_eq_true rfl, Nat.le_of_ble_eq_true rfl⟩) hS hA hP (fun r_7 H locs hw hP hS => ?_)
                    obtain ⟨h_7, hb_7⟩ : (r_7.toInt = cy_h f0 a.toInt t2.toInt) ∧ (0 ≤ r_7.toInt ∧ r_7.toInt ≤ 9) := hw
                    have hh9 : r_7.toInt = cy_h f0 a.toInt t2.toInt := h_7
                    refine a_if_eq (u := r_7.toInt) (tgt := 225) hx hb dX11_tie_164 (by decide) (rfl) (fun c_8 => ?_) (fun c_8 => ?_)
                    · obtain ⟨z_9, q_9, e_9⟩ := i_inc (a := t2.toInt) (1) (rfl) (by decide) (by omega) (by omega)
                      refine lv_iinc (v := z_9) (lv' := [(3, .int z_9), (0, .ref mm), (1, .int a), (2, .int z_1)]) hx hb dX11_tie_225 hl (k := 3) rfl q_9 (by decide) rfl (fun ls hl => ?_)
                      refine lv_goto (tgt := 150) hx hb dX11_tie_228 (by decide) ?_
                      exact ih150 z_9 c17 gl _ _ _ (by omega) (by first | assumption | omega) (by first | assumption | omega) (hng2) hP hD hS (lv_sub hl [1, 2, 3, 0] rfl)
                    · refine lv_aload_n hx hb dX11_tie_167 rfl (lv_at hl 0 rfl) ?_
                      refine va_get (D := D) (ci := 11) (v := .ref (q 15)) (C := RX11) (T := TX11) (N := 47) hx hb hts (by decide +kernel) hown hK.1 hP 0 rfl rfl 33 (by decide) (hts (.fieldLink RX11 63 "JugglingHallModel" "cycleAt" "[I") (by decide +kernel)) (fun _ h9 => h9) rfl dX11_tie_168 ?_
                      refine lv_iload_n hx hb dX11_tie_171 rfl (lv_at hl 3 rfl) ?_
                      refine a_iald (f := gl) (u := t2.toInt) hx hb hK.1 hP 16 0 rfl rfl dX11_tie_172 (rfl) (by omega) (fun z_10 q_10 e_10 => ?_)
                      refine a_if_lt (u := z_10.toInt) (tgt := 179) hx hb dX11_tie_173 (by decide) (rfl) (fun c_11 => ?_) (fun c_11 => ?_)
                      · refine lv_iload_n hx hb dX11_tie_179 rfl (lv_at hl 3 rfl) ?_
                        refine lv_istore (lv' := [(4, .int t2), (0, .ref mm), (1, .int a), (2, .int z_1), (3, .int t2)]) hx hb dX11_tie_180 hl (by decide) rfl (fun ls hl => ?_)
                        have loop182 : ∀ (ddloop182 : Nat) (u : Int32) (gm : (Nat → Int32)) (H : Heap) (locs : List Loc) (ls : Array Slot), (6 * (f0 a.toInt.toNat).toInt - (cntM gm (6 * (f0 a.toInt.toNat).toInt).toNat : Int)).toNat < ddloop182 → (cy_O f0 a.toInt (f0 a.toInt.toNat).toInt u) → (∀ t9 : Int, 0 ≤ t9 → t9 < 6 * (f0 a.toInt.toNat).toInt → (gm t9.toNat).toInt = -1 ∨ 0 ≤ (gm t9.toNat).toInt) → va_P D vwCl (mX mm q jn cI x0 x1 x2 x3 x4 x5 x6 x7 x8 x9 x10 x11 x12 x13 x14 x15 x16 c17 x18 x19 x20 f0 f1 f2 f3 f4 f5 f6 f7 f8 f9 f10 f11 f12 gd ge gm gf f17 f18 f19 f20 f21 f22 f23 f24) H → va_D A (mX mm q jn cI x0 x1 x2 x3 x4 x5 x6 x7 x8 x9 x10 x11 x12 x13 x14 x15 x16 c17 x18 x19 x20 f0 f1 f2 f3 f4 f5 f6 f7 f8 f9 f10 f11 f12 gd ge gm gf f17 f18 f19 f20 f21 f22 f23 f24) → va_S A s.heap H locs → lv_has ls 8 [(0, .ref mm), (1, .int a), (2, .int z_1), (3, .int t2), (4, .int u)] → W p l e ({ frames := 3, cells := 0, slots := 0, locals := 75 }) s m args below meth c H locs 0 0 Q (F0 m 182 ls []) := by
                          intro ddloop182
                          induction ddloop182 with
                          | zero =>
                            intro u gm H locs ls hdd
                            exact absurd hdd (Nat.not_lt_zero _)
                          | succ ddloop182 ih182 =>
                            intro u gm H locs ls hdd hu9 hng3 hP hD hS hl
                            obtain ⟨hu1, hu2, hu3⟩ := hu9
                            refine lv_aload_n hx hb dX11_tie_182 rfl (lv_at hl 0 rfl) ?_
                            refine va_get (D := D) (ci := 11) (v := .ref (q 15)) (C := RX11) (T := TX11) (N := 47) hx hb hts (by decide +kernel) hown hK.1 hP 0 rfl rfl 33 (by decide) (hts (.fieldLink RX11 63 "JugglingHallModel" "cycleAt" "[I") (by decide +kernel)) (fun _ h9 => h9) rfl dX11_tie_183 ?_
                            refine lv_iload hx hb dX11_tie_186 (lv_at hl 4 rfl) ?_
                            refine a_iald (f := gm) (u := u.toInt) hx hb hK.1 hP 16 0 rfl rfl dX11_tie_188 (rfl) (by omega) (fun z_12 q_12 e_12 => ?_)
                            refine a_if_ge (u := z_12.toInt) (tgt := 215) hx hb dX11_tie_189 (by decide) (rfl) (fun c_13 => ?_) (fun c_13 => ?_)
                            · refine lv_aload_n hx hb dX11_tie_215 rfl (lv_at hl 0 rfl) ?_
                              refine lv_dup hx hb dX11_tie_216 rfl ?_
                              refine va_get (D := D) (ci := 11) (v := .int c17) (C := RX11) (T := TX11) (N := 47) hx hb hts (by decide +kernel) hown hK.1 hP 0 rfl rfl 35 (by decide) (hts (.fieldLink RX11 268 "JugglingHallModel" "cycleCount" "I") (by decide +kernel)) (fun _ h9 => h9) rfl dX11_tie_217 ?_
                              refine lv_iconst (v := 1) hx hb dX11_tie_220 (by decide) ?_
                              refine a_iadd (u := c17.toInt) (v := 1) hx hb dX11_tie_221 (rfl) (by decide) (by omega) (fun z_14 e_14 => ?_)
                              refine mp_17 hx hb hts (by decide +kernel) hown hK hP hD hS (hts (.fieldLink RX11 268 "JugglingHallModel" "cycleCount" "I") (by decide +kernel)) dX11_tie_222 (fun H locs hP hD hS => ?_)
                              obtain ⟨z_15, q_15, e_15⟩ := i_inc (a := t2.toInt) (1) (rfl) (by decide) (by omega) (by omega)
                              refine lv_iinc (v := z_15) (lv' := [(3, .int z_15), (0, .ref mm), (1, .int a), (2, .int z_1), (4, .int u)]) hx hb dX11_tie_225 hl (k := 3) rfl q_15 (by decide) rfl (fun ls hl => ?_)
                              refine lv_goto (tgt := 150) hx hb dX11_tie_228 (by decide) ?_
                              exact ih150 z_15 z_14 gm _ _ _ (by omega) (by first | assumption | omega) (by first | assumption | omega) (hng3) hP hD hS (lv_sub hl [1, 2, 3, 0] rfl)
                            · refine lv_aload_n hx hb dX11_tie_192 rfl (lv_at hl 0 rfl) ?_
                              refine va_get (D := D) (ci := 11) (v := .ref (q 15)) (C := RX11) (T := TX11) (N := 47) hx hb hts (by decide +kernel) hown hK.1 hP 0 rfl rfl 33 (by decide) (hts (.fieldLink RX11 63 "JugglingHallModel" "cycleAt" "[I") (by decide +kernel)) (fun _ h9 => h9) rfl dX11_tie_193 ?_
                              refine lv_iload hx hb dX11_tie_196 (lv_at hl 4 rfl) ?_
                              refine lv_aload_n hx hb dX11_tie_198 rfl (lv_at hl 0 rfl) ?_
                              refine va_get (D := D) (ci := 11) (v := .int c17) (C := RX11) (T := TX11) (N := 47) hx hb hts (by decide +kernel) hown hK.1 hP 0 rfl rfl 35 (by decide) (hts (.fieldLink RX11 268 "JugglingHallModel" "cycleCount" "I") (by decide +kernel)) (fun _ h9 => h9) rfl dX11_tie_199 ?_
                              refine ma_15 (u := u.toInt) hx hb hK hP hD hS dX11_tie_202 (rfl) (by omega) (fun g_16 H locs eg_16 hP hD hS => ?_)
                              have hcn : cntM g_16 (6 * (f0 a.toInt.toNat).toInt).toNat = cntM gm (6 * (f0 a.toInt.toNat).toInt).toNat + 1 := by rw [eg_16]; exact cntM_upd (by omega) (cy_m1 ((hng3 u.toInt hu1 hu2).resolve_right (by omega))) (cy_n1 (by omega))
                              have hcl := cntM_le g_16 (6 * (f0 a.toInt.toNat).toInt).toNat
                              refine lv_aload_n hx hb dX11_tie_203 rfl (lv_at hl 0 rfl) ?_
                              refine va_get (D := D) (ci := 11) (v := .ref (q 13)) (C := RX11) (T := TX11) (N := 47) hx hb hts (by decide +kernel) hown hK.1 hP 0 rfl rfl 31 (by decide) (hts (.fieldLink RX11 57 "JugglingHallModel" "goesOn" "[I") (by decide +kernel)) (fun _ h9 => h9) rfl dX11_tie_204 ?_
                              refine lv_iload hx hb dX11_tie_207 (lv_at hl 4 rfl) ?_
                              refine a_iald (f := gd) (u := u.toInt) hx hb hK.1 hP 14 0 rfl rfl dX11_tie_209 (rfl) (by omega) (fun z_17 q_17 e_17 => ?_)
                              refine lv_istore (lv' := [(4, .int z_17), (0, .ref mm), (1, .int a), (2, .int z_1), (3, .int t2)]) hx hb dX11_tie_210 hl (by decide) rfl (fun ls hl => ?_)
                              refine lv_goto (tgt := 182) hx hb dX11_tie_212 (by decide) ?_
                              exact ih182 z_17 g_16 _ _ _ (by omega) (by rw [q_17]; exact hGO9 u.toInt hu1 hu2 hu3 (cy_bb hj.2 hr3 hr6 hu1 hu2).2.1) (fun t9 h8 h9 => by
                                by_cases q : t9 = u.toInt
                                · rw [eg_16, q, pk_us]; exact Or.inr (by omega)
                                · rw [eg_16, un_i h8 (by omega) q]; exact hng3 t9 h8 h9) hP hD hS (lv_sub hl [1, 2, 3, 4, 0] rfl)
                        exact loop182 ((6 * (f0 a.toInt.toNat).toInt - (cntM gl (6 * (f0 a.toInt.toNat).toInt).toNat : Int)).toNat + 1) t2 gl _ _ _ (by omega) (⟨by omega, by omega, by omega⟩) (hng2) hP hD hS (lv_sub hl [1, 2, 3, 4, 0] rfl)
                      · refine lv_goto (tgt := 225) hx hb dX11_tie_176 (by decide) ?_
                        obtain ⟨z_18, q_18, e_18⟩ := i_inc (a := t2.toInt) (1) (rfl) (by decide) (by omega) (by omega)
                        refine lv_iinc (v := z_18) (lv' := [(3, .int z_18), (0, .ref mm), (1, .int a), (2, .int z_1)]) hx hb dX11_tie_225 hl (k := 3) rfl q_18 (by decide) rfl (fun ls hl => ?_)
                        refine lv_goto (tgt := 150) hx hb dX11_tie_228 (by decide) ?_
                        exact ih150 z_18 c17 gl _ _ _ (by omega) (by first | assumption | omega) (by first | assumption | omega) (hng2) hP hD hS (lv_sub hl [1, 2, 3, 0] rfl)
              have hz_19 : (0 : Int32).toInt = 0 := by decide
              have hz_20 : (0 : Int32).toInt = 0 := by decide
              exact loop150 ((6 * (f0 a.toInt.toNat).toInt - (0 : Int32).toInt).toNat + 1) (0 : Int32) (0 : Int32) gc _ _ _ (by omega) (by first | assumption | omega) (by first | assumption | omega) (fun t9 h8 h9 => Or.inl (hng t9 h8 (by omega))) hP hD hS (lv_sub hl [1, 2, 3, 0] rfl)
            · refine lv_iconst (v := 0) hx hb dX11_tie_51 (by decide) ?_
              refine lv_istore (lv' := [(4, .int 0), (0, .ref mm), (1, .int a), (2, .int z_1), (3, .int i)]) hx hb dX11_tie_52 hl (by decide) rfl (fun ls hl => ?_)
              have loop54 : ∀ (ddloop54 : Nat) (j : Int32) (gg : (Nat → Int32)) (gh : (Nat → Int32)) (gi : (Nat → Int32)) (H : Heap) (locs : List Loc) (ls : Array Slot), ((jn : Int) - j.toInt).toNat < ddloop54 → (0 ≤ j.toInt ∧ j.toInt ≤ (jn : Int)) → (cy_GO f0 a.toInt (f0 a.toInt.toNat).toInt gg (3 * i.toInt + j.toInt)) → (cy_CO f0 a.toInt (f0 a.toInt.toNat).toInt gh (3 * i.toInt + j.toInt)) → va_P D vwCl (mX mm q jn cI x0 x1 x2 x3 x4 x5 x6 x7 x8 x9 x10 x11 x12 x13 x14 x15 x16 x17 x18 x19 x20 f0 f1 f2 f3 f4 f5 f6 f7 f8 f9 f10 f11 f12 gg gh gc gi f17 f18 f19 f20 f21 f22 f23 f24) H → va_D A (mX mm q jn cI x0 x1 x2 x3 x4 x5 x6 x7 x8 x9 x10 x11 x12 x13 x14 x15 x16 x17 x18 x19 x20 f0 f1 f2 f3 f4 f5 f6 f7 f8 f9 f10 f11 f12 gg gh gc gi f17 f18 f19 f20 f21 f22 f23 f24) → va_S A s.heap H locs → lv_has ls 8 [(0, .ref mm), (1, .int a), (2, .int z_1), (3, .int i), (4, .int j)] → W p l e ({ frames := 3, cells := 0, slots := 0, locals := 75 }) s m args below meth c H locs 0 0 Q (F0 m 54 ls []) := by
                intro ddloop54
                induction ddloop54 with
                | zero =>
                  intro j gg gh gi H locs ls hdd
                  exact absurd hdd (Nat.not_lt_zero _)
                | succ ddloop54 ih54 =>
                  intro j gg gh gi H locs ls hdd hj9 hGO2 hCO2 hP hD hS hl
                  refine lv_iload hx hb dX11_tie_54 (lv_at hl 4 rfl) ?_
                  refine lv_aload_n hx hb dX11_tie_56 rfl (lv_at hl 0 rfl) ?_
                  refine va_get (D := D) (ci := 11) (v := .int (nI jn)) (C := RX11) (T := TX11) (N := 47) hx hb hts (by decide +kernel) hown hK.1 hP 0 rfl rfl 0 (by decide) (hts (.fieldLink RX11 93 "JugglingHallModel" "jugglers" "I") (by decide +kernel)) (fun _ h9 => h9) rfl dX11_tie_57 ?_
                  refine a_icmp_ge (u := j.toInt) (v := (jn : Int)) (tgt := 137) hx hb dX11_tie_60 (by decide) (rfl) (nI_toInt (by omega)) (fun c_21 => ?_) (fun c_21 => ?_)
                  · obtain ⟨z_22, q_22, e_22⟩ := i_inc (a := i.toInt) (1) (rfl) (by decide) (by omega) (by omega)
                    refine lv_iinc (v := z_22) (lv' := [(3, .int z_22), (0, .ref mm), (1, .int a), (2, .int z_1), (4, .int j)]) hx hb dX11_tie_137 hl (k := 3) rfl q_22 (by decide) rfl (fun ls hl => ?_)
                    refine lv_goto (tgt := 46) hx hb dX11_tie_140 (by decide) ?_
                    exact ih46 z_22 gg gh gi _ _ _ (by omega) (by first | assumption | omega) (by rw [show 3 * z_22.toInt = 3 * (i.toInt + 1) by omega]; exact cy_GO3 hj.2 hr3 hr6 (by rw [show 3 * i.toInt + (jn : Int) = 3 * i.toInt + j.toInt by omega]; exact hGO2)) (by rw [show 3 * z_22.toInt = 3 * (i.toInt + 1) by omega]; exact cy_CO3 hZ9 (by rw [show 3 * i.toInt + (jn : Int) = 3 * i.toInt + j.toInt by omega]; exact hCO2)) hP hD hS (lv_sub hl [1, 2, 3, 0] rfl)
                  · refine lv_aload_n hx hb dX11_tie_63 rfl (lv_at hl 0 rfl) ?_
                    refine lv_iload_n hx hb dX11_tie_64 rfl (lv_at hl 1 rfl) ?_
                    refine lv_iload_n hx hb dX11_tie_65 rfl (lv_at hl 3 rfl) ?_
                    refine lv_iload hx hb dX11_tie_66 (lv_at hl 4 rfl) ?_
                    refine call_g (wr := []) (va_runV (As := [.int a, .int i, .int j]) (rest := []) ⟨hx, hb, hml, hown, hts⟩ (k_landOn l D cI cR cM _  (by first | assumption | omega) (hr0) (hG) (by first | assumption | omega) (by first | assumption | omega)) (cwV 3 hts gX11_tie_X11_landOn rfl rfl rfl (by decide +kernel) ⟨Nat.le_of_ble_eq_true rfl, Nat.le_of_ble_eq_true rfl⟩) (pre_V hK hP hD 0 11 rfl rfl) rfl rfl hl.1 rfl (lv_room (Nat.le_of_ble_eq_true rfl)) dX11_tie_68 ⟨Nat.le_of_ble_eq_true rfl, Nat.le_of_ble_eq_true rfl⟩) hP hD hS hA [0, 1, 2, 3, 4, 5, 6, 7, 8, 9, 10, 11, 12, 13, 14, 15, 16, 17, 18, 19, 20, 21, 22, 23, 24, 25] [] (by with_unfolding_all rfl) rfl (by decide) (by decide) (fun u_23 H locs hw hP hD hS => ?_)
                    obtain ⟨r_23, g16_23⟩ := u_23
                    have hP : va_P D vwCl (mX mm q jn cI x0 x1 x2 x3 x4 x5 x6 x7 x8 x9 x10 x11 x12 x13 x14 x15 x16 x17 x18 x19 x20 f0 f1 f2 f3 f4 f5 f6 f7 f8 f9 f10 f11 f12 gg gh gc g16_23 f17 f18 f19 f20 f21 f22 f23 f24) H := hP
                    have hD : va_D A (mX mm q jn cI x0 x1 x2 x3 x4 x5 x6 x7 x8 x9 x10 x11 x12 x13 x14 x15 x16 x17 x18 x19 x20 f0 f1 f2 f3 f4 f5 f6 f7 f8 f9 f10 f11 f12 gg gh gc g16_23 f17 f18 f19 f20 f21 f22 f23 f24) := hD
                    obtain ⟨h_23, hO_23, hA9_23⟩ : (r_23.toInt = cy_L f0 a.toInt (f0 a.toInt.toNat).toInt (3 * i.toInt + j.toInt) (6 * (f0 a.toInt.toNat).toInt).toNat) ∧ (∀ k9 : Int, 0 ≤ k9 → k9 < r_23.toInt → cy_O f0 a.toInt (f0 a.toInt.toNat).toInt (g16_23 k9.toNat)) ∧ (∀ t9 : Int, 0 ≤ t9 → t9 < 6 * (f0 a.toInt.toNat).toInt → cy_h f0 a.toInt t9 ≠ 0 → cy_b f0 a.toInt (f0 a.toInt.toNat).toInt t9 = (3 * i.toInt + j.toInt) → ∃ k9 : Int, 0 ≤ k9 ∧ k9 < r_23.toInt ∧ (g16_23 k9.toNat).toInt = t9) := hw
                    have hmy := cy_many hr6 hG (p := 3 * i.toInt + j.toInt) (by omega) (by omega)
                    refine lv_istore (lv' := [(5, .int r_23), (0, .ref mm), (1, .int a), (2, .int z_1), (3, .int i), (4, .int j)]) hx hb dX11_tie_71 hl (by decide) rfl (fun ls hl => ?_)
                    refine lv_iconst (v := 0) hx hb dX11_tie_73 (by decide) ?_
                    refine lv_istore (lv' := [(6, .int 0), (5, .int r_23), (0, .ref mm), (1, .int a), (2, .int z_1), (3, .int i), (4, .int j)]) hx hb dX11_tie_74 hl (by decide) rfl (fun ls hl => ?_)
                    have loop76 : ∀ (ddloop76 : Nat) (k6 : Int32) (gj : (Nat → Int32)) (gk : (Nat → Int32)) (H : Heap) (locs : List Loc) (ls : Array Slot), (r_23.toInt - k6.toInt).toNat < ddloop76 → (0 ≤ k6.toInt ∧ k6.toInt ≤ r_23.toInt) → (cy_GO f0 a.toInt (f0 a.toInt.toNat).toInt gj (3 * i.toInt + j.toInt)) → (cy_CO f0 a.toInt (f0 a.toInt.toNat).toInt gk (3 * i.toInt + j.toInt)) → (∀ k9 : Int, 0 ≤ k9 → k9 < k6.toInt → cy_O f0 a.toInt (f0 a.toInt.toNat).toInt (gj (g16_23 k9.toNat).toInt.toNat)) → (∀ k9 : Int, 0 ≤ k9 → k9 < k6.toInt → cy_O f0 a.toInt (f0 a.toInt.toNat).toInt (gk (2 * (3 * i.toInt + j.toInt) + k9).toNat)) → va_P D vwCl (mX mm q jn cI x0 x1 x2 x3 x4 x5 x6 x7 x8 x9 x10 x11 x12 x13 x14 x15 x16 x17 x18 x19 x20 f0 f1 f2 f3 f4 f5 f6 f7 f8 f9 f10 f11 f12 gj gk gc g16_23 f17 f18 f19 f20 f21 f22 f23 f24) H → va_D A (mX mm q jn cI x0 x1 x2 x3 x4 x5 x6 x7 x8 x9 x10 x11 x12 x13 x14 x15 x16 x17 x18 x19 x20 f0 f1 f2 f3 f4 f5 f6 f7 f8 f9 f10 f11 f12 gj gk gc g16_23 f17 f18 f19 f20 f21 f22 f23 f24) → va_S A s.heap H locs → lv_has ls 8 [(0, .ref mm), (1, .int a), (2, .int z_1), (3, .int i), (4, .int j), (5, .int r_23), (6, .int k6)] → W p l e ({ frames := 3, cells := 0, slots := 0, locals := 75 }) s m args below meth c H locs 0 0 Q (F0 m 76 ls []) := by
                      intro ddloop76
                      induction ddloop76 with
                      | zero =>
                        intro k6 gj gk H locs ls hdd
                        exact absurd hdd (Nat.not_lt_zero _)
                      | succ ddloop76 ih76 =>
                        intro k6 gj gk H locs ls hdd hk6 hGO3 hCO3 hk1 hk2 hP hD hS hl
                        refine lv_iload hx hb dX11_tie_76 (lv_at hl 6 rfl) ?_
                        refine lv_iload hx hb dX11_tie_78 (lv_at hl 5 rfl) ?_
                        refine a_icmp_ge (u := k6.toInt) (v := r_23.toInt) (tgt := 131) hx hb dX11_tie_80 (by decide) (rfl) (rfl) (fun c_24 => ?_) (fun c_24 => ?_)
                        · obtain ⟨z_25, q_25, e_25⟩ := i_inc (a := j.toInt) (1) (rfl) (by decide) (by omega) (by omega)
                          refine lv_iinc (v := z_25) (lv' := [(4, .int z_25), (0, .ref mm), (1, .int a), (2, .int z_1), (3, .int i), (5, .int r_23), (6, .int k6)]) hx hb dX11_tie_131 hl (k := 4) rfl q_25 (by decide) rfl (fun ls hl => ?_)
                          refine lv_goto (tgt := 54) hx hb dX11_tie_134 (by decide) ?_
                          exact ih54 z_25 gj gk g16_23 _ _ _ (by omega) (by first | assumption | omega) (by rw [show 3 * i.toInt + z_25.toInt = 3 * i.toInt + j.toInt + 1 by omega]; exact cy_GO1 (M := r_23.toInt) (L := g16_23) hGO3 (fun k9 h8 h9 => hk1 k9 h8 (by omega)) hA9_23) (by rw [show 3 * i.toInt + z_25.toInt = 3 * i.toInt + j.toInt + 1 by omega]; exact cy_CO1 (M := r_23.toInt) hCO3 (fun k9 h8 h9 => hk2 k9 h8 (by omega)) ⟨by rw [h_23]; exact hmy.2.2.1, by rw [h_23]; exact hmy.2.2.2⟩) hP hD hS (lv_sub hl [1, 2, 3, 4, 0] rfl)
                        · refine lv_bipush (v := 6) hx hb dX11_tie_83 (by decide) ?_
                          refine lv_iload_n hx hb dX11_tie_85 rfl (lv_at hl 3 rfl) ?_
                          refine a_imul (u := 6) (v := i.toInt) hx hb dX11_tie_86 (by decide) (rfl) (by omega) (fun z_26 e_26 => ?_)
                          refine lv_iconst (v := 2) hx hb dX11_tie_87 (by decide) ?_
                          refine lv_iload hx hb dX11_tie_88 (lv_at hl 4 rfl) ?_
                          refine a_imul (u := 2) (v := j.toInt) hx hb dX11_tie_90 (by decide) (rfl) (by omega) (fun z_27 e_27 => ?_)
                          refine a_iadd (u := (6 * i.toInt)) (v := (2 * j.toInt)) hx hb dX11_tie_91 (e_26) (e_27) (by omega) (fun z_28 e_28 => ?_)
                          refine lv_iload hx hb dX11_tie_92 (lv_at hl 6 rfl) ?_
                          refine a_iadd (u := ((6 * i.toInt) + (2 * j.toInt))) (v := k6.toInt) hx hb dX11_tie_94 (e_28) (rfl) (by omega) (fun z_29 e_29 => ?_)
                          refine lv_istore (lv' := [(7, .int z_29), (0, .ref mm), (1, .int a), (2, .int z_1), (3, .int i), (4, .int j), (5, .int r_23), (6, .int k6)]) hx hb dX11_tie_95 hl (by decide) rfl (fun ls hl => ?_)
                          have hot : cy_O f0 a.toInt (f0 a.toInt.toNat).toInt z_29 := ⟨by omega, by omega, by
                            rcases (show z_29.toInt = 2 * (3 * i.toInt + j.toInt) ∨ z_29.toInt = 2 * (3 * i.toInt + j.toInt) + 1 by omega) with q | q
                            · rw [q]; exact hmy.2.2.1.mp (by omega)
                            · rw [q]; exact hmy.2.2.2.mp (by omega)⟩
                          refine lv_aload_n hx hb dX11_tie_97 rfl (lv_at hl 1 rfl) ?_
                          refine va_get (D := D) (ci := 11) (v := .ref (q 13)) (C := RX11) (T := TX11) (N := 47) hx hb hts (by decide +kernel) hown hK.1 hP 0 rfl rfl 31 (by decide) (hts (.fieldLink RX11 57 "JugglingHallModel" "goesOn" "[I") (by decide +kernel)) (fun _ h9 => h9) rfl dX11_tie_98 ?_
                          refine lv_aload_n hx hb dX11_tie_101 rfl (lv_at hl 1 rfl) ?_
                          refine va_get (D := D) (ci := 11) (v := .ref (q 16)) (C := RX11) (T := TX11) (N := 47) hx hb hts (by decide +kernel) hown hK.1 hP 0 rfl rfl 34 (by decide) (hts (.fieldLink RX11 66 "JugglingHallModel" "landing" "[I") (by decide +kernel)) (fun _ h9 => h9) rfl dX11_tie_102 ?_
                          refine lv_iload hx hb dX11_tie_105 (lv_at hl 7 rfl) ?_
                          refine a_iald (f := g16_23) (u := k6.toInt) hx hb hK.1 hP 17 0 rfl rfl dX11_tie_107 (rfl) (by omega) (fun z_30 q_30 e_30 => ?_)
                          have hol : cy_O f0 a.toInt (f0 a.toInt.toNat).toInt z_30 := by rw [q_30]; exact hO_23 _ (by omega) (by omega)
                          obtain ⟨hol1, hol3, hol4⟩ := hol
                          refine lv_iload hx hb dX11_tie_108 (lv_at hl 0 rfl) ?_
                          refine ma_13 (u := z_30.toInt) hx hb hK hP hD hS dX11_tie_110 (rfl) (by omega) (fun g_31 H locs eg_31 hP hD hS => ?_)
                          refine lv_aload_n hx hb dX11_tie_111 rfl (lv_at hl 1 rfl) ?_
                          refine va_get (D := D) (ci := 11) (v := .ref (q 14)) (C := RX11) (T := TX11) (N := 47) hx hb hts (by decide +kernel) hown hK.1 hP 0 rfl rfl 32 (by decide) (hts (.fieldLink RX11 60 "JugglingHallModel" "comesFrom" "[I") (by decide +kernel)) (fun _ h9 => h9) rfl dX11_tie_112 ?_
                          refine lv_iload hx hb dX11_tie_115 (lv_at hl 0 rfl) ?_
                          refine lv_aload_n hx hb dX11_tie_117 rfl (lv_at hl 1 rfl) ?_
                          refine va_get (D := D) (ci := 11) (v := .ref (q 16)) (C := RX11) (T := TX11) (N := 47) hx hb hts (by decide +kernel) hown hK.1 hP 0 rfl rfl 34 (by decide) (hts (.fieldLink RX11 66 "JugglingHallModel" "landing" "[I") (by decide +kernel)) (fun _ h9 => h9) rfl dX11_tie_118 ?_
                          refine lv_iload hx hb dX11_tie_121 (lv_at hl 7 rfl) ?_
                          refine a_iald (f := g16_23) (u := k6.toInt) hx hb hK.1 hP 17 0 rfl rfl dX11_tie_123 (rfl) (by omega) (fun z_32 q_32 e_32 => ?_)
                          have hol2 : cy_O f0 a.toInt (f0 a.toInt.toNat).toInt z_32 := by rw [q_32]; exact hO_23 _ (by omega) (by omega)
                          refine ma_14 (u := (((6 * i.toInt) + (2 * j.toInt)) + k6.toInt)) hx hb hK hP hD hS dX11_tie_124 (e_29) (by omega) (fun g_33 H locs eg_33 hP hD hS => ?_)
                          obtain ⟨z_34, q_34, e_34⟩ := i_inc (a := k6.toInt) (1) (rfl) (by decide) (by omega) (by omega)
                          refine lv_iinc (v := z_34) (lv' := [(6, .int z_34), (7, .int z_29), (0, .ref mm), (1, .int a), (2, .int z_1), (3, .int i), (4, .int j), (5, .int r_23)]) hx hb dX11_tie_125 hl (k := 7) rfl q_34 (by decide) rfl (fun ls hl => ?_)
                          refine lv_goto (tgt := 76) hx hb dX11_tie_128 (by decide) ?_
                          exact ih76 z_34 g_31 g_33 _ _ _ (by omega) (by first | assumption | omega) (by rw [eg_31]; exact cy_GOu hGO3 (by omega) hot) (by rw [eg_33]; exact cy_COu hCO3 (by omega) hol2) (fun k9 h8 h9 => by
                            rw [eg_31]
                            refine cy_Ou (hO_23 k9 h8 (by omega)).1 (by omega) hot (fun q => hk1 k9 h8 ?_)
                            by_cases q9 : k9 = k6.toInt
                            · exact absurd (by rw [q9, ← q_30]) q
                            · omega) (fun k9 h8 h9 => by
                            rw [eg_33]
                            exact cy_Ou (by omega) (by omega) hol2 (fun q => hk2 k9 h8 (by omega))) hP hD hS (lv_sub hl [2, 3, 4, 5, 6, 7, 0] rfl)
                    have hz_35 : (0 : Int32).toInt = 0 := by decide
                    exact loop76 ((r_23.toInt - (0 : Int32).toInt).toNat + 1) (0 : Int32) gg gh _ _ _ (by omega) (by first | assumption | omega) (hGO2) (hCO2) (fun k9 h8 h9 => absurd h9 (by omega)) (fun k9 h8 h9 => absurd h9 (by omega)) hP hD hS (lv_sub hl [2, 3, 4, 5, 6, 1, 0] rfl)
              have hz_36 : (0 : Int32).toInt = 0 := by decide
              exact loop54 (((jn : Int) - (0 : Int32).toInt).toNat + 1) (0 : Int32) gd ge gf _ _ _ (by omega) (by first | assumption | omega) (by rw [z32, Int.add_zero]; exact hGO) (by rw [z32, Int.add_zero]; exact hCO) hP hD hS (lv_sub hl [1, 2, 3, 4, 0] rfl)
        have hz_37 : (0 : Int32).toInt = 0 := by decide
        exact loop46 (((f0 a.toInt.toNat).toInt - (0 : Int32).toInt).toNat + 1) (0 : Int32) ga gb f16 _ _ _ (by omega) (by first | assumption | omega) (fun t9 h6 h7 h8 h9 => absurd h9 (by have h5 := cy_bb hj.2 hr3 hr6 h6 h7; omega)) (fun t9 h6 h7 h8 h9 => absurd h9 (by omega)) hP hD hS (lv_sub hl [1, 2, 3, 0] rfl)
      · refine lv_aload_n hx hb dX11_tie_17 rfl (lv_at hl 0 rfl) ?_
        refine va_get (D := D) (ci := 11) (v := .ref (q 13)) (C := RX11) (T := TX11) (N := 47) hx hb hts (by decide +kernel) hown hK.1 hP 0 rfl rfl 31 (by decide) (hts (.fieldLink RX11 57 "JugglingHallModel" "goesOn" "[I") (by decide +kernel)) (fun _ h9 => h9) rfl dX11_tie_18 ?_
        refine lv_iload_n hx hb dX11_tie_21 rfl (lv_at hl 3 rfl) ?_
        refine lv_iconst (v := (-1)) hx hb dX11_tie_22 (by decide) ?_
        refine ma_13 (u := t.toInt) hx hb hK hP hD hS dX11_tie_23 (rfl) (by omega) (fun g_38 H locs eg_38 hP hD hS => ?_)
        refine lv_aload_n hx hb dX11_tie_24 rfl (lv_at hl 0 rfl) ?_
        refine va_get (D := D) (ci := 11) (v := .ref (q 14)) (C := RX11) (T := TX11) (N := 47) hx hb hts (by decide +kernel) hown hK.1 hP 0 rfl rfl 32 (by decide) (hts (.fieldLink RX11 60 "JugglingHallModel" "comesFrom" "[I") (by decide +kernel)) (fun _ h9 => h9) rfl dX11_tie_25 ?_
        refine lv_iload_n hx hb dX11_tie_28 rfl (lv_at hl 3 rfl) ?_
        refine lv_iconst (v := (-1)) hx hb dX11_tie_29 (by decide) ?_
        refine ma_14 (u := t.toInt) hx hb hK hP hD hS dX11_tie_30 (rfl) (by omega) (fun g_39 H locs eg_39 hP hD hS => ?_)
        refine lv_aload_n hx hb dX11_tie_31 rfl (lv_at hl 0 rfl) ?_
        refine va_get (D := D) (ci := 11) (v := .ref (q 15)) (C := RX11) (T := TX11) (N := 47) hx hb hts (by decide +kernel) hown hK.1 hP 0 rfl rfl 33 (by decide) (hts (.fieldLink RX11 63 "JugglingHallModel" "cycleAt" "[I") (by decide +kernel)) (fun _ h9 => h9) rfl dX11_tie_32 ?_
        refine lv_iload_n hx hb dX11_tie_35 rfl (lv_at hl 3 rfl) ?_
        refine lv_iconst (v := (-1)) hx hb dX11_tie_36 (by decide) ?_
        refine ma_15 (u := t.toInt) hx hb hK hP hD hS dX11_tie_37 (rfl) (by omega) (fun g_40 H locs eg_40 hP hD hS => ?_)
        obtain ⟨z_41, q_41, e_41⟩ := i_inc (a := t.toInt) (1) (rfl) (by decide) (by omega) (by omega)
        refine lv_iinc (v := z_41) (lv' := [(3, .int z_41), (0, .ref mm), (1, .int a), (2, .int z_1)]) hx hb dX11_tie_38 hl (k := 3) rfl q_41 (by decide) rfl (fun ls hl => ?_)
        refine lv_goto (tgt := 9) hx hb dX11_tie_41 (by decide) ?_
        exact ih9 z_41 g_38 g_39 g_40 _ _ _ (by omega) (by first | assumption | omega) (fun t9 h8 h9 => by
          by_cases q : t9 = t.toInt
          · rw [eg_40, q, pk_us]; decide
          · rw [eg_40, un_i (by omega) (by omega) (by omega)]; exact hng t9 h8 (by omega)) hP hD hS (lv_sub hl [1, 2, 3, 0] rfl)
  have hz_42 : (0 : Int32).toInt = 0 := by decide
  exact loop9 ((6 * (f0 a.toInt.toNat).toInt - (0 : Int32).toInt).toNat + 1) (0 : Int32) f13 f14 f15 _ _ _ (by omega) (by first | assumption | omega) (fun t9 h8 h9 => absurd h9 (by omega)) hP hD hS (lv_sub hl [2, 3, 1, 0] rfl)
set_option maxRecDepth 100000 in
set_option maxHeartbeats 4000000 in
theorem k_tied (l : Launch) (D : va_G) (cI cR cM : ClassId) (sz : Nat) {jn mm : Nat} {q : Nat → Nat} {x0 x1 x2 x3 x4 x5 x6 x7 x8 x9 x10 x11 x12 x13 x14 x15 x16 x17 x18 x19 x20 : Int32} {f0 f1 f2 f3 f4 f5 f6 f7 f8 f9 f10 f11 f12 f13 f14 f15 f16 f17 f18 f19 f20 f21 f22 f23 f24 : Nat → Int32} {k : Int32}  (hj : 1 ≤ jn ∧ jn ≤ 3) (h0 : 0 ≤ x0.toInt ∧ x0.toInt ≤ 60) (h1 : 0 ≤ x1.toInt ∧ x1.toInt ≤ 60) (hR : RowsX jn f0) (hRZ : RowsZ jn f0) : Met l yX11_tied wsX11_tied ({ frames := 4, cells := 0, slots := 0, locals := 102 }) (P0 D cI cR cM [.ref mm, .int k] sz (mX mm q jn cI x0 x1 x2 x3 x4 x5 x6 x7 x8 x9 x10 x11 x12 x13 x14 x15 x16 x17 x18 x19 x20 f0 f1 f2 f3 f4 f5 f6 f7 f8 f9 f10 f11 f12 f13 f14 f15 f16 f17 f18 f19 f20 f21 f22 f23 f24)) (QG (S := Int32 × Int32 × Int32 × Int32 × (Nat → Int32) × (Nat → Int32) × (Nat → Int32) × (Nat → Int32) × (Nat → Int32)) (fun u => some (.int u.1)) (fun u => mX mm q jn cI x0 x1 x2 x3 x4 x5 x6 x7 x8 x9 x10 x11 x12 x13 x14 (u.2.1) (u.2.2.1) (u.2.2.2.1) x18 x19 x20 f0 f1 f2 f3 f4 f5 f6 f7 f8 f9 f10 f11 (u.2.2.2.2.1) (u.2.2.2.2.2.1) (u.2.2.2.2.2.2.1) (u.2.2.2.2.2.2.2.1) (u.2.2.2.2.2.2.2.2) f17 f18 f19 f20 f21 f22 f23 f24) (fun u => (u.1.toInt = -1 ∨ (IsRow jn f0 u.1.toInt ∧ ZX jn f0 (u.1.toInt + 1) (f0 u.1.toInt.toNat).toInt ∧ cy_CO f0 u.1.toInt (f0 u.1.toInt.toNat).toInt u.2.2.2.2.2.2.1 (3 * (f0 u.1.toInt.toNat).toInt) ∧ 0 ≤ u.2.2.2.1.toInt ∧ u.2.2.2.1.toInt ≤ 144)) ∧ (u.1.toInt ≤ 150 * (8 * x1.toInt + 7))) D (va_A (mX mm q jn cI x0 x1 x2 x3 x4 x5 x6 x7 x8 x9 x10 x11 x12 x13 x14 x15 x16 x17 x18 x19 x20 f0 f1 f2 f3 f4 f5 f6 f7 f8 f9 f10 f11 f12 f13 f14 f15 f16 f17 f18 f19 f20 f21 f22 f23 f24) sz)) 0 0 (va_A (mX mm q jn cI x0 x1 x2 x3 x4 x5 x6 x7 x8 x9 x10 x11 x12 x13 x14 x15 x16 x17 x18 x19 x20 f0 f1 f2 f3 f4 f5 f6 f7 f8 f9 f10 f11 f12 f13 f14 f15 f16 f17 f18 f19 f20 f21 f22 f23 f24) sz) := by
  refine go (cc := cX11_tied) (maxL := 3) (ret := (some .int)) (by decide) rfl (Nat.le_of_ble_eq_true rfl) ?_
  intro p e s m below meth c ls args Q hQ hsz hx hb hr hml hts hown hlocks hnm hP hK hD hl
  subst hsz
  have hD := hD.self (sz := s.heap.size)
  generalize hAe : va_A (mX mm q jn cI x0 x1 x2 x3 x4 x5 x6 x7 x8 x9 x10 x11 x12 x13 x14 x15 x16 x17 x18 x19 x20 f0 f1 f2 f3 f4 f5 f6 f7 f8 f9 f10 f11 f12 f13 f14 f15 f16 f17 f18 f19 f20 f21 f22 f23 f24) s.heap.size = A at hD hQ
  have hA : ∀ q, s.heap.size ≤ q → A q := fun q h => by rw [← hAe]; exact Or.inr h
  have hS : va_S A s.heap s.heap [] := va_S.rf
  have hl : lv_has ls 3 [(0, .ref mm), (1, .int k)] := hl
  refine lv_aload_n hx hb dX11_tied_0 rfl (lv_at hl 0 rfl) ?_
  refine lv_iload_n hx hb dX11_tied_1 rfl (lv_at hl 1 rfl) ?_
  refine roP (va_runV (As := [.int k]) (rest := []) ⟨hx, hb, hml, hown, hts⟩ (k_rowOf2 l D cI cR cM _  (by first | assumption | omega) (by first | assumption | omega) (by first | assumption | omega)) (cwV 1 hts gX11_tied_X11_rowOf rfl rfl rfl (by decide +kernel) ⟨Nat.le_of_ble_eq_true rfl, Nat.le_of_ble_eq_true rfl⟩) (pre_V hK hP hD 0 11 rfl rfl) rfl rfl hl.1 rfl (lv_room (Nat.le_of_ble_eq_true rfl)) dX11_tied_2 ⟨Nat.le_of_ble_eq_true rfl, Nat.le_of_ble_eq_true rfl⟩) hS hA hP (fun r_1 H locs hw hP hS => ?_)
  obtain ⟨h_1, hle_1⟩ : (r_1.toInt = -1 ∨ (IsRow jn f0 r_1.toInt ∧ ZX jn f0 (r_1.toInt + 1) (f0 r_1.toInt.toNat).toInt)) ∧ (r_1.toInt ≤ 150 * (8 * x1.toInt + 7)) := hw
  refine lv_istore_n (lv' := [(2, .int r_1), (0, .ref mm), (1, .int k)]) hx hb dX11_tied_5 rfl hl (by decide) rfl (fun ls hl => ?_)
  refine lv_aload_n hx hb dX11_tied_6 rfl (lv_at hl 1 rfl) ?_
  refine lv_iload_n hx hb dX11_tied_7 rfl (lv_at hl 0 rfl) ?_
  refine call_g (wr := []) (va_runV (As := [.int r_1]) (rest := []) ⟨hx, hb, hml, hown, hts⟩ (k_isGood2 l D cI cR cM _  (by first | assumption | omega) (h_1.imp id (fun q => q.1))) (cwV 1 hts gX11_tied_X11_isGood rfl rfl rfl (by decide +kernel) ⟨Nat.le_of_ble_eq_true rfl, Nat.le_of_ble_eq_true rfl⟩) (pre_V hK hP hD 0 11 rfl rfl) rfl rfl hl.1 rfl (lv_room (Nat.le_of_ble_eq_true rfl)) dX11_tied_8 ⟨Nat.le_of_ble_eq_true rfl, Nat.le_of_ble_eq_true rfl⟩) hP hD hS hA [0, 1, 2, 3, 4, 5, 6, 7, 8, 9, 10, 11, 12, 13, 14, 15, 16, 17, 18, 19, 20, 21, 22, 23, 24, 25] [] (by with_unfolding_all rfl) rfl (by decide) (by decide) (fun u_2 H locs hw hP hD hS => ?_)
  obtain ⟨r_2, y15_2, y16_2, g12_2⟩ := u_2
  have hP : va_P D vwCl (mX mm q jn cI x0 x1 x2 x3 x4 x5 x6 x7 x8 x9 x10 x11 x12 x13 x14 y15_2 y16_2 x17 x18 x19 x20 f0 f1 f2 f3 f4 f5 f6 f7 f8 f9 f10 f11 g12_2 f13 f14 f15 f16 f17 f18 f19 f20 f21 f22 f23 f24) H := hP
  have hD : va_D A (mX mm q jn cI x0 x1 x2 x3 x4 x5 x6 x7 x8 x9 x10 x11 x12 x13 x14 y15_2 y16_2 x17 x18 x19 x20 f0 f1 f2 f3 f4 f5 f6 f7 f8 f9 f10 f11 g12_2 f13 f14 f15 f16 f17 f18 f19 f20 f21 f22 f23 f24) := hD
  obtain ⟨h_2, hg_2, hs_2, hG_2⟩ : (r_2.toInt = 0 ∨ r_2.toInt = 1) ∧ (r_2.toInt = 1 → 0 ≤ r_1.toInt) ∧ (r_2.toInt = 1 → y16_2.toInt = cy_S f0 r_1.toInt (6 * (f0 r_1.toInt.toNat).toInt).toNat) ∧ (r_2.toInt = 1 → cy_G f0 r_1.toInt (f0 r_1.toInt.toNat).toInt) := hw
  refine a_if_ne (u := r_2.toInt) (tgt := 16) hx hb dX11_tied_11 (by decide) (rfl) (fun c_3 => ?_) (fun c_3 => ?_)
  · refine lv_aload_n hx hb dX11_tied_16 rfl (lv_at hl 1 rfl) ?_
    refine lv_iload_n hx hb dX11_tied_17 rfl (lv_at hl 0 rfl) ?_
    refine call_g (wr := []) (va_runV (As := [.int r_1]) (rest := []) ⟨hx, hb, hml, hown, hts⟩ (k_tie l D cI cR cM _  (by first | assumption | omega) ((h_1.resolve_left (by omega)).1) ((h_1.resolve_left (by omega)).2) (hG_2 (by omega))) (cwV 1 hts gX11_tied_X11_tie rfl rfl rfl (by decide +kernel) ⟨Nat.le_of_ble_eq_true rfl, Nat.le_of_ble_eq_true rfl⟩) (pre_V hK hP hD 0 11 rfl rfl) rfl rfl hl.1 rfl (lv_room (Nat.le_of_ble_eq_true rfl)) dX11_tied_18 ⟨Nat.le_of_ble_eq_true rfl, Nat.le_of_ble_eq_true rfl⟩) hP hD hS hA [0, 1, 2, 3, 4, 5, 6, 7, 8, 9, 10, 11, 12, 13, 14, 15, 16, 17, 18, 19, 20, 21, 22, 23, 24, 25] [] (by with_unfolding_all rfl) rfl (by decide) (by decide) (fun u_4 H locs hw hP hD hS => ?_)
    obtain ⟨y17_4, g13_4, g14_4, g15_4, g16_4⟩ := u_4
    have hP : va_P D vwCl (mX mm q jn cI x0 x1 x2 x3 x4 x5 x6 x7 x8 x9 x10 x11 x12 x13 x14 y15_2 y16_2 y17_4 x18 x19 x20 f0 f1 f2 f3 f4 f5 f6 f7 f8 f9 f10 f11 g12_2 g13_4 g14_4 g15_4 g16_4 f17 f18 f19 f20 f21 f22 f23 f24) H := hP
    have hD : va_D A (mX mm q jn cI x0 x1 x2 x3 x4 x5 x6 x7 x8 x9 x10 x11 x12 x13 x14 y15_2 y16_2 y17_4 x18 x19 x20 f0 f1 f2 f3 f4 f5 f6 f7 f8 f9 f10 f11 g12_2 g13_4 g14_4 g15_4 g16_4 f17 f18 f19 f20 f21 f22 f23 f24) := hD
    obtain ⟨hC_4, hc_4⟩ : (cy_CO f0 r_1.toInt (f0 r_1.toInt.toNat).toInt g14_4 (3 * (f0 r_1.toInt.toNat).toInt)) ∧ (0 ≤ y17_4.toInt ∧ y17_4.toInt ≤ 144) := hw
    refine lv_iload_n hx hb dX11_tied_21 rfl (lv_at hl 0 rfl) ?_
    exact g_iret (r_1, y15_2, y16_2, y17_4, g12_2, g13_4, g14_4, g15_4, g16_4) hx hb hr hlocks hS rfl (⟨show r_1.toInt = -1 ∨ (IsRow jn f0 r_1.toInt ∧ ZX jn f0 (r_1.toInt + 1) (f0 r_1.toInt.toNat).toInt ∧ cy_CO f0 r_1.toInt (f0 r_1.toInt.toNat).toInt g14_4 (3 * (f0 r_1.toInt.toNat).toInt) ∧ 0 ≤ y17_4.toInt ∧ y17_4.toInt ≤ 144) from (Or.inr ⟨(h_1.resolve_left (by omega)).1, (h_1.resolve_left (by omega)).2, hC_4, hc_4⟩), show r_1.toInt ≤ 150 * (8 * x1.toInt + 7) from (by first | assumption | omega)⟩) hP hD hQ (Nat.le_of_ble_eq_true rfl) (Nat.le_of_ble_eq_true rfl) dX11_tied_22
  · refine lv_iconst (v := (-1)) hx hb dX11_tied_14 (by decide) ?_
    have hz_5 : (-1 : Int32).toInt = (-1) := by decide
    exact g_iret ((-1 : Int32), y15_2, y16_2, x17, g12_2, f13, f14, f15, f16) hx hb hr hlocks hS rfl (⟨show (-1 : Int32).toInt = -1 ∨ (IsRow jn f0 (-1 : Int32).toInt ∧ ZX jn f0 ((-1 : Int32).toInt + 1) (f0 (-1 : Int32).toInt.toNat).toInt ∧ cy_CO f0 (-1 : Int32).toInt (f0 (-1 : Int32).toInt.toNat).toInt f14 (3 * (f0 (-1 : Int32).toInt.toNat).toInt) ∧ 0 ≤ x17.toInt ∧ x17.toInt ≤ 144) from (Or.inl (by omega)), show (-1 : Int32).toInt ≤ 150 * (8 * x1.toInt + 7) from (by first | assumption | omega)⟩) hP hD hQ (Nat.le_of_ble_eq_true rfl) (Nat.le_of_ble_eq_true rfl) dX11_tied_15
set_option maxRecDepth 100000 in
set_option maxHeartbeats 4000000 in
theorem k_cycles (l : Launch) (D : va_G) (cI cR cM : ClassId) (sz : Nat) {jn mm : Nat} {q : Nat → Nat} {x0 x1 x2 x3 x4 x5 x6 x7 x8 x9 x10 x11 x12 x13 x14 x15 x16 x17 x18 x19 x20 : Int32} {f0 f1 f2 f3 f4 f5 f6 f7 f8 f9 f10 f11 f12 f13 f14 f15 f16 f17 f18 f19 f20 f21 f22 f23 f24 : Nat → Int32} {k : Int32}  (hj : 1 ≤ jn ∧ jn ≤ 3) (h0 : 0 ≤ x0.toInt ∧ x0.toInt ≤ 60) (h1 : 0 ≤ x1.toInt ∧ x1.toInt ≤ 60) (hR : RowsX jn f0) (hRZ : RowsZ jn f0) : Met l yX11_cycles wsX11_cycles ({ frames := 5, cells := 0, slots := 0, locals := 124 }) (P0 D cI cR cM [.ref mm, .int k] sz (mX mm q jn cI x0 x1 x2 x3 x4 x5 x6 x7 x8 x9 x10 x11 x12 x13 x14 x15 x16 x17 x18 x19 x20 f0 f1 f2 f3 f4 f5 f6 f7 f8 f9 f10 f11 f12 f13 f14 f15 f16 f17 f18 f19 f20 f21 f22 f23 f24)) (QG (S := Int32 × Int32 × Int32 × Int32 × (Nat → Int32) × (Nat → Int32) × (Nat → Int32) × (Nat → Int32) × (Nat → Int32)) (fun u => some (.int u.1)) (fun u => mX mm q jn cI x0 x1 x2 x3 x4 x5 x6 x7 x8 x9 x10 x11 x12 x13 x14 (u.2.1) (u.2.2.1) (u.2.2.2.1) x18 x19 x20 f0 f1 f2 f3 f4 f5 f6 f7 f8 f9 f10 f11 (u.2.2.2.2.1) (u.2.2.2.2.2.1) (u.2.2.2.2.2.2.1) (u.2.2.2.2.2.2.2.1) (u.2.2.2.2.2.2.2.2) f17 f18 f19 f20 f21 f22 f23 f24) (fun u => True) D (va_A (mX mm q jn cI x0 x1 x2 x3 x4 x5 x6 x7 x8 x9 x10 x11 x12 x13 x14 x15 x16 x17 x18 x19 x20 f0 f1 f2 f3 f4 f5 f6 f7 f8 f9 f10 f11 f12 f13 f14 f15 f16 f17 f18 f19 f20 f21 f22 f23 f24) sz)) 0 0 (va_A (mX mm q jn cI x0 x1 x2 x3 x4 x5 x6 x7 x8 x9 x10 x11 x12 x13 x14 x15 x16 x17 x18 x19 x20 f0 f1 f2 f3 f4 f5 f6 f7 f8 f9 f10 f11 f12 f13 f14 f15 f16 f17 f18 f19 f20 f21 f22 f23 f24) sz) := by
  refine go (cc := cX11_cycles) (maxL := 2) (ret := (some .int)) (by decide) rfl (Nat.le_of_ble_eq_true rfl) ?_
  intro p e s m below meth c ls args Q hQ hsz hx hb hr hml hts hown hlocks hnm hP hK hD hl
  subst hsz
  have hD := hD.self (sz := s.heap.size)
  generalize hAe : va_A (mX mm q jn cI x0 x1 x2 x3 x4 x5 x6 x7 x8 x9 x10 x11 x12 x13 x14 x15 x16 x17 x18 x19 x20 f0 f1 f2 f3 f4 f5 f6 f7 f8 f9 f10 f11 f12 f13 f14 f15 f16 f17 f18 f19 f20 f21 f22 f23 f24) s.heap.size = A at hD hQ
  have hA : ∀ q, s.heap.size ≤ q → A q := fun q h => by rw [← hAe]; exact Or.inr h
  have hS : va_S A s.heap s.heap [] := va_S.rf
  have hl : lv_has ls 2 [(0, .ref mm), (1, .int k)] := hl
  refine lv_aload_n hx hb dX11_cycles_0 rfl (lv_at hl 0 rfl) ?_
  refine lv_iload_n hx hb dX11_cycles_1 rfl (lv_at hl 1 rfl) ?_
  refine call_g (wr := []) (va_runV (As := [.int k]) (rest := []) ⟨hx, hb, hml, hown, hts⟩ (k_tied l D cI cR cM _  (by first | assumption | omega) (by first | assumption | omega) (by first | assumption | omega) (by first | assumption | omega) (by first | assumption | omega)) (cwV 1 hts gX11_cycles_X11_tied rfl rfl rfl (by decide +kernel) ⟨Nat.le_of_ble_eq_true rfl, Nat.le_of_ble_eq_true rfl⟩) (pre_V hK hP hD 0 11 rfl rfl) rfl rfl hl.1 rfl (lv_room (Nat.le_of_ble_eq_true rfl)) dX11_cycles_2 ⟨Nat.le_of_ble_eq_true rfl, Nat.le_of_ble_eq_true rfl⟩) hP hD hS hA [0, 1, 2, 3, 4, 5, 6, 7, 8, 9, 10, 11, 12, 13, 14, 15, 16, 17, 18, 19, 20, 21, 22, 23, 24, 25] [] (by with_unfolding_all rfl) rfl (by decide) (by decide) (fun u_1 H locs hw hP hD hS => ?_)
  obtain ⟨r_1, y15_1, y16_1, y17_1, g12_1, g13_1, g14_1, g15_1, g16_1⟩ := u_1
  have hP : va_P D vwCl (mX mm q jn cI x0 x1 x2 x3 x4 x5 x6 x7 x8 x9 x10 x11 x12 x13 x14 y15_1 y16_1 y17_1 x18 x19 x20 f0 f1 f2 f3 f4 f5 f6 f7 f8 f9 f10 f11 g12_1 g13_1 g14_1 g15_1 g16_1 f17 f18 f19 f20 f21 f22 f23 f24) H := hP
  have hD : va_D A (mX mm q jn cI x0 x1 x2 x3 x4 x5 x6 x7 x8 x9 x10 x11 x12 x13 x14 y15_1 y16_1 y17_1 x18 x19 x20 f0 f1 f2 f3 f4 f5 f6 f7 f8 f9 f10 f11 g12_1 g13_1 g14_1 g15_1 g16_1 f17 f18 f19 f20 f21 f22 f23 f24) := hD
  obtain ⟨h_1, hle_1⟩ : (r_1.toInt = -1 ∨ (IsRow jn f0 r_1.toInt ∧ ZX jn f0 (r_1.toInt + 1) (f0 r_1.toInt.toNat).toInt ∧ cy_CO f0 r_1.toInt (f0 r_1.toInt.toNat).toInt g14_1 (3 * (f0 r_1.toInt.toNat).toInt) ∧ 0 ≤ y17_1.toInt ∧ y17_1.toInt ≤ 144)) ∧ (r_1.toInt ≤ 150 * (8 * x1.toInt + 7)) := hw
  refine a_if_ge (u := r_1.toInt) (tgt := 12) hx hb dX11_cycles_5 (by decide) (rfl) (fun c_2 => ?_) (fun c_2 => ?_)
  · refine lv_aload_n hx hb dX11_cycles_12 rfl (lv_at hl 0 rfl) ?_
    refine va_get (D := D) (ci := 11) (v := .int y17_1) (C := RX11) (T := TX11) (N := 47) hx hb hts (by decide +kernel) hown hK.1 hP 0 rfl rfl 35 (by decide) (hts (.fieldLink RX11 268 "JugglingHallModel" "cycleCount" "I") (by decide +kernel)) (fun _ h9 => h9) rfl dX11_cycles_13 ?_
    exact g_iret (y17_1, y15_1, y16_1, y17_1, g12_1, g13_1, g14_1, g15_1, g16_1) hx hb hr hlocks hS rfl (trivial) hP hD hQ (Nat.le_of_ble_eq_true rfl) (Nat.le_of_ble_eq_true rfl) dX11_cycles_16
  · refine lv_iconst (v := (-1)) hx hb dX11_cycles_8 (by decide) ?_
    refine lv_goto (tgt := 16) hx hb dX11_cycles_9 (by decide) ?_
    have hz_3 : (-1 : Int32).toInt = (-1) := by decide
    exact g_iret ((-1 : Int32), y15_1, y16_1, y17_1, g12_1, g13_1, g14_1, g15_1, g16_1) hx hb hr hlocks hS rfl (trivial) hP hD hQ (Nat.le_of_ble_eq_true rfl) (Nat.le_of_ble_eq_true rfl) dX11_cycles_16
set_option maxRecDepth 100000 in
set_option maxHeartbeats 4000000 in
theorem k_cycle (l : Launch) (D : va_G) (cI cR cM : ClassId) (sz : Nat) {jn mm : Nat} {q : Nat → Nat} {x0 x1 x2 x3 x4 x5 x6 x7 x8 x9 x10 x11 x12 x13 x14 x15 x16 x17 x18 x19 x20 : Int32} {f0 f1 f2 f3 f4 f5 f6 f7 f8 f9 f10 f11 f12 f13 f14 f15 f16 f17 f18 f19 f20 f21 f22 f23 f24 : Nat → Int32} {k c9 d9 : Int32}  (hj : 1 ≤ jn ∧ jn ≤ 3) (h0 : 0 ≤ x0.toInt ∧ x0.toInt ≤ 60) (h1 : 0 ≤ x1.toInt ∧ x1.toInt ≤ 60) (hR : RowsX jn f0) (hRZ : RowsZ jn f0) : Met l yX11_cycle wsX11_cycle ({ frames := 5, cells := 0, slots := 0, locals := 124 }) (P0 D cI cR cM [.ref mm, .int k, .int c9, .int d9] sz (mX mm q jn cI x0 x1 x2 x3 x4 x5 x6 x7 x8 x9 x10 x11 x12 x13 x14 x15 x16 x17 x18 x19 x20 f0 f1 f2 f3 f4 f5 f6 f7 f8 f9 f10 f11 f12 f13 f14 f15 f16 f17 f18 f19 f20 f21 f22 f23 f24)) (QG (S := Int32 × Int32 × Int32 × Int32 × (Nat → Int32) × (Nat → Int32) × (Nat → Int32) × (Nat → Int32) × (Nat → Int32)) (fun u => some (.int u.1)) (fun u => mX mm q jn cI x0 x1 x2 x3 x4 x5 x6 x7 x8 x9 x10 x11 x12 x13 x14 (u.2.1) (u.2.2.1) (u.2.2.2.1) x18 x19 x20 f0 f1 f2 f3 f4 f5 f6 f7 f8 f9 f10 f11 (u.2.2.2.2.1) (u.2.2.2.2.2.1) (u.2.2.2.2.2.2.1) (u.2.2.2.2.2.2.2.1) (u.2.2.2.2.2.2.2.2) f17 f18 f19 f20 f21 f22 f23 f24) (fun u => True) D (va_A (mX mm q jn cI x0 x1 x2 x3 x4 x5 x6 x7 x8 x9 x10 x11 x12 x13 x14 x15 x16 x17 x18 x19 x20 f0 f1 f2 f3 f4 f5 f6 f7 f8 f9 f10 f11 f12 f13 f14 f15 f16 f17 f18 f19 f20 f21 f22 f23 f24) sz)) 0 0 (va_A (mX mm q jn cI x0 x1 x2 x3 x4 x5 x6 x7 x8 x9 x10 x11 x12 x13 x14 x15 x16 x17 x18 x19 x20 f0 f1 f2 f3 f4 f5 f6 f7 f8 f9 f10 f11 f12 f13 f14 f15 f16 f17 f18 f19 f20 f21 f22 f23 f24) sz) := by
  refine go (cc := cX11_cycle) (maxL := 9) (ret := (some .int)) (by decide) rfl (Nat.le_of_ble_eq_true rfl) ?_
  intro p e s m below meth c ls args Q hQ hsz hx hb hr hml hts hown hlocks hnm hP hK hD hl
  subst hsz
  have hD := hD.self (sz := s.heap.size)
  generalize hAe : va_A (mX mm q jn cI x0 x1 x2 x3 x4 x5 x6 x7 x8 x9 x10 x11 x12 x13 x14 x15 x16 x17 x18 x19 x20 f0 f1 f2 f3 f4 f5 f6 f7 f8 f9 f10 f11 f12 f13 f14 f15 f16 f17 f18 f19 f20 f21 f22 f23 f24) s.heap.size = A at hD hQ
  have hA : ∀ q, s.heap.size ≤ q → A q := fun q h => by rw [← hAe]; exact Or.inr h
  have hS : va_S A s.heap s.heap [] := va_S.rf
  have hl : lv_has ls 9 [(0, .ref mm), (1, .int k), (2, .int c9), (3, .int d9)] := hl
  refine lv_aload_n hx hb dX11_cycle_0 rfl (lv_at hl 0 rfl) ?_
  refine lv_iload_n hx hb dX11_cycle_1 rfl (lv_at hl 1 rfl) ?_
  refine call_g (wr := []) (va_runV (As := [.int k]) (rest := []) ⟨hx, hb, hml, hown, hts⟩ (k_tied l D cI cR cM _  (by first | assumption | omega) (by first | assumption | omega) (by first | assumption | omega) (by first | assumption | omega) (by first | assumption | omega)) (cwV 1 hts gX11_cycle_X11_tied rfl rfl rfl (by decide +kernel) ⟨Nat.le_of_ble_eq_true rfl, Nat.le_of_ble_eq_true rfl⟩) (pre_V hK hP hD 0 11 rfl rfl) rfl rfl hl.1 rfl (lv_room (Nat.le_of_ble_eq_true rfl)) dX11_cycle_2 ⟨Nat.le_of_ble_eq_true rfl, Nat.le_of_ble_eq_true rfl⟩) hP hD hS hA [0, 1, 2, 3, 4, 5, 6, 7, 8, 9, 10, 11, 12, 13, 14, 15, 16, 17, 18, 19, 20, 21, 22, 23, 24, 25] [] (by with_unfolding_all rfl) rfl (by decide) (by decide) (fun u_1 H locs hw hP hD hS => ?_)
  obtain ⟨r_1, y15_1, y16_1, y17_1, g12_1, g13_1, g14_1, g15_1, g16_1⟩ := u_1
  have hP : va_P D vwCl (mX mm q jn cI x0 x1 x2 x3 x4 x5 x6 x7 x8 x9 x10 x11 x12 x13 x14 y15_1 y16_1 y17_1 x18 x19 x20 f0 f1 f2 f3 f4 f5 f6 f7 f8 f9 f10 f11 g12_1 g13_1 g14_1 g15_1 g16_1 f17 f18 f19 f20 f21 f22 f23 f24) H := hP
  have hD : va_D A (mX mm q jn cI x0 x1 x2 x3 x4 x5 x6 x7 x8 x9 x10 x11 x12 x13 x14 y15_1 y16_1 y17_1 x18 x19 x20 f0 f1 f2 f3 f4 f5 f6 f7 f8 f9 f10 f11 g12_1 g13_1 g14_1 g15_1 g16_1 f17 f18 f19 f20 f21 f22 f23 f24) := hD
  obtain ⟨h_1, hle_1⟩ : (r_1.toInt = -1 ∨ (IsRow jn f0 r_1.toInt ∧ ZX jn f0 (r_1.toInt + 1) (f0 r_1.toInt.toNat).toInt ∧ cy_CO f0 r_1.toInt (f0 r_1.toInt.toNat).toInt g14_1 (3 * (f0 r_1.toInt.toNat).toInt) ∧ 0 ≤ y17_1.toInt ∧ y17_1.toInt ≤ 144)) ∧ (r_1.toInt ≤ 150 * (8 * x1.toInt + 7)) := hw
  refine lv_istore (lv' := [(4, .int r_1), (0, .ref mm), (1, .int k), (2, .int c9), (3, .int d9)]) hx hb dX11_cycle_5 hl (by decide) rfl (fun ls hl => ?_)
  refine lv_iload hx hb dX11_cycle_7 (lv_at hl 0 rfl) ?_
  refine a_if_lt (u := r_1.toInt) (tgt := 26) hx hb dX11_cycle_9 (by decide) (rfl) (fun c_2 => ?_) (fun c_2 => ?_)
  · refine lv_iconst (v := (-1)) hx hb dX11_cycle_26 (by decide) ?_
    have hz_3 : (-1 : Int32).toInt = (-1) := by decide
    exact g_iret ((-1 : Int32), y15_1, y16_1, y17_1, g12_1, g13_1, g14_1, g15_1, g16_1) hx hb hr hlocks hS rfl (trivial) hP hD hQ (Nat.le_of_ble_eq_true rfl) (Nat.le_of_ble_eq_true rfl) dX11_cycle_27
  · obtain ⟨hr0, hZ9, hC9, hcc⟩ := h_1.resolve_left (by omega)
    have hrow9 := hr0
    obtain ⟨hr1, hr2, hr3, hr4, hr5, hr6⟩ := hrow9
    refine lv_iload_n hx hb dX11_cycle_12 rfl (lv_at hl 3 rfl) ?_
    refine lv_iconst (v := 0) hx hb dX11_cycle_13 (by decide) ?_
    refine lv_aload_n hx hb dX11_cycle_14 rfl (lv_at hl 1 rfl) ?_
    refine va_get (D := D) (ci := 11) (v := .int y17_1) (C := RX11) (T := TX11) (N := 47) hx hb hts (by decide +kernel) hown hK.1 hP 0 rfl rfl 35 (by decide) (hts (.fieldLink RX11 268 "JugglingHallModel" "cycleCount" "I") (by decide +kernel)) (fun _ h9 => h9) rfl dX11_cycle_15 ?_
    refine lv_iconst (v := 1) hx hb dX11_cycle_18 (by decide) ?_
    refine a_isub (u := y17_1.toInt) (v := 1) hx hb dX11_cycle_19 (rfl) (by decide) (by omega) (fun z_4 e_4 => ?_)
    have hz_5 : (0 : Int32).toInt = 0 := by decide
    refine roP (va_runS (As := [.int c9, .int 0, .int z_4]) (rest := []) ⟨hx, hb, hml, hown, hts⟩ (k_isIn l D cI cR cM _  ) (va_cwS 3 hts gX11_cycle_X11_isIn rfl rfl rfl (by decide +kernel) ⟨Nat.le_of_ble_eq_true rfl, Nat.le_of_ble_eq_true rfl⟩) (pre_S hK va_P_nil (va_D_nil (A := fun _ => True))) rfl rfl hl.1 rfl (lv_room (Nat.le_of_ble_eq_true rfl)) dX11_cycle_20 ⟨Nat.le_of_ble_eq_true rfl, Nat.le_of_ble_eq_true rfl⟩) hS hA hP (fun r_6 H locs hw hP hS => ?_)
    have h_6 : ((r_6.toInt = 1 ∧ (0 : Int32).toInt ≤ c9.toInt ∧ c9.toInt ≤ z_4.toInt) ∨ (r_6.toInt = 0 ∧ (c9.toInt < (0 : Int32).toInt ∨ z_4.toInt < c9.toInt))) := hw
    refine a_if_ne (u := r_6.toInt) (tgt := 28) hx hb dX11_cycle_23 (by decide) (rfl) (fun c_7 => ?_) (fun c_7 => ?_)
    · refine lv_iconst (v := 0) hx hb dX11_cycle_28 (by decide) ?_
      refine lv_istore (lv' := [(5, .int 0), (4, .int r_1), (0, .ref mm), (1, .int k), (2, .int c9), (3, .int d9)]) hx hb dX11_cycle_29 hl (by decide) rfl (fun ls hl => ?_)
      refine lv_iconst (v := 0) hx hb dX11_cycle_31 (by decide) ?_
      refine lv_istore (lv' := [(6, .int 0), (5, .int 0), (4, .int r_1), (0, .ref mm), (1, .int k), (2, .int c9), (3, .int d9)]) hx hb dX11_cycle_32 hl (by decide) rfl (fun ls hl => ?_)
      refine lv_iconst (v := (-1)) hx hb dX11_cycle_34 (by decide) ?_
      refine lv_istore (lv' := [(7, .int (-1)), (6, .int 0), (5, .int 0), (4, .int r_1), (0, .ref mm), (1, .int k), (2, .int c9), (3, .int d9)]) hx hb dX11_cycle_35 hl (by decide) rfl (fun ls hl => ?_)
      refine lv_bipush (v := 6) hx hb dX11_cycle_37 (by decide) ?_
      refine lv_aload_n hx hb dX11_cycle_39 rfl (lv_at hl 4 rfl) ?_
      refine va_get (D := D) (ci := 11) (v := .ref (q 0)) (C := RX11) (T := TX11) (N := 47) hx hb hts (by decide +kernel) hown hK.1 hP 0 rfl rfl 1 (by decide) (hts (.fieldLink RX11 8 "JugglingHallModel" "rows" "[I") (by decide +kernel)) (fun _ h9 => h9) rfl dX11_cycle_40 ?_
      refine lv_iload hx hb dX11_cycle_43 (lv_at hl 3 rfl) ?_
      refine a_iald (f := f0) (u := r_1.toInt) hx hb hK.1 hP 1 0 rfl rfl dX11_cycle_45 (rfl) (by omega) (fun z_8 q_8 e_8 => ?_)
      refine a_imul (u := 6) (v := z_8.toInt) hx hb dX11_cycle_46 (by decide) (rfl) (by omega) (fun z_9 e_9 => ?_)
      refine lv_iconst (v := 1) hx hb dX11_cycle_47 (by decide) ?_
      refine a_isub (u := (6 * z_8.toInt)) (v := 1) hx hb dX11_cycle_48 (e_9) (by decide) (by omega) (fun z_10 e_10 => ?_)
      refine lv_istore (lv' := [(8, .int z_10), (7, .int (-1)), (6, .int 0), (5, .int 0), (4, .int r_1), (0, .ref mm), (1, .int k), (2, .int c9), (3, .int d9)]) hx hb dX11_cycle_49 hl (by decide) rfl (fun ls hl => ?_)
      have loop51 : ∀ (ddloop51 : Nat) (mn : Int32) (pr : Int32) (fi : Int32) (t : Int32) (H : Heap) (locs : List Loc) (ls : Array Slot), (t.toInt + 1).toNat < ddloop51 → (0 ≤ mn.toInt ∧ mn.toInt + t.toInt < 6 * (f0 r_1.toInt.toNat).toInt) → (0 ≤ pr.toInt ∧ pr.toInt ≤ 9 * mn.toInt) → (-1 ≤ t.toInt ∧ t.toInt < 6 * (f0 r_1.toInt.toNat).toInt) → va_P D vwCl (mX mm q jn cI x0 x1 x2 x3 x4 x5 x6 x7 x8 x9 x10 x11 x12 x13 x14 y15_1 y16_1 y17_1 x18 x19 x20 f0 f1 f2 f3 f4 f5 f6 f7 f8 f9 f10 f11 g12_1 g13_1 g14_1 g15_1 g16_1 f17 f18 f19 f20 f21 f22 f23 f24) H → va_D A (mX mm q jn cI x0 x1 x2 x3 x4 x5 x6 x7 x8 x9 x10 x11 x12 x13 x14 y15_1 y16_1 y17_1 x18 x19 x20 f0 f1 f2 f3 f4 f5 f6 f7 f8 f9 f10 f11 g12_1 g13_1 g14_1 g15_1 g16_1 f17 f18 f19 f20 f21 f22 f23 f24) → va_S A s.heap H locs → lv_has ls 9 [(0, .ref mm), (1, .int k), (2, .int c9), (3, .int d9), (4, .int r_1), (5, .int mn), (6, .int pr), (7, .int fi), (8, .int t)] → W p l e ({ frames := 5, cells := 0, slots := 0, locals := 124 }) s m args below meth c H locs 0 0 Q (F0 m 51 ls []) := by
        intro ddloop51
        induction ddloop51 with
        | zero =>
          intro mn pr fi t H locs ls hdd
          exact absurd hdd (Nat.not_lt_zero _)
        | succ ddloop51 ih51 =>
          intro mn pr fi t H locs ls hdd hmn hpr ht hP hD hS hl
          refine lv_iload hx hb dX11_cycle_51 (lv_at hl 8 rfl) ?_
          refine a_if_lt (u := t.toInt) (tgt := 96) hx hb dX11_cycle_53 (by decide) (rfl) (fun c_11 => ?_) (fun c_11 => ?_)
          · refine lv_iload_n hx hb dX11_cycle_96 rfl (lv_at hl 3 rfl) ?_
            have hu_12 : d9.toInt = d9.toInt := rfl
            rcases (show (d9.toInt < 0 ∨ 5 < d9.toInt) ∨ (d9.toInt = 0) ∨ (d9.toInt = 1) ∨ (d9.toInt = 2) ∨ (d9.toInt = 3) ∨ (d9.toInt = 4) ∨ (d9.toInt = 5) by omega) with c_12 | c_12 | c_12 | c_12 | c_12 | c_12 | c_12
            · refine lv_tableOut (tgt := 172) hx hb dX11_cycle_97 (by omega) (by decide) ?_
              refine lv_iconst (v := (-1)) hx hb dX11_cycle_172 (by decide) ?_
              have hz_13 : (-1 : Int32).toInt = (-1) := by decide
              exact g_iret ((-1 : Int32), y15_1, y16_1, y17_1, g12_1, g13_1, g14_1, g15_1, g16_1) hx hb hr hlocks hS rfl (trivial) hP hD hQ (Nat.le_of_ble_eq_true rfl) (Nat.le_of_ble_eq_true rfl) dX11_cycle_173
            · refine lv_tableIn (off := 39) (tgt := 136) hx hb dX11_cycle_97 (by omega) (by omega) (by rw [show (d9.toInt - 0).toNat = 0 by omega]; rfl) (by decide) ?_
              refine lv_iload hx hb dX11_cycle_136 (lv_at hl 5 rfl) ?_
              exact g_iret (mn, y15_1, y16_1, y17_1, g12_1, g13_1, g14_1, g15_1, g16_1) hx hb hr hlocks hS rfl (trivial) hP hD hQ (Nat.le_of_ble_eq_true rfl) (Nat.le_of_ble_eq_true rfl) dX11_cycle_138
            · refine lv_tableIn (off := 42) (tgt := 139) hx hb dX11_cycle_97 (by omega) (by omega) (by rw [show (d9.toInt - 0).toNat = 1 by omega]; rfl) (by decide) ?_
              refine lv_iload hx hb dX11_cycle_139 (lv_at hl 6 rfl) ?_
              exact g_iret (pr, y15_1, y16_1, y17_1, g12_1, g13_1, g14_1, g15_1, g16_1) hx hb hr hlocks hS rfl (trivial) hP hD hQ (Nat.le_of_ble_eq_true rfl) (Nat.le_of_ble_eq_true rfl) dX11_cycle_141
            · refine lv_tableIn (off := 45) (tgt := 142) hx hb dX11_cycle_97 (by omega) (by omega) (by rw [show (d9.toInt - 0).toNat = 2 by omega]; rfl) (by decide) ?_
              refine lv_iload hx hb dX11_cycle_142 (lv_at hl 6 rfl) ?_
              refine lv_aload_n hx hb dX11_cycle_144 rfl (lv_at hl 0 rfl) ?_
              refine va_get (D := D) (ci := 11) (v := .ref (q 0)) (C := RX11) (T := TX11) (N := 47) hx hb hts (by decide +kernel) hown hK.1 hP 0 rfl rfl 1 (by decide) (hts (.fieldLink RX11 8 "JugglingHallModel" "rows" "[I") (by decide +kernel)) (fun _ h9 => h9) rfl dX11_cycle_145 ?_
              refine lv_iload hx hb dX11_cycle_148 (lv_at hl 4 rfl) ?_
              refine a_iald (f := f0) (u := r_1.toInt) hx hb hK.1 hP 1 0 rfl rfl dX11_cycle_150 (rfl) (by omega) (fun z_14 q_14 e_14 => ?_)
              refine a_idiv (u := pr.toInt) (v := z_14.toInt) hx hb dX11_cycle_151 (rfl) (rfl) (by omega) (fun z_15 e_15 => ?_)
              exact g_iret (z_15, y15_1, y16_1, y17_1, g12_1, g13_1, g14_1, g15_1, g16_1) hx hb hr hlocks hS rfl (trivial) hP hD hQ (Nat.le_of_ble_eq_true rfl) (Nat.le_of_ble_eq_true rfl) dX11_cycle_152
            · refine lv_tableIn (off := 56) (tgt := 153) hx hb dX11_cycle_97 (by omega) (by omega) (by rw [show (d9.toInt - 0).toNat = 3 by omega]; rfl) (by decide) ?_
              refine lv_iload hx hb dX11_cycle_153 (lv_at hl 7 rfl) ?_
              refine lv_bipush (v := 6) hx hb dX11_cycle_155 (by decide) ?_
              refine lv_idiv hx hb dX11_cycle_157 (i_ne (b := 6) (by decide) (by omega)) ?_
              refine lv_topi (fun z_16 q_16 => ?_)
              exact g_iret (z_16, y15_1, y16_1, y17_1, g12_1, g13_1, g14_1, g15_1, g16_1) hx hb hr hlocks hS rfl (trivial) hP hD hQ (Nat.le_of_ble_eq_true rfl) (Nat.le_of_ble_eq_true rfl) dX11_cycle_158
            · refine lv_tableIn (off := 62) (tgt := 159) hx hb dX11_cycle_97 (by omega) (by omega) (by rw [show (d9.toInt - 0).toNat = 4 by omega]; rfl) (by decide) ?_
              refine lv_iload hx hb dX11_cycle_159 (lv_at hl 7 rfl) ?_
              refine lv_bipush (v := 6) hx hb dX11_cycle_161 (by decide) ?_
              refine lv_irem hx hb dX11_cycle_163 (i_ne (b := 6) (by decide) (by omega)) ?_
              refine lv_topi (fun z_17 q_17 => ?_)
              refine lv_iconst (v := 2) hx hb dX11_cycle_164 (by decide) ?_
              refine lv_idiv hx hb dX11_cycle_165 (i_ne (b := 2) (by decide) (by omega)) ?_
              refine lv_topi (fun z_18 q_18 => ?_)
              exact g_iret (z_18, y15_1, y16_1, y17_1, g12_1, g13_1, g14_1, g15_1, g16_1) hx hb hr hlocks hS rfl (trivial) hP hD hQ (Nat.le_of_ble_eq_true rfl) (Nat.le_of_ble_eq_true rfl) dX11_cycle_166
            · refine lv_tableIn (off := 70) (tgt := 167) hx hb dX11_cycle_97 (by omega) (by omega) (by rw [show (d9.toInt - 0).toNat = 5 by omega]; rfl) (by decide) ?_
              refine lv_iload hx hb dX11_cycle_167 (lv_at hl 7 rfl) ?_
              refine lv_iconst (v := 2) hx hb dX11_cycle_169 (by decide) ?_
              refine lv_irem hx hb dX11_cycle_170 (i_ne (b := 2) (by decide) (by omega)) ?_
              refine lv_topi (fun z_19 q_19 => ?_)
              exact g_iret (z_19, y15_1, y16_1, y17_1, g12_1, g13_1, g14_1, g15_1, g16_1) hx hb hr hlocks hS rfl (trivial) hP hD hQ (Nat.le_of_ble_eq_true rfl) (Nat.le_of_ble_eq_true rfl) dX11_cycle_171
          · refine lv_aload_n hx hb dX11_cycle_56 rfl (lv_at hl 0 rfl) ?_
            refine va_get (D := D) (ci := 11) (v := .ref (q 15)) (C := RX11) (T := TX11) (N := 47) hx hb hts (by decide +kernel) hown hK.1 hP 0 rfl rfl 33 (by decide) (hts (.fieldLink RX11 63 "JugglingHallModel" "cycleAt" "[I") (by decide +kernel)) (fun _ h9 => h9) rfl dX11_cycle_57 ?_
            refine lv_iload hx hb dX11_cycle_60 (lv_at hl 8 rfl) ?_
            refine a_iald (f := g15_1) (u := t.toInt) hx hb hK.1 hP 16 0 rfl rfl dX11_cycle_62 (rfl) (by omega) (fun z_20 q_20 e_20 => ?_)
            refine lv_iload_n hx hb dX11_cycle_63 rfl (lv_at hl 2 rfl) ?_
            refine a_icmp_eq (u := z_20.toInt) (v := c9.toInt) (tgt := 70) hx hb dX11_cycle_64 (by decide) (rfl) (rfl) (fun c_21 => ?_) (fun c_21 => ?_)
            · obtain ⟨z_22, q_22, e_22⟩ := i_inc (a := mn.toInt) (1) (rfl) (by decide) (by omega) (by omega)
              refine lv_iinc (v := z_22) (lv' := [(5, .int z_22), (0, .ref mm), (1, .int k), (2, .int c9), (3, .int d9), (4, .int r_1), (6, .int pr), (7, .int fi), (8, .int t)]) hx hb dX11_cycle_70 hl (k := 5) rfl q_22 (by decide) rfl (fun ls hl => ?_)
              refine lv_iload hx hb dX11_cycle_73 (lv_at hl 6 rfl) ?_
              refine lv_aload_n hx hb dX11_cycle_75 rfl (lv_at hl 1 rfl) ?_
              refine lv_iload hx hb dX11_cycle_76 (lv_at hl 5 rfl) ?_
              refine lv_iload hx hb dX11_cycle_78 (lv_at hl 8 rfl) ?_
              refine roP (va_runV (As := [.int r_1, .int t]) (rest := [.int pr]) ⟨hx, hb, hml, hown, hts⟩ (k_heightOf2 l D cI cR cM _  (by first | assumption | omega) (hr0) (by first | assumption | omega)) (cwV 2 hts gX11_cycle_X11_heightOf rfl rfl rfl (by decide +kernel) ⟨Nat.le_of_ble_eq_true rfl, Nat.le_of_ble_eq_true rfl⟩) (pre_V hK hP hD 0 11 rfl rfl) rfl rfl hl.1 rfl (lv_room (Nat.le_of_ble_eq_true rfl)) dX11_cycle_80 ⟨Nat.le_of_ble_eq_true rfl, Nat.le_of_ble_eq_true rfl⟩) hS hA hP (fun r_23 H locs hw hP hS => ?_)
              obtain ⟨h_23, hb_23⟩ : (r_23.toInt = cy_h f0 r_1.toInt t.toInt) ∧ (0 ≤ r_23.toInt ∧ r_23.toInt ≤ 9) := hw
              refine a_iadd (u := pr.toInt) (v := r_23.toInt) hx hb dX11_cycle_83 (rfl) (rfl) (by omega) (fun z_24 e_24 => ?_)
              refine lv_istore (lv' := [(6, .int z_24), (5, .int z_22), (0, .ref mm), (1, .int k), (2, .int c9), (3, .int d9), (4, .int r_1), (7, .int fi), (8, .int t)]) hx hb dX11_cycle_84 hl (by decide) rfl (fun ls hl => ?_)
              refine lv_iload hx hb dX11_cycle_86 (lv_at hl 8 rfl) ?_
              refine lv_istore (lv' := [(7, .int t), (6, .int z_24), (5, .int z_22), (0, .ref mm), (1, .int k), (2, .int c9), (3, .int d9), (4, .int r_1), (8, .int t)]) hx hb dX11_cycle_88 hl (by decide) rfl (fun ls hl => ?_)
              obtain ⟨z_25, q_25, e_25⟩ := i_inc (a := t.toInt) (-1) (rfl) (by decide) (by omega) (by omega)
              refine lv_iinc (v := z_25) (lv' := [(8, .int z_25), (7, .int t), (6, .int z_24), (5, .int z_22), (0, .ref mm), (1, .int k), (2, .int c9), (3, .int d9), (4, .int r_1)]) hx hb dX11_cycle_90 hl (k := 8) rfl q_25 (by decide) rfl (fun ls hl => ?_)
              refine lv_goto (tgt := 51) hx hb dX11_cycle_93 (by decide) ?_
              exact ih51 z_22 z_24 t z_25 _ _ _ (by omega) (by first | assumption | omega) (by first | assumption | omega) (by first | assumption | omega) hP hD hS (lv_sub hl [4, 5, 6, 7, 8, 3, 2, 1, 0] rfl)
            · refine lv_goto (tgt := 90) hx hb dX11_cycle_67 (by decide) ?_
              obtain ⟨z_26, q_26, e_26⟩ := i_inc (a := t.toInt) (-1) (rfl) (by decide) (by omega) (by omega)
              refine lv_iinc (v := z_26) (lv' := [(8, .int z_26), (0, .ref mm), (1, .int k), (2, .int c9), (3, .int d9), (4, .int r_1), (5, .int mn), (6, .int pr), (7, .int fi)]) hx hb dX11_cycle_90 hl (k := 8) rfl q_26 (by decide) rfl (fun ls hl => ?_)
              refine lv_goto (tgt := 51) hx hb dX11_cycle_93 (by decide) ?_
              exact ih51 mn pr fi z_26 _ _ _ (by omega) (by first | assumption | omega) (by first | assumption | omega) (by first | assumption | omega) hP hD hS (lv_sub hl [1, 2, 3, 4, 5, 6, 7, 8, 0] rfl)
      have hz_27 : (0 : Int32).toInt = 0 := by decide
      have hz_28 : (0 : Int32).toInt = 0 := by decide
      have hz_29 : (-1 : Int32).toInt = (-1) := by decide
      exact loop51 ((z_10.toInt + 1).toNat + 1) (0 : Int32) (0 : Int32) (-1 : Int32) z_10 _ _ _ (by omega) (by first | assumption | omega) (by first | assumption | omega) (by first | assumption | omega) hP hD hS (lv_sub hl [5, 6, 7, 8, 4, 3, 2, 1, 0] rfl)
    · refine lv_iconst (v := (-1)) hx hb dX11_cycle_26 (by decide) ?_
      have hz_30 : (-1 : Int32).toInt = (-1) := by decide
      exact g_iret ((-1 : Int32), y15_1, y16_1, y17_1, g12_1, g13_1, g14_1, g15_1, g16_1) hx hb hr hlocks hS rfl (trivial) hP hD hQ (Nat.le_of_ble_eq_true rfl) (Nat.le_of_ble_eq_true rfl) dX11_cycle_27
set_option maxRecDepth 100000 in
set_option maxHeartbeats 4000000 in
theorem k_cycleOf (l : Launch) (D : va_G) (cI cR cM : ClassId) (sz : Nat) {jn mm : Nat} {q : Nat → Nat} {x0 x1 x2 x3 x4 x5 x6 x7 x8 x9 x10 x11 x12 x13 x14 x15 x16 x17 x18 x19 x20 : Int32} {f0 f1 f2 f3 f4 f5 f6 f7 f8 f9 f10 f11 f12 f13 f14 f15 f16 f17 f18 f19 f20 f21 f22 f23 f24 : Nat → Int32} {k b d e9 : Int32}  (hj : 1 ≤ jn ∧ jn ≤ 3) (h0 : 0 ≤ x0.toInt ∧ x0.toInt ≤ 60) (h1 : 0 ≤ x1.toInt ∧ x1.toInt ≤ 60) (hR : RowsX jn f0) (hRZ : RowsZ jn f0) : Met l yX11_cycleOf wsX11_cycleOf ({ frames := 5, cells := 0, slots := 0, locals := 124 }) (P0 D cI cR cM [.ref mm, .int k, .int b, .int d, .int e9] sz (mX mm q jn cI x0 x1 x2 x3 x4 x5 x6 x7 x8 x9 x10 x11 x12 x13 x14 x15 x16 x17 x18 x19 x20 f0 f1 f2 f3 f4 f5 f6 f7 f8 f9 f10 f11 f12 f13 f14 f15 f16 f17 f18 f19 f20 f21 f22 f23 f24)) (QG (S := Int32 × Int32 × Int32 × Int32 × (Nat → Int32) × (Nat → Int32) × (Nat → Int32) × (Nat → Int32) × (Nat → Int32)) (fun u => some (.int u.1)) (fun u => mX mm q jn cI x0 x1 x2 x3 x4 x5 x6 x7 x8 x9 x10 x11 x12 x13 x14 (u.2.1) (u.2.2.1) (u.2.2.2.1) x18 x19 x20 f0 f1 f2 f3 f4 f5 f6 f7 f8 f9 f10 f11 (u.2.2.2.2.1) (u.2.2.2.2.2.1) (u.2.2.2.2.2.2.1) (u.2.2.2.2.2.2.2.1) (u.2.2.2.2.2.2.2.2) f17 f18 f19 f20 f21 f22 f23 f24) (fun u => True) D (va_A (mX mm q jn cI x0 x1 x2 x3 x4 x5 x6 x7 x8 x9 x10 x11 x12 x13 x14 x15 x16 x17 x18 x19 x20 f0 f1 f2 f3 f4 f5 f6 f7 f8 f9 f10 f11 f12 f13 f14 f15 f16 f17 f18 f19 f20 f21 f22 f23 f24) sz)) 0 0 (va_A (mX mm q jn cI x0 x1 x2 x3 x4 x5 x6 x7 x8 x9 x10 x11 x12 x13 x14 x15 x16 x17 x18 x19 x20 f0 f1 f2 f3 f4 f5 f6 f7 f8 f9 f10 f11 f12 f13 f14 f15 f16 f17 f18 f19 f20 f21 f22 f23 f24) sz) := by
  refine go (cc := cX11_cycleOf) (maxL := 6) (ret := (some .int)) (by decide) rfl (Nat.le_of_ble_eq_true rfl) ?_
  intro p e s m below meth c ls args Q hQ hsz hx hb hr hml hts hown hlocks hnm hP hK hD hl
  subst hsz
  have hD := hD.self (sz := s.heap.size)
  generalize hAe : va_A (mX mm q jn cI x0 x1 x2 x3 x4 x5 x6 x7 x8 x9 x10 x11 x12 x13 x14 x15 x16 x17 x18 x19 x20 f0 f1 f2 f3 f4 f5 f6 f7 f8 f9 f10 f11 f12 f13 f14 f15 f16 f17 f18 f19 f20 f21 f22 f23 f24) s.heap.size = A at hD hQ
  have hA : ∀ q, s.heap.size ≤ q → A q := fun q h => by rw [← hAe]; exact Or.inr h
  have hS : va_S A s.heap s.heap [] := va_S.rf
  have hl : lv_has ls 6 [(0, .ref mm), (1, .int k), (2, .int b), (3, .int d), (4, .int e9)] := hl
  refine lv_aload_n hx hb dX11_cycleOf_0 rfl (lv_at hl 0 rfl) ?_
  refine lv_iload_n hx hb dX11_cycleOf_1 rfl (lv_at hl 1 rfl) ?_
  refine call_g (wr := []) (va_runV (As := [.int k]) (rest := []) ⟨hx, hb, hml, hown, hts⟩ (k_tied l D cI cR cM _  (by first | assumption | omega) (by first | assumption | omega) (by first | assumption | omega) (by first | assumption | omega) (by first | assumption | omega)) (cwV 1 hts gX11_cycleOf_X11_tied rfl rfl rfl (by decide +kernel) ⟨Nat.le_of_ble_eq_true rfl, Nat.le_of_ble_eq_true rfl⟩) (pre_V hK hP hD 0 11 rfl rfl) rfl rfl hl.1 rfl (lv_room (Nat.le_of_ble_eq_true rfl)) dX11_cycleOf_2 ⟨Nat.le_of_ble_eq_true rfl, Nat.le_of_ble_eq_true rfl⟩) hP hD hS hA [0, 1, 2, 3, 4, 5, 6, 7, 8, 9, 10, 11, 12, 13, 14, 15, 16, 17, 18, 19, 20, 21, 22, 23, 24, 25] [] (by with_unfolding_all rfl) rfl (by decide) (by decide) (fun u_1 H locs hw hP hD hS => ?_)
  obtain ⟨r_1, y15_1, y16_1, y17_1, g12_1, g13_1, g14_1, g15_1, g16_1⟩ := u_1
  have hP : va_P D vwCl (mX mm q jn cI x0 x1 x2 x3 x4 x5 x6 x7 x8 x9 x10 x11 x12 x13 x14 y15_1 y16_1 y17_1 x18 x19 x20 f0 f1 f2 f3 f4 f5 f6 f7 f8 f9 f10 f11 g12_1 g13_1 g14_1 g15_1 g16_1 f17 f18 f19 f20 f21 f22 f23 f24) H := hP
  have hD : va_D A (mX mm q jn cI x0 x1 x2 x3 x4 x5 x6 x7 x8 x9 x10 x11 x12 x13 x14 y15_1 y16_1 y17_1 x18 x19 x20 f0 f1 f2 f3 f4 f5 f6 f7 f8 f9 f10 f11 g12_1 g13_1 g14_1 g15_1 g16_1 f17 f18 f19 f20 f21 f22 f23 f24) := hD
  obtain ⟨h_1, hle_1⟩ : (r_1.toInt = -1 ∨ (IsRow jn f0 r_1.toInt ∧ ZX jn f0 (r_1.toInt + 1) (f0 r_1.toInt.toNat).toInt ∧ cy_CO f0 r_1.toInt (f0 r_1.toInt.toNat).toInt g14_1 (3 * (f0 r_1.toInt.toNat).toInt) ∧ 0 ≤ y17_1.toInt ∧ y17_1.toInt ≤ 144)) ∧ (r_1.toInt ≤ 150 * (8 * x1.toInt + 7)) := hw
  refine lv_istore (lv' := [(5, .int r_1), (0, .ref mm), (1, .int k), (2, .int b), (3, .int d), (4, .int e9)]) hx hb dX11_cycleOf_5 hl (by decide) rfl (fun ls hl => ?_)
  refine lv_aload_n hx hb dX11_cycleOf_7 rfl (lv_at hl 1 rfl) ?_
  refine lv_iload hx hb dX11_cycleOf_8 (lv_at hl 0 rfl) ?_
  refine lv_iload_n hx hb dX11_cycleOf_10 rfl (lv_at hl 3 rfl) ?_
  refine lv_iload_n hx hb dX11_cycleOf_11 rfl (lv_at hl 4 rfl) ?_
  refine lv_iload hx hb dX11_cycleOf_12 (lv_at hl 5 rfl) ?_
  refine roP (va_runV (As := [.int r_1, .int b, .int d, .int e9]) (rest := []) ⟨hx, hb, hml, hown, hts⟩ (k_isThere l D cI cR cM _  (by first | assumption | omega) (h_1.imp id (fun q => q.1))) (cwV 4 hts gX11_cycleOf_X11_isThere rfl rfl rfl (by decide +kernel) ⟨Nat.le_of_ble_eq_true rfl, Nat.le_of_ble_eq_true rfl⟩) (pre_V hK hP hD 0 11 rfl rfl) rfl rfl hl.1 rfl (lv_room (Nat.le_of_ble_eq_true rfl)) dX11_cycleOf_14 ⟨Nat.le_of_ble_eq_true rfl, Nat.le_of_ble_eq_true rfl⟩) hS hA hP (fun r_2 H locs hw hP hS => ?_)
  obtain ⟨h01_2, h_2⟩ : (r_2.toInt = 0 ∨ r_2.toInt = 1) ∧ (r_2.toInt = 1 → 0 ≤ r_1.toInt ∧ 0 ≤ b.toInt ∧ b.toInt < (f0 r_1.toInt.toNat).toInt ∧ 0 ≤ d.toInt ∧ d.toInt < (jn : Int) ∧ 0 ≤ e9.toInt ∧ e9.toInt ≤ 1) := hw
  refine a_if_ne (u := r_2.toInt) (tgt := 22) hx hb dX11_cycleOf_17 (by decide) (rfl) (fun c_3 => ?_) (fun c_3 => ?_)
  · obtain ⟨hr0, hZ9, hC9, hcc⟩ := h_1.resolve_left (by omega)
    have hrow9 := hr0
    obtain ⟨hr1, hr2, hr3, hr4, hr5, hr6⟩ := hrow9
    refine lv_aload_n hx hb dX11_cycleOf_22 rfl (lv_at hl 1 rfl) ?_
    refine va_get (D := D) (ci := 11) (v := .ref (q 15)) (C := RX11) (T := TX11) (N := 47) hx hb hts (by decide +kernel) hown hK.1 hP 0 rfl rfl 33 (by decide) (hts (.fieldLink RX11 63 "JugglingHallModel" "cycleAt" "[I") (by decide +kernel)) (fun _ h9 => h9) rfl dX11_cycleOf_23 ?_
    refine lv_bipush (v := 6) hx hb dX11_cycleOf_26 (by decide) ?_
    refine lv_iload_n hx hb dX11_cycleOf_28 rfl (lv_at hl 3 rfl) ?_
    refine a_imul (u := 6) (v := b.toInt) hx hb dX11_cycleOf_29 (by decide) (rfl) (by omega) (fun z_4 e_4 => ?_)
    refine lv_iconst (v := 2) hx hb dX11_cycleOf_30 (by decide) ?_
    refine lv_iload_n hx hb dX11_cycleOf_31 rfl (lv_at hl 4 rfl) ?_
    refine a_imul (u := 2) (v := d.toInt) hx hb dX11_cycleOf_32 (by decide) (rfl) (by omega) (fun z_5 e_5 => ?_)
    refine a_iadd (u := (6 * b.toInt)) (v := (2 * d.toInt)) hx hb dX11_cycleOf_33 (e_4) (e_5) (by omega) (fun z_6 e_6 => ?_)
    refine lv_iload hx hb dX11_cycleOf_34 (lv_at hl 5 rfl) ?_
    refine a_iadd (u := ((6 * b.toInt) + (2 * d.toInt))) (v := e9.toInt) hx hb dX11_cycleOf_36 (e_6) (rfl) (by omega) (fun z_7 e_7 => ?_)
    refine a_iald (f := g15_1) (u := (((6 * b.toInt) + (2 * d.toInt)) + e9.toInt)) hx hb hK.1 hP 16 0 rfl rfl dX11_cycleOf_37 (e_7) (by omega) (fun z_8 q_8 e_8 => ?_)
    exact g_iret (z_8, y15_1, y16_1, y17_1, g12_1, g13_1, g14_1, g15_1, g16_1) hx hb hr hlocks hS rfl (trivial) hP hD hQ (Nat.le_of_ble_eq_true rfl) (Nat.le_of_ble_eq_true rfl) dX11_cycleOf_38
  · refine lv_iconst (v := (-1)) hx hb dX11_cycleOf_20 (by decide) ?_
    have hz_9 : (-1 : Int32).toInt = (-1) := by decide
    exact g_iret ((-1 : Int32), y15_1, y16_1, y17_1, g12_1, g13_1, g14_1, g15_1, g16_1) hx hb hr hlocks hS rfl (trivial) hP hD hQ (Nat.le_of_ble_eq_true rfl) (Nat.le_of_ble_eq_true rfl) dX11_cycleOf_21
set_option maxRecDepth 100000 in
set_option maxHeartbeats 4000000 in
theorem k_sourceTime (l : Launch) (D : va_G) (cI cR cM : ClassId) (sz : Nat) {jn mm : Nat} {q : Nat → Nat} {x0 x1 x2 x3 x4 x5 x6 x7 x8 x9 x10 x11 x12 x13 x14 x15 x16 x17 x18 x19 x20 : Int32} {f0 f1 f2 f3 f4 f5 f6 f7 f8 f9 f10 f11 f12 f13 f14 f15 f16 f17 f18 f19 f20 f21 f22 f23 f24 : Nat → Int32} {a w9 t : Int32}  (hj : 1 ≤ jn ∧ jn ≤ 3) (hrow9 : IsRow jn f0 a.toInt) (hCO :  cy_CO f0 a.toInt (f0 a.toInt.toNat).toInt f14 (3 * (f0 a.toInt.toNat).toInt)) (hu0 : 0 ≤ t.toInt ∧ t.toInt < 6 * (f0 a.toInt.toNat).toInt) (hun : cy_h f0 a.toInt t.toInt ≠ 0) (hw0 : 0 ≤ w9.toInt ∧ w9.toInt ≤ 999) : Met l yX11_sourceTime wsX11_sourceTime ({ frames := 1, cells := 0, slots := 0, locals := 22 }) (P0 D cI cR cM [.ref mm, .int a, .int w9, .int t] sz (mX mm q jn cI x0 x1 x2 x3 x4 x5 x6 x7 x8 x9 x10 x11 x12 x13 x14 x15 x16 x17 x18 x19 x20 f0 f1 f2 f3 f4 f5 f6 f7 f8 f9 f10 f11 f12 f13 f14 f15 f16 f17 f18 f19 f20 f21 f22 f23 f24)) (QP (fun r => (r.toInt < w9.toInt ∧ w9.toInt - 9 ≤ r.toInt) ∧ (r.toInt = w9.toInt - cy_h f0 a.toInt (f14 t.toInt.toNat).toInt) ∧ (cy_O f0 a.toInt (f0 a.toInt.toNat).toInt (f14 t.toInt.toNat))) sz) 0 0 (va_A [] sz) := by
  refine go (cc := cX11_sourceTime) (maxL := 4) (ret := (some .int)) (by decide) rfl (Nat.le_of_ble_eq_true rfl) ?_
  intro p e s m below meth c ls args Q hQ hsz hx hb hr hml hts hown hlocks hnm hP hK hD hl
  subst hsz
  have hS : va_S (va_A [] s.heap.size) s.heap s.heap [] := va_S.rf
  have hA : ∀ q, s.heap.size ≤ q → va_A [] s.heap.size q := fun q h => Or.inr h
  have hl : lv_has ls 4 [(0, .ref mm), (1, .int a), (2, .int w9), (3, .int t)] := hl
  have hr0 := hrow9
  obtain ⟨hr1, hr2, hr3, hr4, hr5, hr6⟩ := hrow9
  refine lv_iload_n hx hb dX11_sourceTime_0 rfl (lv_at hl 2 rfl) ?_
  refine lv_aload_n hx hb dX11_sourceTime_1 rfl (lv_at hl 0 rfl) ?_
  refine lv_iload_n hx hb dX11_sourceTime_2 rfl (lv_at hl 1 rfl) ?_
  refine lv_aload_n hx hb dX11_sourceTime_3 rfl (lv_at hl 0 rfl) ?_
  refine va_get (D := D) (ci := 11) (v := .ref (q 14)) (C := RX11) (T := TX11) (N := 47) hx hb hts (by decide +kernel) hown hK.1 hP 0 rfl rfl 32 (by decide) (hts (.fieldLink RX11 60 "JugglingHallModel" "comesFrom" "[I") (by decide +kernel)) (fun _ h9 => h9) rfl dX11_sourceTime_4 ?_
  refine lv_iload_n hx hb dX11_sourceTime_7 rfl (lv_at hl 3 rfl) ?_
  refine a_iald (f := f14) (u := t.toInt) hx hb hK.1 hP 15 0 rfl rfl dX11_sourceTime_8 (rfl) (by omega) (fun z_1 q_1 e_1 => ?_)
  have hok : cy_O f0 a.toInt (f0 a.toInt.toNat).toInt z_1 := by rw [q_1]; exact hCO t.toInt hu0.1 hu0.2 hun (by omega)
  have hok9 := hok
  obtain ⟨ho1, ho2, ho3⟩ := hok9
  refine roP (va_runV (As := [.int a, .int z_1]) (rest := [.int w9]) ⟨hx, hb, hml, hown, hts⟩ (k_heightOf2 l D cI cR cM _  (by first | assumption | omega) (hr0) (by first | assumption | omega)) (cwV 2 hts gX11_sourceTime_X11_heightOf rfl rfl rfl (by decide +kernel) ⟨Nat.le_of_ble_eq_true rfl, Nat.le_of_ble_eq_true rfl⟩) (pre_V hK hP hD 0 11 rfl rfl) rfl rfl hl.1 rfl (lv_room (Nat.le_of_ble_eq_true rfl)) dX11_sourceTime_9 ⟨Nat.le_of_ble_eq_true rfl, Nat.le_of_ble_eq_true rfl⟩) hS hA hP (fun r_2 H locs hw hP hS => ?_)
  obtain ⟨h_2, hb_2⟩ : (r_2.toInt = cy_h f0 a.toInt z_1.toInt) ∧ (0 ≤ r_2.toInt ∧ r_2.toInt ≤ 9) := hw
  refine a_isub (u := w9.toInt) (v := r_2.toInt) hx hb dX11_sourceTime_12 (rfl) (rfl) (by omega) (fun z_3 e_3 => ?_)
  exact rp_iret hx hb hr hlocks hS (⟨show z_3.toInt < w9.toInt ∧ w9.toInt - 9 ≤ z_3.toInt from (by first | assumption | omega), show z_3.toInt = w9.toInt - cy_h f0 a.toInt (f14 t.toInt.toNat).toInt from (by rw [← q_1]; omega), show cy_O f0 a.toInt (f0 a.toInt.toNat).toInt (f14 t.toInt.toNat) from (hCO t.toInt hu0.1 hu0.2 hun (by omega))⟩) hQ dX11_sourceTime_13
set_option maxRecDepth 100000 in
set_option maxHeartbeats 4000000 in
theorem k_ballOf (l : Launch) (D : va_G) (cI cR cM : ClassId) (sz : Nat) {jn mm : Nat} {q : Nat → Nat} {x0 x1 x2 x3 x4 x5 x6 x7 x8 x9 x10 x11 x12 x13 x14 x15 x16 x17 x18 x19 x20 : Int32} {f0 f1 f2 f3 f4 f5 f6 f7 f8 f9 f10 f11 f12 f13 f14 f15 f16 f17 f18 f19 f20 f21 f22 f23 f24 : Nat → Int32} {a w9 t : Int32}  (hj : 1 ≤ jn ∧ jn ≤ 3) (hrow9 : IsRow jn f0 a.toInt) (hCO :  cy_CO f0 a.toInt (f0 a.toInt.toNat).toInt f14 (3 * (f0 a.toInt.toNat).toInt)) (hu0 : 0 ≤ t.toInt ∧ t.toInt < 6 * (f0 a.toInt.toNat).toInt) (hun : cy_h f0 a.toInt t.toInt ≠ 0) (hw0 : 0 ≤ w9.toInt ∧ w9.toInt ≤ 999) : Met l yX11_ballOf wsX11_ballOf ({ frames := 2, cells := 0, slots := 0, locals := 45 }) (P0 D cI cR cM [.ref mm, .int a, .int w9, .int t] sz (mX mm q jn cI x0 x1 x2 x3 x4 x5 x6 x7 x8 x9 x10 x11 x12 x13 x14 x15 x16 x17 x18 x19 x20 f0 f1 f2 f3 f4 f5 f6 f7 f8 f9 f10 f11 f12 f13 f14 f15 f16 f17 f18 f19 f20 f21 f22 f23 f24)) (QP (fun r => True) sz) 0 0 (va_A [] sz) := by
  refine go (cc := cX11_ballOf) (maxL := 10) (ret := (some .int)) (by decide) rfl (Nat.le_of_ble_eq_true rfl) ?_
  intro p e s m below meth c ls args Q hQ hsz hx hb hr hml hts hown hlocks hnm hP hK hD hl
  subst hsz
  have hS : va_S (va_A [] s.heap.size) s.heap s.heap [] := va_S.rf
  have hA : ∀ q, s.heap.size ≤ q → va_A [] s.heap.size q := fun q h => Or.inr h
  have hl : lv_has ls 10 [(0, .ref mm), (1, .int a), (2, .int w9), (3, .int t)] := hl
  have hr0 := hrow9
  obtain ⟨hr1, hr2, hr3, hr4, hr5, hr6⟩ := hrow9
  refine lv_iload_n hx hb dX11_ballOf_0 rfl (lv_at hl 2 rfl) ?_
  refine lv_istore (lv' := [(4, .int w9), (0, .ref mm), (1, .int a), (2, .int w9), (3, .int t)]) hx hb dX11_ballOf_1 hl (by decide) rfl (fun ls hl => ?_)
  refine lv_iload_n hx hb dX11_ballOf_3 rfl (lv_at hl 4 rfl) ?_
  refine lv_istore (lv' := [(5, .int t), (4, .int w9), (0, .ref mm), (1, .int a), (2, .int w9), (3, .int t)]) hx hb dX11_ballOf_4 hl (by decide) rfl (fun ls hl => ?_)
  have loop6 : ∀ (ddloop6 : Nat) (wn : Int32) (u : Int32) (H : Heap) (locs : List Loc) (ls : Array Slot), (wn.toInt).toNat < ddloop6 → (0 ≤ wn.toInt ∧ wn.toInt ≤ 999) → (cy_O f0 a.toInt (f0 a.toInt.toNat).toInt u) → va_P D vwCl (mX mm q jn cI x0 x1 x2 x3 x4 x5 x6 x7 x8 x9 x10 x11 x12 x13 x14 x15 x16 x17 x18 x19 x20 f0 f1 f2 f3 f4 f5 f6 f7 f8 f9 f10 f11 f12 f13 f14 f15 f16 f17 f18 f19 f20 f21 f22 f23 f24) H → va_S (va_A [] s.heap.size) s.heap H locs → lv_has ls 10 [(0, .ref mm), (1, .int a), (2, .int w9), (3, .int t), (4, .int wn), (5, .int u)] → W p l e ({ frames := 2, cells := 0, slots := 0, locals := 45 }) s m args below meth c H locs 0 0 Q (F0 m 6 ls []) := by
    intro ddloop6
    induction ddloop6 with
    | zero =>
      intro wn u H locs ls hdd
      exact absurd hdd (Nat.not_lt_zero _)
    | succ ddloop6 ih6 =>
      intro wn u H locs ls hdd hwn huo hP hS hl
      obtain ⟨hu1, hu2, hu3⟩ := huo
      refine lv_aload_n hx hb dX11_ballOf_6 rfl (lv_at hl 0 rfl) ?_
      refine lv_iload_n hx hb dX11_ballOf_7 rfl (lv_at hl 1 rfl) ?_
      refine lv_iload hx hb dX11_ballOf_8 (lv_at hl 4 rfl) ?_
      refine lv_iload hx hb dX11_ballOf_10 (lv_at hl 5 rfl) ?_
      refine roP (va_runV (As := [.int a, .int wn, .int u]) (rest := []) ⟨hx, hb, hml, hown, hts⟩ (k_sourceTime l D cI cR cM _  (by first | assumption | omega) (hr0) (by first | assumption | omega) (by first | assumption | omega) (by first | assumption | omega) (by first | assumption | omega)) (cwV 3 hts gX11_ballOf_X11_sourceTime rfl rfl rfl (by decide +kernel) ⟨Nat.le_of_ble_eq_true rfl, Nat.le_of_ble_eq_true rfl⟩) (pre_V hK hP hD 0 11 rfl rfl) rfl rfl hl.1 rfl (lv_room (Nat.le_of_ble_eq_true rfl)) dX11_ballOf_12 ⟨Nat.le_of_ble_eq_true rfl, Nat.le_of_ble_eq_true rfl⟩) hS hA hP (fun r_1 H locs hw hP hS => ?_)
      obtain ⟨h_1, hq_1, hO_1⟩ : (r_1.toInt < wn.toInt ∧ wn.toInt - 9 ≤ r_1.toInt) ∧ (r_1.toInt = wn.toInt - cy_h f0 a.toInt (f14 u.toInt.toNat).toInt) ∧ (cy_O f0 a.toInt (f0 a.toInt.toNat).toInt (f14 u.toInt.toNat)) := hw
      refine a_if_lt (u := r_1.toInt) (tgt := 45) hx hb dX11_ballOf_15 (by decide) (rfl) (fun c_2 => ?_) (fun c_2 => ?_)
      · refine lv_iconst (v := 0) hx hb dX11_ballOf_45 (by decide) ?_
        refine lv_istore (lv' := [(6, .int 0), (0, .ref mm), (1, .int a), (2, .int w9), (3, .int t), (4, .int wn), (5, .int u)]) hx hb dX11_ballOf_46 hl (by decide) rfl (fun ls hl => ?_)
        refine lv_iconst (v := 0) hx hb dX11_ballOf_48 (by decide) ?_
        refine lv_istore (lv' := [(7, .int 0), (6, .int 0), (0, .ref mm), (1, .int a), (2, .int w9), (3, .int t), (4, .int wn), (5, .int u)]) hx hb dX11_ballOf_49 hl (by decide) rfl (fun ls hl => ?_)
        have loop51 : ∀ (ddloop51 : Nat) (n6 : Int32) (w7 : Int32) (H : Heap) (locs : List Loc) (ls : Array Slot), (2000 - w7.toInt).toNat < ddloop51 → (0 ≤ w7.toInt ∧ w7.toInt ≤ wn.toInt + 1) → (0 ≤ n6.toInt ∧ n6.toInt ≤ 6 * w7.toInt) → va_P D vwCl (mX mm q jn cI x0 x1 x2 x3 x4 x5 x6 x7 x8 x9 x10 x11 x12 x13 x14 x15 x16 x17 x18 x19 x20 f0 f1 f2 f3 f4 f5 f6 f7 f8 f9 f10 f11 f12 f13 f14 f15 f16 f17 f18 f19 f20 f21 f22 f23 f24) H → va_S (va_A [] s.heap.size) s.heap H locs → lv_has ls 10 [(0, .ref mm), (1, .int a), (2, .int w9), (3, .int t), (4, .int wn), (5, .int u), (6, .int n6), (7, .int w7)] → W p l e ({ frames := 2, cells := 0, slots := 0, locals := 45 }) s m args below meth c H locs 0 0 Q (F0 m 51 ls []) := by
          intro ddloop51
          induction ddloop51 with
          | zero =>
            intro n6 w7 H locs ls hdd
            exact absurd hdd (Nat.not_lt_zero _)
          | succ ddloop51 ih51 =>
            intro n6 w7 H locs ls hdd hw7 hn6 hP hS hl
            refine lv_iload hx hb dX11_ballOf_51 (lv_at hl 7 rfl) ?_
            refine lv_iload hx hb dX11_ballOf_53 (lv_at hl 4 rfl) ?_
            refine a_icmp_gt (u := w7.toInt) (v := wn.toInt) (tgt := 139) hx hb dX11_ballOf_55 (by decide) (rfl) (rfl) (fun c_3 => ?_) (fun c_3 => ?_)
            · refine lv_iload hx hb dX11_ballOf_139 (lv_at hl 6 rfl) ?_
              exact rp_iret hx hb hr hlocks hS (trivial) hQ dX11_ballOf_141
            · refine lv_iconst (v := 0) hx hb dX11_ballOf_58 (by decide) ?_
              refine lv_istore (lv' := [(8, .int 0), (0, .ref mm), (1, .int a), (2, .int w9), (3, .int t), (4, .int wn), (5, .int u), (6, .int n6), (7, .int w7)]) hx hb dX11_ballOf_59 hl (by decide) rfl (fun ls hl => ?_)
              have loop61 : ∀ (ddloop61 : Nat) (n7 : Int32) (xq : Int32) (H : Heap) (locs : List Loc) (ls : Array Slot), (10 - xq.toInt).toNat < ddloop61 → (0 ≤ xq.toInt ∧ xq.toInt ≤ 6) → (0 ≤ n7.toInt ∧ n7.toInt ≤ 6 * w7.toInt + xq.toInt) → va_P D vwCl (mX mm q jn cI x0 x1 x2 x3 x4 x5 x6 x7 x8 x9 x10 x11 x12 x13 x14 x15 x16 x17 x18 x19 x20 f0 f1 f2 f3 f4 f5 f6 f7 f8 f9 f10 f11 f12 f13 f14 f15 f16 f17 f18 f19 f20 f21 f22 f23 f24) H → va_S (va_A [] s.heap.size) s.heap H locs → lv_has ls 10 [(0, .ref mm), (1, .int a), (2, .int w9), (3, .int t), (4, .int wn), (5, .int u), (6, .int n7), (7, .int w7), (8, .int xq)] → W p l e ({ frames := 2, cells := 0, slots := 0, locals := 45 }) s m args below meth c H locs 0 0 Q (F0 m 61 ls []) := by
                intro ddloop61
                induction ddloop61 with
                | zero =>
                  intro n7 xq H locs ls hdd
                  exact absurd hdd (Nat.not_lt_zero _)
                | succ ddloop61 ih61 =>
                  intro n7 xq H locs ls hdd hxq hn7 hP hS hl
                  refine lv_iload hx hb dX11_ballOf_61 (lv_at hl 8 rfl) ?_
                  refine lv_bipush (v := 6) hx hb dX11_ballOf_63 (by decide) ?_
                  refine a_icmp_ge (u := xq.toInt) (v := 6) (tgt := 133) hx hb dX11_ballOf_65 (by decide) (rfl) (by decide) (fun c_4 => ?_) (fun c_4 => ?_)
                  · obtain ⟨z_5, q_5, e_5⟩ := i_inc (a := w7.toInt) (1) (rfl) (by decide) (by omega) (by omega)
                    refine lv_iinc (v := z_5) (lv' := [(7, .int z_5), (0, .ref mm), (1, .int a), (2, .int w9), (3, .int t), (4, .int wn), (5, .int u), (6, .int n7), (8, .int xq)]) hx hb dX11_ballOf_133 hl (k := 7) rfl q_5 (by decide) rfl (fun ls hl => ?_)
                    refine lv_goto (tgt := 51) hx hb dX11_ballOf_136 (by decide) ?_
                    exact ih51 n7 z_5 _ _ _ (by omega) (by first | assumption | omega) (by first | assumption | omega) hP hS (lv_sub hl [1, 2, 3, 4, 5, 6, 7, 0] rfl)
                  · refine lv_bipush (v := 6) hx hb dX11_ballOf_68 (by decide) ?_
                    refine lv_iload hx hb dX11_ballOf_70 (lv_at hl 7 rfl) ?_
                    refine lv_aload_n hx hb dX11_ballOf_72 rfl (lv_at hl 0 rfl) ?_
                    refine va_get (D := D) (ci := 11) (v := .ref (q 0)) (C := RX11) (T := TX11) (N := 47) hx hb hts (by decide +kernel) hown hK.1 hP 0 rfl rfl 1 (by decide) (hts (.fieldLink RX11 8 "JugglingHallModel" "rows" "[I") (by decide +kernel)) (fun _ h9 => h9) rfl dX11_ballOf_73 ?_
                    refine lv_iload_n hx hb dX11_ballOf_76 rfl (lv_at hl 1 rfl) ?_
                    refine a_iald (f := f0) (u := a.toInt) hx hb hK.1 hP 1 0 rfl rfl dX11_ballOf_77 (rfl) (by omega) (fun z_6 q_6 e_6 => ?_)
                    have hn9 : z_6.toInt = (f0 a.toInt.toNat).toInt := e_6
                    refine a_irem (u := w7.toInt) (v := z_6.toInt) hx hb dX11_ballOf_78 (rfl) (rfl) (by omega) (fun z_7 e_7 h_7 k_7 => ?_)
                    refine a_imul (u := 6) (v := z_7.toInt) hx hb dX11_ballOf_79 (by decide) (rfl) (by omega) (fun z_8 e_8 => ?_)
                    refine lv_iload hx hb dX11_ballOf_80 (lv_at hl 8 rfl) ?_
                    refine a_iadd (u := (6 * z_7.toInt)) (v := xq.toInt) hx hb dX11_ballOf_82 (e_8) (rfl) (by omega) (fun z_9 e_9 => ?_)
                    refine lv_istore (lv' := [(9, .int z_9), (0, .ref mm), (1, .int a), (2, .int w9), (3, .int t), (4, .int wn), (5, .int u), (6, .int n7), (7, .int w7), (8, .int xq)]) hx hb dX11_ballOf_83 hl (by decide) rfl (fun ls hl => ?_)
                    refine lv_aload_n hx hb dX11_ballOf_85 rfl (lv_at hl 1 rfl) ?_
                    refine lv_iload_n hx hb dX11_ballOf_86 rfl (lv_at hl 2 rfl) ?_
                    refine lv_iload hx hb dX11_ballOf_87 (lv_at hl 0 rfl) ?_
                    refine roP (va_runV (As := [.int a, .int z_9]) (rest := []) ⟨hx, hb, hml, hown, hts⟩ (k_heightOf2 l D cI cR cM _  (by first | assumption | omega) (hr0) (by first | assumption | omega)) (cwV 2 hts gX11_ballOf_X11_heightOf rfl rfl rfl (by decide +kernel) ⟨Nat.le_of_ble_eq_true rfl, Nat.le_of_ble_eq_true rfl⟩) (pre_V hK hP hD 0 11 rfl rfl) rfl rfl hl.1 rfl (lv_room (Nat.le_of_ble_eq_true rfl)) dX11_ballOf_89 ⟨Nat.le_of_ble_eq_true rfl, Nat.le_of_ble_eq_true rfl⟩) hS hA hP (fun r_10 H locs hw hP hS => ?_)
                    obtain ⟨h_10, hb_10⟩ : (r_10.toInt = cy_h f0 a.toInt z_9.toInt) ∧ (0 ≤ r_10.toInt ∧ r_10.toInt ≤ 9) := hw
                    refine a_if_le (u := r_10.toInt) (tgt := 127) hx hb dX11_ballOf_92 (by decide) (rfl) (fun c_11 => ?_) (fun c_11 => ?_)
                    · obtain ⟨z_12, q_12, e_12⟩ := i_inc (a := xq.toInt) (1) (rfl) (by decide) (by omega) (by omega)
                      refine lv_iinc (v := z_12) (lv' := [(8, .int z_12), (9, .int z_9), (0, .ref mm), (1, .int a), (2, .int w9), (3, .int t), (4, .int wn), (5, .int u), (6, .int n7), (7, .int w7)]) hx hb dX11_ballOf_127 hl (k := 9) rfl q_12 (by decide) rfl (fun ls hl => ?_)
                      refine lv_goto (tgt := 61) hx hb dX11_ballOf_130 (by decide) ?_
                      exact ih61 n7 z_12 _ _ _ (by omega) (by first | assumption | omega) (by first | assumption | omega) hP hS (lv_sub hl [2, 3, 4, 5, 6, 7, 8, 9, 0] rfl)
                    · refine lv_aload_n hx hb dX11_ballOf_95 rfl (lv_at hl 1 rfl) ?_
                      refine lv_iload_n hx hb dX11_ballOf_96 rfl (lv_at hl 2 rfl) ?_
                      refine lv_iload hx hb dX11_ballOf_97 (lv_at hl 8 rfl) ?_
                      refine lv_iload hx hb dX11_ballOf_99 (lv_at hl 0 rfl) ?_
                      refine roP (va_runV (As := [.int a, .int w7, .int z_9]) (rest := []) ⟨hx, hb, hml, hown, hts⟩ (k_sourceTime l D cI cR cM _  (by first | assumption | omega) (hr0) (by first | assumption | omega) (by first | assumption | omega) (by omega) (by first | assumption | omega)) (cwV 3 hts gX11_ballOf_X11_sourceTime rfl rfl rfl (by decide +kernel) ⟨Nat.le_of_ble_eq_true rfl, Nat.le_of_ble_eq_true rfl⟩) (pre_V hK hP hD 0 11 rfl rfl) rfl rfl hl.1 rfl (lv_room (Nat.le_of_ble_eq_true rfl)) dX11_ballOf_101 ⟨Nat.le_of_ble_eq_true rfl, Nat.le_of_ble_eq_true rfl⟩) hS hA hP (fun r_13 H locs hw hP hS => ?_)
                      obtain ⟨h_13, hq_13, hO_13⟩ : (r_13.toInt < w7.toInt ∧ w7.toInt - 9 ≤ r_13.toInt) ∧ (r_13.toInt = w7.toInt - cy_h f0 a.toInt (f14 z_9.toInt.toNat).toInt) ∧ (cy_O f0 a.toInt (f0 a.toInt.toNat).toInt (f14 z_9.toInt.toNat)) := hw
                      refine a_if_ge (u := r_13.toInt) (tgt := 127) hx hb dX11_ballOf_104 (by decide) (rfl) (fun c_14 => ?_) (fun c_14 => ?_)
                      · obtain ⟨z_15, q_15, e_15⟩ := i_inc (a := xq.toInt) (1) (rfl) (by decide) (by omega) (by omega)
                        refine lv_iinc (v := z_15) (lv' := [(8, .int z_15), (9, .int z_9), (0, .ref mm), (1, .int a), (2, .int w9), (3, .int t), (4, .int wn), (5, .int u), (6, .int n7), (7, .int w7)]) hx hb dX11_ballOf_127 hl (k := 9) rfl q_15 (by decide) rfl (fun ls hl => ?_)
                        refine lv_goto (tgt := 61) hx hb dX11_ballOf_130 (by decide) ?_
                        exact ih61 n7 z_15 _ _ _ (by omega) (by first | assumption | omega) (by first | assumption | omega) hP hS (lv_sub hl [2, 3, 4, 5, 6, 7, 8, 9, 0] rfl)
                      · refine lv_iload hx hb dX11_ballOf_107 (lv_at hl 8 rfl) ?_
                        refine lv_iload hx hb dX11_ballOf_109 (lv_at hl 5 rfl) ?_
                        refine a_icmp_lt (u := w7.toInt) (v := wn.toInt) (tgt := 124) hx hb dX11_ballOf_111 (by decide) (rfl) (rfl) (fun c_16 => ?_) (fun c_16 => ?_)
                        · obtain ⟨z_17, q_17, e_17⟩ := i_inc (a := n7.toInt) (1) (rfl) (by decide) (by omega) (by omega)
                          refine lv_iinc (v := z_17) (lv' := [(6, .int z_17), (9, .int z_9), (0, .ref mm), (1, .int a), (2, .int w9), (3, .int t), (4, .int wn), (5, .int u), (7, .int w7), (8, .int xq)]) hx hb dX11_ballOf_124 hl (k := 7) rfl q_17 (by decide) rfl (fun ls hl => ?_)
                          obtain ⟨z_18, q_18, e_18⟩ := i_inc (a := xq.toInt) (1) (rfl) (by decide) (by omega) (by omega)
                          refine lv_iinc (v := z_18) (lv' := [(8, .int z_18), (6, .int z_17), (9, .int z_9), (0, .ref mm), (1, .int a), (2, .int w9), (3, .int t), (4, .int wn), (5, .int u), (7, .int w7)]) hx hb dX11_ballOf_127 hl (k := 9) rfl q_18 (by decide) rfl (fun ls hl => ?_)
                          refine lv_goto (tgt := 61) hx hb dX11_ballOf_130 (by decide) ?_
                          exact ih61 z_17 z_18 _ _ _ (by omega) (by first | assumption | omega) (by first | assumption | omega) hP hS (lv_sub hl [3, 4, 5, 6, 7, 8, 1, 9, 0] rfl)
                        · refine lv_iload hx hb dX11_ballOf_114 (lv_at hl 9 rfl) ?_
                          refine lv_iload hx hb dX11_ballOf_116 (lv_at hl 6 rfl) ?_
                          refine lv_bipush (v := 6) hx hb dX11_ballOf_118 (by decide) ?_
                          refine a_irem (u := u.toInt) (v := 6) hx hb dX11_ballOf_120 (rfl) (by decide) (by omega) (fun z_19 e_19 h_19 k_19 => ?_)
                          refine a_icmp_ge (u := xq.toInt) (v := z_19.toInt) (tgt := 127) hx hb dX11_ballOf_121 (by decide) (rfl) (rfl) (fun c_20 => ?_) (fun c_20 => ?_)
                          · obtain ⟨z_21, q_21, e_21⟩ := i_inc (a := xq.toInt) (1) (rfl) (by decide) (by omega) (by omega)
                            refine lv_iinc (v := z_21) (lv' := [(8, .int z_21), (9, .int z_9), (0, .ref mm), (1, .int a), (2, .int w9), (3, .int t), (4, .int wn), (5, .int u), (6, .int n7), (7, .int w7)]) hx hb dX11_ballOf_127 hl (k := 9) rfl q_21 (by decide) rfl (fun ls hl => ?_)
                            refine lv_goto (tgt := 61) hx hb dX11_ballOf_130 (by decide) ?_
                            exact ih61 n7 z_21 _ _ _ (by omega) (by first | assumption | omega) (by first | assumption | omega) hP hS (lv_sub hl [2, 3, 4, 5, 6, 7, 8, 9, 0] rfl)
                          · obtain ⟨z_22, q_22, e_22⟩ := i_inc (a := n7.toInt) (1) (rfl) (by decide) (by omega) (by omega)
                            refine lv_iinc (v := z_22) (lv' := [(6, .int z_22), (9, .int z_9), (0, .ref mm), (1, .int a), (2, .int w9), (3, .int t), (4, .int wn), (5, .int u), (7, .int w7), (8, .int xq)]) hx hb dX11_ballOf_124 hl (k := 7) rfl q_22 (by decide) rfl (fun ls hl => ?_)
                            obtain ⟨z_23, q_23, e_23⟩ := i_inc (a := xq.toInt) (1) (rfl) (by decide) (by omega) (by omega)
                            refine lv_iinc (v := z_23) (lv' := [(8, .int z_23), (6, .int z_22), (9, .int z_9), (0, .ref mm), (1, .int a), (2, .int w9), (3, .int t), (4, .int wn), (5, .int u), (7, .int w7)]) hx hb dX11_ballOf_127 hl (k := 9) rfl q_23 (by decide) rfl (fun ls hl => ?_)
                            refine lv_goto (tgt := 61) hx hb dX11_ballOf_130 (by decide) ?_
                            exact ih61 z_22 z_23 _ _ _ (by omega) (by first | assumption | omega) (by first | assumption | omega) hP hS (lv_sub hl [3, 4, 5, 6, 7, 8, 1, 9, 0] rfl)
              have hz_24 : (0 : Int32).toInt = 0 := by decide
              exact loop61 ((10 - (0 : Int32).toInt).toNat + 1) n6 (0 : Int32) _ _ _ (by omega) (by first | assumption | omega) (by first | assumption | omega) hP hS (lv_sub hl [1, 2, 3, 4, 5, 6, 7, 8, 0] rfl)
        have hz_25 : (0 : Int32).toInt = 0 := by decide
        have hz_26 : (0 : Int32).toInt = 0 := by decide
        exact loop51 ((2000 - (0 : Int32).toInt).toNat + 1) (0 : Int32) (0 : Int32) _ _ _ (by omega) (by first | assumption | omega) (by first | assumption | omega) hP hS (lv_sub hl [2, 3, 4, 5, 6, 7, 1, 0] rfl)
      · refine lv_aload_n hx hb dX11_ballOf_18 rfl (lv_at hl 0 rfl) ?_
        refine va_get (D := D) (ci := 11) (v := .ref (q 14)) (C := RX11) (T := TX11) (N := 47) hx hb hts (by decide +kernel) hown hK.1 hP 0 rfl rfl 32 (by decide) (hts (.fieldLink RX11 60 "JugglingHallModel" "comesFrom" "[I") (by decide +kernel)) (fun _ h9 => h9) rfl dX11_ballOf_19 ?_
        refine lv_iload hx hb dX11_ballOf_22 (lv_at hl 5 rfl) ?_
        refine a_iald (f := f14) (u := u.toInt) hx hb hK.1 hP 15 0 rfl rfl dX11_ballOf_24 (rfl) (by omega) (fun z_27 q_27 e_27 => ?_)
        refine lv_istore (lv' := [(6, .int z_27), (0, .ref mm), (1, .int a), (2, .int w9), (3, .int t), (4, .int wn), (5, .int u)]) hx hb dX11_ballOf_25 hl (by decide) rfl (fun ls hl => ?_)
        refine lv_aload_n hx hb dX11_ballOf_27 rfl (lv_at hl 1 rfl) ?_
        refine lv_iload_n hx hb dX11_ballOf_28 rfl (lv_at hl 2 rfl) ?_
        refine lv_iload hx hb dX11_ballOf_29 (lv_at hl 5 rfl) ?_
        refine lv_iload hx hb dX11_ballOf_31 (lv_at hl 6 rfl) ?_
        refine roP (va_runV (As := [.int a, .int wn, .int u]) (rest := []) ⟨hx, hb, hml, hown, hts⟩ (k_sourceTime l D cI cR cM _  (by first | assumption | omega) (hr0) (by first | assumption | omega) (by first | assumption | omega) (by first | assumption | omega) (by first | assumption | omega)) (cwV 3 hts gX11_ballOf_X11_sourceTime rfl rfl rfl (by decide +kernel) ⟨Nat.le_of_ble_eq_true rfl, Nat.le_of_ble_eq_true rfl⟩) (pre_V hK hP hD 0 11 rfl rfl) rfl rfl hl.1 rfl (lv_room (Nat.le_of_ble_eq_true rfl)) dX11_ballOf_33 ⟨Nat.le_of_ble_eq_true rfl, Nat.le_of_ble_eq_true rfl⟩) hS hA hP (fun r_28 H locs hw hP hS => ?_)
        obtain ⟨h_28, hq_28, hO_28⟩ : (r_28.toInt < wn.toInt ∧ wn.toInt - 9 ≤ r_28.toInt) ∧ (r_28.toInt = wn.toInt - cy_h f0 a.toInt (f14 u.toInt.toNat).toInt) ∧ (cy_O f0 a.toInt (f0 a.toInt.toNat).toInt (f14 u.toInt.toNat)) := hw
        refine lv_istore (lv' := [(4, .int r_28), (6, .int z_27), (0, .ref mm), (1, .int a), (2, .int w9), (3, .int t), (5, .int u)]) hx hb dX11_ballOf_36 hl (by decide) rfl (fun ls hl => ?_)
        refine lv_iload hx hb dX11_ballOf_38 (lv_at hl 1 rfl) ?_
        refine lv_istore (lv' := [(5, .int z_27), (4, .int r_28), (6, .int z_27), (0, .ref mm), (1, .int a), (2, .int w9), (3, .int t)]) hx hb dX11_ballOf_40 hl (by decide) rfl (fun ls hl => ?_)
        refine lv_goto (tgt := 6) hx hb dX11_ballOf_42 (by decide) ?_
        exact ih6 r_28 z_27 _ _ _ (by omega) (by first | assumption | omega) (by rw [q_27]; exact hO_1) hP hS (lv_sub hl [3, 4, 5, 6, 1, 0] rfl)
  exact loop6 ((w9.toInt).toNat + 1) w9 t _ _ _ (by omega) (by first | assumption | omega) (⟨by omega, by omega, hun⟩) hP hS (lv_sub hl [2, 3, 4, 5, 1, 0] rfl)
set_option maxRecDepth 100000 in
set_option maxHeartbeats 4000000 in
theorem k_caught (l : Launch) (D : va_G) (cI cR cM : ClassId) (sz : Nat) {jn mm : Nat} {q : Nat → Nat} {x0 x1 x2 x3 x4 x5 x6 x7 x8 x9 x10 x11 x12 x13 x14 x15 x16 x17 x18 x19 x20 : Int32} {f0 f1 f2 f3 f4 f5 f6 f7 f8 f9 f10 f11 f12 f13 f14 f15 f16 f17 f18 f19 f20 f21 f22 f23 f24 : Nat → Int32} {k c9 d9 e9 g9 : Int32}  (hj : 1 ≤ jn ∧ jn ≤ 3) (h0 : 0 ≤ x0.toInt ∧ x0.toInt ≤ 60) (h1 : 0 ≤ x1.toInt ∧ x1.toInt ≤ 60) (hR : RowsX jn f0) (hRZ : RowsZ jn f0) : Met l yX11_caught wsX11_caught ({ frames := 5, cells := 0, slots := 0, locals := 124 }) (P0 D cI cR cM [.ref mm, .int k, .int c9, .int d9, .int e9, .int g9] sz (mX mm q jn cI x0 x1 x2 x3 x4 x5 x6 x7 x8 x9 x10 x11 x12 x13 x14 x15 x16 x17 x18 x19 x20 f0 f1 f2 f3 f4 f5 f6 f7 f8 f9 f10 f11 f12 f13 f14 f15 f16 f17 f18 f19 f20 f21 f22 f23 f24)) (QG (S := Int32 × Int32 × Int32 × Int32 × (Nat → Int32) × (Nat → Int32) × (Nat → Int32) × (Nat → Int32) × (Nat → Int32)) (fun u => some (.int u.1)) (fun u => mX mm q jn cI x0 x1 x2 x3 x4 x5 x6 x7 x8 x9 x10 x11 x12 x13 x14 (u.2.1) (u.2.2.1) (u.2.2.2.1) x18 x19 x20 f0 f1 f2 f3 f4 f5 f6 f7 f8 f9 f10 f11 (u.2.2.2.2.1) (u.2.2.2.2.2.1) (u.2.2.2.2.2.2.1) (u.2.2.2.2.2.2.2.1) (u.2.2.2.2.2.2.2.2) f17 f18 f19 f20 f21 f22 f23 f24) (fun u => True) D (va_A (mX mm q jn cI x0 x1 x2 x3 x4 x5 x6 x7 x8 x9 x10 x11 x12 x13 x14 x15 x16 x17 x18 x19 x20 f0 f1 f2 f3 f4 f5 f6 f7 f8 f9 f10 f11 f12 f13 f14 f15 f16 f17 f18 f19 f20 f21 f22 f23 f24) sz)) 0 0 (va_A (mX mm q jn cI x0 x1 x2 x3 x4 x5 x6 x7 x8 x9 x10 x11 x12 x13 x14 x15 x16 x17 x18 x19 x20 f0 f1 f2 f3 f4 f5 f6 f7 f8 f9 f10 f11 f12 f13 f14 f15 f16 f17 f18 f19 f20 f21 f22 f23 f24) sz) := by
  refine go (cc := cX11_caught) (maxL := 9) (ret := (some .int)) (by decide) rfl (Nat.le_of_ble_eq_true rfl) ?_
  intro p e s m below meth c ls args Q hQ hsz hx hb hr hml hts hown hlocks hnm hP hK hD hl
  subst hsz
  have hD := hD.self (sz := s.heap.size)
  generalize hAe : va_A (mX mm q jn cI x0 x1 x2 x3 x4 x5 x6 x7 x8 x9 x10 x11 x12 x13 x14 x15 x16 x17 x18 x19 x20 f0 f1 f2 f3 f4 f5 f6 f7 f8 f9 f10 f11 f12 f13 f14 f15 f16 f17 f18 f19 f20 f21 f22 f23 f24) s.heap.size = A at hD hQ
  have hA : ∀ q, s.heap.size ≤ q → A q := fun q h => by rw [← hAe]; exact Or.inr h
  have hS : va_S A s.heap s.heap [] := va_S.rf
  have hl : lv_has ls 9 [(0, .ref mm), (1, .int k), (2, .int c9), (3, .int d9), (4, .int e9), (5, .int g9)] := hl
  refine lv_aload_n hx hb dX11_caught_0 rfl (lv_at hl 0 rfl) ?_
  refine lv_iload_n hx hb dX11_caught_1 rfl (lv_at hl 1 rfl) ?_
  refine call_g (wr := []) (va_runV (As := [.int k]) (rest := []) ⟨hx, hb, hml, hown, hts⟩ (k_tied l D cI cR cM _  (by first | assumption | omega) (by first | assumption | omega) (by first | assumption | omega) (by first | assumption | omega) (by first | assumption | omega)) (cwV 1 hts gX11_caught_X11_tied rfl rfl rfl (by decide +kernel) ⟨Nat.le_of_ble_eq_true rfl, Nat.le_of_ble_eq_true rfl⟩) (pre_V hK hP hD 0 11 rfl rfl) rfl rfl hl.1 rfl (lv_room (Nat.le_of_ble_eq_true rfl)) dX11_caught_2 ⟨Nat.le_of_ble_eq_true rfl, Nat.le_of_ble_eq_true rfl⟩) hP hD hS hA [0, 1, 2, 3, 4, 5, 6, 7, 8, 9, 10, 11, 12, 13, 14, 15, 16, 17, 18, 19, 20, 21, 22, 23, 24, 25] [] (by with_unfolding_all rfl) rfl (by decide) (by decide) (fun u_1 H locs hw hP hD hS => ?_)
  obtain ⟨r_1, y15_1, y16_1, y17_1, g12_1, g13_1, g14_1, g15_1, g16_1⟩ := u_1
  have hP : va_P D vwCl (mX mm q jn cI x0 x1 x2 x3 x4 x5 x6 x7 x8 x9 x10 x11 x12 x13 x14 y15_1 y16_1 y17_1 x18 x19 x20 f0 f1 f2 f3 f4 f5 f6 f7 f8 f9 f10 f11 g12_1 g13_1 g14_1 g15_1 g16_1 f17 f18 f19 f20 f21 f22 f23 f24) H := hP
  have hD : va_D A (mX mm q jn cI x0 x1 x2 x3 x4 x5 x6 x7 x8 x9 x10 x11 x12 x13 x14 y15_1 y16_1 y17_1 x18 x19 x20 f0 f1 f2 f3 f4 f5 f6 f7 f8 f9 f10 f11 g12_1 g13_1 g14_1 g15_1 g16_1 f17 f18 f19 f20 f21 f22 f23 f24) := hD
  obtain ⟨h_1, hle_1⟩ : (r_1.toInt = -1 ∨ (IsRow jn f0 r_1.toInt ∧ ZX jn f0 (r_1.toInt + 1) (f0 r_1.toInt.toNat).toInt ∧ cy_CO f0 r_1.toInt (f0 r_1.toInt.toNat).toInt g14_1 (3 * (f0 r_1.toInt.toNat).toInt) ∧ 0 ≤ y17_1.toInt ∧ y17_1.toInt ≤ 144)) ∧ (r_1.toInt ≤ 150 * (8 * x1.toInt + 7)) := hw
  refine lv_istore (lv' := [(6, .int r_1), (0, .ref mm), (1, .int k), (2, .int c9), (3, .int d9), (4, .int e9), (5, .int g9)]) hx hb dX11_caught_5 hl (by decide) rfl (fun ls hl => ?_)
  refine lv_iload hx hb dX11_caught_7 (lv_at hl 0 rfl) ?_
  refine a_if_lt (u := r_1.toInt) (tgt := 54) hx hb dX11_caught_9 (by decide) (rfl) (fun c_2 => ?_) (fun c_2 => ?_)
  · refine lv_iconst (v := (-1)) hx hb dX11_caught_54 (by decide) ?_
    have hz_3 : (-1 : Int32).toInt = (-1) := by decide
    exact g_iret ((-1 : Int32), y15_1, y16_1, y17_1, g12_1, g13_1, g14_1, g15_1, g16_1) hx hb hr hlocks hS rfl (trivial) hP hD hQ (Nat.le_of_ble_eq_true rfl) (Nat.le_of_ble_eq_true rfl) dX11_caught_55
  · obtain ⟨hr0, hZ9, hC9, hcc⟩ := h_1.resolve_left (by omega)
    have hrow9 := hr0
    obtain ⟨hr1, hr2, hr3, hr4, hr5, hr6⟩ := hrow9
    refine lv_iload_n hx hb dX11_caught_12 rfl (lv_at hl 3 rfl) ?_
    refine lv_iconst (v := 0) hx hb dX11_caught_13 (by decide) ?_
    refine lv_sipush (v := 999) hx hb dX11_caught_14 (by decide) ?_
    have hz_4 : (0 : Int32).toInt = 0 := by decide
    have hz_5 : (999 : Int32).toInt = 999 := by decide
    refine roP (va_runS (As := [.int c9, .int 0, .int 999]) (rest := []) ⟨hx, hb, hml, hown, hts⟩ (k_isIn l D cI cR cM _  ) (va_cwS 3 hts gX11_caught_X11_isIn rfl rfl rfl (by decide +kernel) ⟨Nat.le_of_ble_eq_true rfl, Nat.le_of_ble_eq_true rfl⟩) (pre_S hK va_P_nil (va_D_nil (A := fun _ => True))) rfl rfl hl.1 rfl (lv_room (Nat.le_of_ble_eq_true rfl)) dX11_caught_17 ⟨Nat.le_of_ble_eq_true rfl, Nat.le_of_ble_eq_true rfl⟩) hS hA hP (fun r_6 H locs hw hP hS => ?_)
    have h_6 : ((r_6.toInt = 1 ∧ (0 : Int32).toInt ≤ c9.toInt ∧ c9.toInt ≤ (999 : Int32).toInt) ∨ (r_6.toInt = 0 ∧ (c9.toInt < (0 : Int32).toInt ∨ (999 : Int32).toInt < c9.toInt))) := hw
    refine a_if_eq (u := r_6.toInt) (tgt := 54) hx hb dX11_caught_20 (by decide) (rfl) (fun c_7 => ?_) (fun c_7 => ?_)
    · refine lv_iconst (v := (-1)) hx hb dX11_caught_54 (by decide) ?_
      have hz_8 : (-1 : Int32).toInt = (-1) := by decide
      exact g_iret ((-1 : Int32), y15_1, y16_1, y17_1, g12_1, g13_1, g14_1, g15_1, g16_1) hx hb hr hlocks hS rfl (trivial) hP hD hQ (Nat.le_of_ble_eq_true rfl) (Nat.le_of_ble_eq_true rfl) dX11_caught_55
    · refine lv_aload_n hx hb dX11_caught_23 rfl (lv_at hl 1 rfl) ?_
      refine lv_iload hx hb dX11_caught_24 (lv_at hl 0 rfl) ?_
      refine lv_iload_n hx hb dX11_caught_26 rfl (lv_at hl 3 rfl) ?_
      refine lv_aload_n hx hb dX11_caught_27 rfl (lv_at hl 1 rfl) ?_
      refine va_get (D := D) (ci := 11) (v := .ref (q 0)) (C := RX11) (T := TX11) (N := 47) hx hb hts (by decide +kernel) hown hK.1 hP 0 rfl rfl 1 (by decide) (hts (.fieldLink RX11 8 "JugglingHallModel" "rows" "[I") (by decide +kernel)) (fun _ h9 => h9) rfl dX11_caught_28 ?_
      refine lv_iload hx hb dX11_caught_31 (lv_at hl 0 rfl) ?_
      refine a_iald (f := f0) (u := r_1.toInt) hx hb hK.1 hP 1 0 rfl rfl dX11_caught_33 (rfl) (by omega) (fun z_9 q_9 e_9 => ?_)
      refine a_irem (u := c9.toInt) (v := z_9.toInt) hx hb dX11_caught_34 (rfl) (rfl) (by omega) (fun z_10 e_10 h_10 k_10 => ?_)
      refine lv_iload_n hx hb dX11_caught_35 rfl (lv_at hl 4 rfl) ?_
      refine lv_iload hx hb dX11_caught_36 (lv_at hl 5 rfl) ?_
      refine roP (va_runV (As := [.int r_1, .int z_10, .int d9, .int e9]) (rest := []) ⟨hx, hb, hml, hown, hts⟩ (k_isThere l D cI cR cM _  (by first | assumption | omega) (Or.inr hr0)) (cwV 4 hts gX11_caught_X11_isThere rfl rfl rfl (by decide +kernel) ⟨Nat.le_of_ble_eq_true rfl, Nat.le_of_ble_eq_true rfl⟩) (pre_V hK hP hD 0 11 rfl rfl) rfl rfl hl.1 rfl (lv_room (Nat.le_of_ble_eq_true rfl)) dX11_caught_38 ⟨Nat.le_of_ble_eq_true rfl, Nat.le_of_ble_eq_true rfl⟩) hS hA hP (fun r_11 H locs hw hP hS => ?_)
      obtain ⟨h01_11, h_11⟩ : (r_11.toInt = 0 ∨ r_11.toInt = 1) ∧ (r_11.toInt = 1 → 0 ≤ r_1.toInt ∧ 0 ≤ z_10.toInt ∧ z_10.toInt < (f0 r_1.toInt.toNat).toInt ∧ 0 ≤ d9.toInt ∧ d9.toInt < (jn : Int) ∧ 0 ≤ e9.toInt ∧ e9.toInt ≤ 1) := hw
      refine a_if_eq (u := r_11.toInt) (tgt := 54) hx hb dX11_caught_41 (by decide) (rfl) (fun c_12 => ?_) (fun c_12 => ?_)
      · refine lv_iconst (v := (-1)) hx hb dX11_caught_54 (by decide) ?_
        have hz_13 : (-1 : Int32).toInt = (-1) := by decide
        exact g_iret ((-1 : Int32), y15_1, y16_1, y17_1, g12_1, g13_1, g14_1, g15_1, g16_1) hx hb hr hlocks hS rfl (trivial) hP hD hQ (Nat.le_of_ble_eq_true rfl) (Nat.le_of_ble_eq_true rfl) dX11_caught_55
      · refine lv_iload hx hb dX11_caught_44 (lv_at hl 6 rfl) ?_
        refine lv_iconst (v := 0) hx hb dX11_caught_46 (by decide) ?_
        refine lv_iconst (v := 3) hx hb dX11_caught_47 (by decide) ?_
        have hz_14 : (0 : Int32).toInt = 0 := by decide
        have hz_15 : (3 : Int32).toInt = 3 := by decide
        refine roP (va_runS (As := [.int g9, .int 0, .int 3]) (rest := []) ⟨hx, hb, hml, hown, hts⟩ (k_isIn l D cI cR cM _  ) (va_cwS 3 hts gX11_caught_X11_isIn rfl rfl rfl (by decide +kernel) ⟨Nat.le_of_ble_eq_true rfl, Nat.le_of_ble_eq_true rfl⟩) (pre_S hK va_P_nil (va_D_nil (A := fun _ => True))) rfl rfl hl.1 rfl (lv_room (Nat.le_of_ble_eq_true rfl)) dX11_caught_48 ⟨Nat.le_of_ble_eq_true rfl, Nat.le_of_ble_eq_true rfl⟩) hS hA hP (fun r_16 H locs hw hP hS => ?_)
        have h_16 : ((r_16.toInt = 1 ∧ (0 : Int32).toInt ≤ g9.toInt ∧ g9.toInt ≤ (3 : Int32).toInt) ∨ (r_16.toInt = 0 ∧ (g9.toInt < (0 : Int32).toInt ∨ (3 : Int32).toInt < g9.toInt))) := hw
        refine a_if_ne (u := r_16.toInt) (tgt := 56) hx hb dX11_caught_51 (by decide) (rfl) (fun c_17 => ?_) (fun c_17 => ?_)
        · refine lv_bipush (v := 6) hx hb dX11_caught_56 (by decide) ?_
          refine lv_iload_n hx hb dX11_caught_58 rfl (lv_at hl 3 rfl) ?_
          refine lv_aload_n hx hb dX11_caught_59 rfl (lv_at hl 1 rfl) ?_
          refine va_get (D := D) (ci := 11) (v := .ref (q 0)) (C := RX11) (T := TX11) (N := 47) hx hb hts (by decide +kernel) hown hK.1 hP 0 rfl rfl 1 (by decide) (hts (.fieldLink RX11 8 "JugglingHallModel" "rows" "[I") (by decide +kernel)) (fun _ h9 => h9) rfl dX11_caught_60 ?_
          refine lv_iload hx hb dX11_caught_63 (lv_at hl 0 rfl) ?_
          refine a_iald (f := f0) (u := r_1.toInt) hx hb hK.1 hP 1 0 rfl rfl dX11_caught_65 (rfl) (by omega) (fun z_18 q_18 e_18 => ?_)
          refine a_irem (u := c9.toInt) (v := z_18.toInt) hx hb dX11_caught_66 (rfl) (rfl) (by omega) (fun z_19 e_19 h_19 k_19 => ?_)
          refine a_imul (u := 6) (v := z_19.toInt) hx hb dX11_caught_67 (by decide) (rfl) (by omega) (fun z_20 e_20 => ?_)
          refine lv_iconst (v := 2) hx hb dX11_caught_68 (by decide) ?_
          refine lv_iload_n hx hb dX11_caught_69 rfl (lv_at hl 4 rfl) ?_
          refine a_imul (u := 2) (v := d9.toInt) hx hb dX11_caught_70 (by decide) (rfl) (by omega) (fun z_21 e_21 => ?_)
          refine a_iadd (u := (6 * z_19.toInt)) (v := (2 * d9.toInt)) hx hb dX11_caught_71 (e_20) (e_21) (by omega) (fun z_22 e_22 => ?_)
          refine lv_iload hx hb dX11_caught_72 (lv_at hl 5 rfl) ?_
          refine a_iadd (u := ((6 * z_19.toInt) + (2 * d9.toInt))) (v := e9.toInt) hx hb dX11_caught_74 (e_22) (rfl) (by omega) (fun z_23 e_23 => ?_)
          refine lv_istore (lv' := [(7, .int z_23), (6, .int r_1), (0, .ref mm), (1, .int k), (2, .int c9), (3, .int d9), (4, .int e9), (5, .int g9)]) hx hb dX11_caught_75 hl (by decide) rfl (fun ls hl => ?_)
          refine lv_aload_n hx hb dX11_caught_77 rfl (lv_at hl 2 rfl) ?_
          refine lv_iload hx hb dX11_caught_78 (lv_at hl 1 rfl) ?_
          refine lv_iload hx hb dX11_caught_80 (lv_at hl 0 rfl) ?_
          refine roP (va_runV (As := [.int r_1, .int z_23]) (rest := []) ⟨hx, hb, hml, hown, hts⟩ (k_heightOf2 l D cI cR cM _  (by first | assumption | omega) (hr0) (by first | assumption | omega)) (cwV 2 hts gX11_caught_X11_heightOf rfl rfl rfl (by decide +kernel) ⟨Nat.le_of_ble_eq_true rfl, Nat.le_of_ble_eq_true rfl⟩) (pre_V hK hP hD 0 11 rfl rfl) rfl rfl hl.1 rfl (lv_room (Nat.le_of_ble_eq_true rfl)) dX11_caught_82 ⟨Nat.le_of_ble_eq_true rfl, Nat.le_of_ble_eq_true rfl⟩) hS hA hP (fun r_24 H locs hw hP hS => ?_)
          obtain ⟨h_24, hb_24⟩ : (r_24.toInt = cy_h f0 r_1.toInt z_23.toInt) ∧ (0 ≤ r_24.toInt ∧ r_24.toInt ≤ 9) := hw
          refine a_if_ne (u := r_24.toInt) (tgt := 90) hx hb dX11_caught_85 (by decide) (rfl) (fun c_25 => ?_) (fun c_25 => ?_)
          · refine lv_iload hx hb dX11_caught_90 (lv_at hl 7 rfl) ?_
            refine lv_iconst (v := 3) hx hb dX11_caught_92 (by decide) ?_
            refine a_icmp_ne (u := g9.toInt) (v := 3) (tgt := 106) hx hb dX11_caught_93 (by decide) (rfl) (by decide) (fun c_26 => ?_) (fun c_26 => ?_)
            · refine lv_aload_n hx hb dX11_caught_106 rfl (lv_at hl 2 rfl) ?_
              refine lv_iload hx hb dX11_caught_107 (lv_at hl 1 rfl) ?_
              refine lv_iload_n hx hb dX11_caught_109 rfl (lv_at hl 4 rfl) ?_
              refine lv_iload hx hb dX11_caught_110 (lv_at hl 0 rfl) ?_
              refine roP (va_runV (As := [.int r_1, .int c9, .int z_23]) (rest := []) ⟨hx, hb, hml, hown, hts⟩ (k_sourceTime l D cI cR cM _  (by first | assumption | omega) (hr0) (hC9) (by first | assumption | omega) (by omega) (by first | assumption | omega)) (cwV 3 hts gX11_caught_X11_sourceTime rfl rfl rfl (by decide +kernel) ⟨Nat.le_of_ble_eq_true rfl, Nat.le_of_ble_eq_true rfl⟩) (pre_V hK hP hD 0 11 rfl rfl) rfl rfl hl.1 rfl (lv_room (Nat.le_of_ble_eq_true rfl)) dX11_caught_112 ⟨Nat.le_of_ble_eq_true rfl, Nat.le_of_ble_eq_true rfl⟩) hS hA hP (fun r_27 H locs hw hP hS => ?_)
              obtain ⟨h_27, hq_27, hO_27⟩ : (r_27.toInt < c9.toInt ∧ c9.toInt - 9 ≤ r_27.toInt) ∧ (r_27.toInt = c9.toInt - cy_h f0 r_1.toInt (g14_1 z_23.toInt.toNat).toInt) ∧ (cy_O f0 r_1.toInt (f0 r_1.toInt.toNat).toInt (g14_1 z_23.toInt.toNat)) := hw
              refine lv_istore (lv' := [(8, .int r_27), (7, .int z_23), (6, .int r_1), (0, .ref mm), (1, .int k), (2, .int c9), (3, .int d9), (4, .int e9), (5, .int g9)]) hx hb dX11_caught_115 hl (by decide) rfl (fun ls hl => ?_)
              refine lv_iload hx hb dX11_caught_117 (lv_at hl 0 rfl) ?_
              refine a_if_ge (u := r_27.toInt) (tgt := 124) hx hb dX11_caught_119 (by decide) (rfl) (fun c_28 => ?_) (fun c_28 => ?_)
              · refine lv_iload hx hb dX11_caught_124 (lv_at hl 8 rfl) ?_
                refine a_if_ne (u := g9.toInt) (tgt := 134) hx hb dX11_caught_126 (by decide) (rfl) (fun c_29 => ?_) (fun c_29 => ?_)
                · refine lv_iload hx hb dX11_caught_134 (lv_at hl 8 rfl) ?_
                  refine lv_iconst (v := 1) hx hb dX11_caught_136 (by decide) ?_
                  refine a_icmp_ne (u := g9.toInt) (v := 1) (tgt := 155) hx hb dX11_caught_137 (by decide) (rfl) (by decide) (fun c_30 => ?_) (fun c_30 => ?_)
                  · refine lv_aload_n hx hb dX11_caught_155 rfl (lv_at hl 3 rfl) ?_
                    refine va_get (D := D) (ci := 11) (v := .ref (q 14)) (C := RX11) (T := TX11) (N := 47) hx hb hts (by decide +kernel) hown hK.1 hP 0 rfl rfl 32 (by decide) (hts (.fieldLink RX11 60 "JugglingHallModel" "comesFrom" "[I") (by decide +kernel)) (fun _ h9 => h9) rfl dX11_caught_156 ?_
                    refine lv_iload hx hb dX11_caught_159 (lv_at hl 1 rfl) ?_
                    refine a_iald (f := g14_1) (u := (((6 * z_19.toInt) + (2 * d9.toInt)) + e9.toInt)) hx hb hK.1 hP 15 0 rfl rfl dX11_caught_161 (e_23) (by omega) (fun z_31 q_31 e_31 => ?_)
                    have hok : cy_O f0 r_1.toInt (f0 r_1.toInt.toNat).toInt z_31 := by rw [q_31, show (((6 * z_19.toInt) + (2 * d9.toInt)) + e9.toInt) = z_23.toInt by omega]; exact hO_27
                    obtain ⟨ho1, ho2, ho3⟩ := hok
                    refine lv_iconst (v := 2) hx hb dX11_caught_162 (by decide) ?_
                    refine a_irem (u := z_31.toInt) (v := 2) hx hb dX11_caught_163 (rfl) (by decide) (by omega) (fun z_32 e_32 h_32 k_32 => ?_)
                    exact g_iret (z_32, y15_1, y16_1, y17_1, g12_1, g13_1, g14_1, g15_1, g16_1) hx hb hr hlocks hS rfl (trivial) hP hD hQ (Nat.le_of_ble_eq_true rfl) (Nat.le_of_ble_eq_true rfl) dX11_caught_164
                  · refine lv_aload_n hx hb dX11_caught_140 rfl (lv_at hl 3 rfl) ?_
                    refine va_get (D := D) (ci := 11) (v := .ref (q 14)) (C := RX11) (T := TX11) (N := 47) hx hb hts (by decide +kernel) hown hK.1 hP 0 rfl rfl 32 (by decide) (hts (.fieldLink RX11 60 "JugglingHallModel" "comesFrom" "[I") (by decide +kernel)) (fun _ h9 => h9) rfl dX11_caught_141 ?_
                    refine lv_iload hx hb dX11_caught_144 (lv_at hl 1 rfl) ?_
                    refine a_iald (f := g14_1) (u := (((6 * z_19.toInt) + (2 * d9.toInt)) + e9.toInt)) hx hb hK.1 hP 15 0 rfl rfl dX11_caught_146 (e_23) (by omega) (fun z_33 q_33 e_33 => ?_)
                    have hok : cy_O f0 r_1.toInt (f0 r_1.toInt.toNat).toInt z_33 := by rw [q_33, show (((6 * z_19.toInt) + (2 * d9.toInt)) + e9.toInt) = z_23.toInt by omega]; exact hO_27
                    obtain ⟨ho1, ho2, ho3⟩ := hok
                    refine lv_bipush (v := 6) hx hb dX11_caught_147 (by decide) ?_
                    refine a_irem (u := z_33.toInt) (v := 6) hx hb dX11_caught_149 (rfl) (by decide) (by omega) (fun z_34 e_34 h_34 k_34 => ?_)
                    refine lv_iconst (v := 2) hx hb dX11_caught_150 (by decide) ?_
                    refine a_idiv (u := z_34.toInt) (v := 2) hx hb dX11_caught_151 (rfl) (by decide) (by omega) (fun z_35 e_35 => ?_)
                    refine lv_goto (tgt := 164) hx hb dX11_caught_152 (by decide) ?_
                    exact g_iret (z_35, y15_1, y16_1, y17_1, g12_1, g13_1, g14_1, g15_1, g16_1) hx hb hr hlocks hS rfl (trivial) hP hD hQ (Nat.le_of_ble_eq_true rfl) (Nat.le_of_ble_eq_true rfl) dX11_caught_164
                · refine lv_iload hx hb dX11_caught_129 (lv_at hl 0 rfl) ?_
                  refine lv_goto (tgt := 164) hx hb dX11_caught_131 (by decide) ?_
                  exact g_iret (r_27, y15_1, y16_1, y17_1, g12_1, g13_1, g14_1, g15_1, g16_1) hx hb hr hlocks hS rfl (trivial) hP hD hQ (Nat.le_of_ble_eq_true rfl) (Nat.le_of_ble_eq_true rfl) dX11_caught_164
              · refine lv_iconst (v := (-1)) hx hb dX11_caught_122 (by decide) ?_
                have hz_36 : (-1 : Int32).toInt = (-1) := by decide
                exact g_iret ((-1 : Int32), y15_1, y16_1, y17_1, g12_1, g13_1, g14_1, g15_1, g16_1) hx hb hr hlocks hS rfl (trivial) hP hD hQ (Nat.le_of_ble_eq_true rfl) (Nat.le_of_ble_eq_true rfl) dX11_caught_123
            · refine lv_aload_n hx hb dX11_caught_96 rfl (lv_at hl 2 rfl) ?_
              refine lv_iload hx hb dX11_caught_97 (lv_at hl 1 rfl) ?_
              refine lv_iload_n hx hb dX11_caught_99 rfl (lv_at hl 4 rfl) ?_
              refine lv_iload hx hb dX11_caught_100 (lv_at hl 0 rfl) ?_
              refine roP (va_runV (As := [.int r_1, .int c9, .int z_23]) (rest := []) ⟨hx, hb, hml, hown, hts⟩ (k_ballOf l D cI cR cM _  (by first | assumption | omega) (hr0) (hC9) (by first | assumption | omega) (by omega) (by first | assumption | omega)) (cwV 3 hts gX11_caught_X11_ballOf rfl rfl rfl (by decide +kernel) ⟨Nat.le_of_ble_eq_true rfl, Nat.le_of_ble_eq_true rfl⟩) (pre_V hK hP hD 0 11 rfl rfl) rfl rfl hl.1 rfl (lv_room (Nat.le_of_ble_eq_true rfl)) dX11_caught_102 ⟨Nat.le_of_ble_eq_true rfl, Nat.le_of_ble_eq_true rfl⟩) hS hA hP (fun r_37 H locs hw hP hS => ?_)
              exact g_iret (r_37, y15_1, y16_1, y17_1, g12_1, g13_1, g14_1, g15_1, g16_1) hx hb hr hlocks hS rfl (trivial) hP hD hQ (Nat.le_of_ble_eq_true rfl) (Nat.le_of_ble_eq_true rfl) dX11_caught_105
          · refine lv_iconst (v := (-1)) hx hb dX11_caught_88 (by decide) ?_
            have hz_38 : (-1 : Int32).toInt = (-1) := by decide
            exact g_iret ((-1 : Int32), y15_1, y16_1, y17_1, g12_1, g13_1, g14_1, g15_1, g16_1) hx hb hr hlocks hS rfl (trivial) hP hD hQ (Nat.le_of_ble_eq_true rfl) (Nat.le_of_ble_eq_true rfl) dX11_caught_89
        · refine lv_iconst (v := (-1)) hx hb dX11_caught_54 (by decide) ?_
          have hz_39 : (-1 : Int32).toInt = (-1) := by decide
          exact g_iret ((-1 : Int32), y15_1, y16_1, y17_1, g12_1, g13_1, g14_1, g15_1, g16_1) hx hb hr hlocks hS rfl (trivial) hP hD hQ (Nat.le_of_ble_eq_true rfl) (Nat.le_of_ble_eq_true rfl) dX11_caught_55
