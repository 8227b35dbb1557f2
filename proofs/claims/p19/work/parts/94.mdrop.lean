theorem dX11_wholes_0 : decode cX11_wholes 0 = .ok (.aload_n 0, 1) := by decide +kernel
theorem dX11_wholes_1 : decode cX11_wholes 1 = .ok (.getfield 14, 3) := by decide +kernel
theorem dX11_wholes_4 : decode cX11_wholes 4 = .ok (.iload_n 1, 1) := by decide +kernel
theorem dX11_wholes_5 : decode cX11_wholes 5 = .ok (.iaload, 1) := by decide +kernel
theorem dX11_wholes_6 : decode cX11_wholes 6 = .ok (.istore_n 3, 1) := by decide +kernel
theorem dX11_wholes_7 : decode cX11_wholes 7 = .ok (.iconst 0, 1) := by decide +kernel
theorem dX11_wholes_8 : decode cX11_wholes 8 = .ok (.istore 4, 2) := by decide +kernel
theorem dX11_wholes_10 : decode cX11_wholes 10 = .ok (.iconst 0, 1) := by decide +kernel
theorem dX11_wholes_11 : decode cX11_wholes 11 = .ok (.istore 5, 2) := by decide +kernel
theorem dX11_wholes_13 : decode cX11_wholes 13 = .ok (.iconst 0, 1) := by decide +kernel
theorem dX11_wholes_14 : decode cX11_wholes 14 = .ok (.istore 6, 2) := by decide +kernel
theorem dX11_wholes_16 : decode cX11_wholes 16 = .ok (.iconst 0, 1) := by decide +kernel
theorem dX11_wholes_17 : decode cX11_wholes 17 = .ok (.istore 7, 2) := by decide +kernel
theorem dX11_wholes_19 : decode cX11_wholes 19 = .ok (.aload_n 0, 1) := by decide +kernel
theorem dX11_wholes_20 : decode cX11_wholes 20 = .ok (.getfield 87, 3) := by decide +kernel
theorem dX11_wholes_23 : decode cX11_wholes 23 = .ok (.iconst 0, 1) := by decide +kernel
theorem dX11_wholes_24 : decode cX11_wholes 24 = .ok (.iconst (-1), 1) := by decide +kernel
theorem dX11_wholes_25 : decode cX11_wholes 25 = .ok (.iastore, 1) := by decide +kernel
theorem dX11_wholes_26 : decode cX11_wholes 26 = .ok (.iload 7, 2) := by decide +kernel
theorem dX11_wholes_28 : decode cX11_wholes 28 = .ok (.ifCond .lt 259, 3) := by decide +kernel
theorem dX11_wholes_31 : decode cX11_wholes 31 = .ok (.aload_n 0, 1) := by decide +kernel
theorem dX11_wholes_32 : decode cX11_wholes 32 = .ok (.getfield 87, 3) := by decide +kernel
theorem dX11_wholes_35 : decode cX11_wholes 35 = .ok (.iload 7, 2) := by decide +kernel
theorem dX11_wholes_37 : decode cX11_wholes 37 = .ok (.iaload, 1) := by decide +kernel
theorem dX11_wholes_38 : decode cX11_wholes 38 = .ok (.istore 8, 2) := by decide +kernel
theorem dX11_wholes_40 : decode cX11_wholes 40 = .ok (.iload 8, 2) := by decide +kernel
theorem dX11_wholes_42 : decode cX11_wholes 42 = .ok (.ifCond .lt 26, 3) := by decide +kernel
theorem dX11_wholes_45 : decode cX11_wholes 45 = .ok (.iload 5, 2) := by decide +kernel
theorem dX11_wholes_47 : decode cX11_wholes 47 = .ok (.iconst 1, 1) := by decide +kernel
theorem dX11_wholes_48 : decode cX11_wholes 48 = .ok (.iload 7, 2) := by decide +kernel
theorem dX11_wholes_50 : decode cX11_wholes 50 = .ok (.iload 8, 2) := by decide +kernel
theorem dX11_wholes_52 : decode cX11_wholes 52 = .ok (.iadd, 1) := by decide +kernel
theorem dX11_wholes_53 : decode cX11_wholes 53 = .ok (.iload_n 3, 1) := by decide +kernel
theorem dX11_wholes_54 : decode cX11_wholes 54 = .ok (.irem, 1) := by decide +kernel
theorem dX11_wholes_55 : decode cX11_wholes 55 = .ok (.ishl, 1) := by decide +kernel
theorem dX11_wholes_56 : decode cX11_wholes 56 = .ok (.iconst (-1), 1) := by decide +kernel
theorem dX11_wholes_57 : decode cX11_wholes 57 = .ok (.ixor, 1) := by decide +kernel
theorem dX11_wholes_58 : decode cX11_wholes 58 = .ok (.iand, 1) := by decide +kernel
theorem dX11_wholes_59 : decode cX11_wholes 59 = .ok (.istore 5, 2) := by decide +kernel
theorem dX11_wholes_61 : decode cX11_wholes 61 = .ok (.iload 6, 2) := by decide +kernel
theorem dX11_wholes_63 : decode cX11_wholes 63 = .ok (.iload 8, 2) := by decide +kernel
theorem dX11_wholes_65 : decode cX11_wholes 65 = .ok (.isub, 1) := by decide +kernel
theorem dX11_wholes_66 : decode cX11_wholes 66 = .ok (.istore 6, 2) := by decide +kernel
theorem dX11_wholes_68 : decode cX11_wholes 68 = .ok (.iinc 8 1, 3) := by decide +kernel
theorem dX11_wholes_71 : decode cX11_wholes 71 = .ok (.aload_n 0, 1) := by decide +kernel
theorem dX11_wholes_72 : decode cX11_wholes 72 = .ok (.getfield 14, 3) := by decide +kernel
theorem dX11_wholes_75 : decode cX11_wholes 75 = .ok (.iload_n 1, 1) := by decide +kernel
theorem dX11_wholes_76 : decode cX11_wholes 76 = .ok (.iconst 1, 1) := by decide +kernel
theorem dX11_wholes_77 : decode cX11_wholes 77 = .ok (.iadd, 1) := by decide +kernel
theorem dX11_wholes_78 : decode cX11_wholes 78 = .ok (.iload 7, 2) := by decide +kernel
theorem dX11_wholes_80 : decode cX11_wholes 80 = .ok (.iadd, 1) := by decide +kernel
theorem dX11_wholes_81 : decode cX11_wholes 81 = .ok (.iaload, 1) := by decide +kernel
theorem dX11_wholes_82 : decode cX11_wholes 82 = .ok (.istore 9, 2) := by decide +kernel
theorem dX11_wholes_84 : decode cX11_wholes 84 = .ok (.iload 9, 2) := by decide +kernel
theorem dX11_wholes_86 : decode cX11_wholes 86 = .ok (.bipush 10, 2) := by decide +kernel
theorem dX11_wholes_88 : decode cX11_wholes 88 = .ok (.if_icmp .ge 17, 3) := by decide +kernel
theorem dX11_wholes_91 : decode cX11_wholes 91 = .ok (.iload 8, 2) := by decide +kernel
theorem dX11_wholes_93 : decode cX11_wholes 93 = .ok (.iload 9, 2) := by decide +kernel
theorem dX11_wholes_95 : decode cX11_wholes 95 = .ok (.if_icmp .gt 10, 3) := by decide +kernel
theorem dX11_wholes_98 : decode cX11_wholes 98 = .ok (.iload 9, 2) := by decide +kernel
theorem dX11_wholes_100 : decode cX11_wholes 100 = .ok (.istore 8, 2) := by decide +kernel
theorem dX11_wholes_102 : decode cX11_wholes 102 = .ok (.goto 14, 3) := by decide +kernel
theorem dX11_wholes_105 : decode cX11_wholes 105 = .ok (.iload 9, 2) := by decide +kernel
theorem dX11_wholes_107 : decode cX11_wholes 107 = .ok (.bipush 10, 2) := by decide +kernel
theorem dX11_wholes_109 : decode cX11_wholes 109 = .ok (.if_icmp .ge 7, 3) := by decide +kernel
theorem dX11_wholes_112 : decode cX11_wholes 112 = .ok (.bipush 10, 2) := by decide +kernel
theorem dX11_wholes_114 : decode cX11_wholes 114 = .ok (.istore 8, 2) := by decide +kernel
theorem dX11_wholes_116 : decode cX11_wholes 116 = .ok (.iload 8, 2) := by decide +kernel
theorem dX11_wholes_118 : decode cX11_wholes 118 = .ok (.bipush 10, 2) := by decide +kernel
theorem dX11_wholes_120 : decode cX11_wholes 120 = .ok (.if_icmp .ge 51, 3) := by decide +kernel
theorem dX11_wholes_123 : decode cX11_wholes 123 = .ok (.iload 5, 2) := by decide +kernel
theorem dX11_wholes_125 : decode cX11_wholes 125 = .ok (.iload 7, 2) := by decide +kernel
theorem dX11_wholes_127 : decode cX11_wholes 127 = .ok (.iload 8, 2) := by decide +kernel
theorem dX11_wholes_129 : decode cX11_wholes 129 = .ok (.iadd, 1) := by decide +kernel
theorem dX11_wholes_130 : decode cX11_wholes 130 = .ok (.iload_n 3, 1) := by decide +kernel
theorem dX11_wholes_131 : decode cX11_wholes 131 = .ok (.irem, 1) := by decide +kernel
theorem dX11_wholes_132 : decode cX11_wholes 132 = .ok (.ishr, 1) := by decide +kernel
theorem dX11_wholes_133 : decode cX11_wholes 133 = .ok (.iconst 1, 1) := by decide +kernel
theorem dX11_wholes_134 : decode cX11_wholes 134 = .ok (.iand, 1) := by decide +kernel
theorem dX11_wholes_135 : decode cX11_wholes 135 = .ok (.iconst 1, 1) := by decide +kernel
theorem dX11_wholes_136 : decode cX11_wholes 136 = .ok (.if_icmp .eq 14, 3) := by decide +kernel
theorem dX11_wholes_139 : decode cX11_wholes 139 = .ok (.iload 6, 2) := by decide +kernel
theorem dX11_wholes_141 : decode cX11_wholes 141 = .ok (.iload 8, 2) := by decide +kernel
theorem dX11_wholes_143 : decode cX11_wholes 143 = .ok (.iadd, 1) := by decide +kernel
theorem dX11_wholes_144 : decode cX11_wholes 144 = .ok (.iload_n 2, 1) := by decide +kernel
theorem dX11_wholes_145 : decode cX11_wholes 145 = .ok (.iload_n 3, 1) := by decide +kernel
theorem dX11_wholes_146 : decode cX11_wholes 146 = .ok (.imul, 1) := by decide +kernel
theorem dX11_wholes_147 : decode cX11_wholes 147 = .ok (.if_icmp .le 24, 3) := by decide +kernel
theorem dX11_wholes_150 : decode cX11_wholes 150 = .ok (.iload 9, 2) := by decide +kernel
theorem dX11_wholes_152 : decode cX11_wholes 152 = .ok (.bipush 10, 2) := by decide +kernel
theorem dX11_wholes_154 : decode cX11_wholes 154 = .ok (.if_icmp .ge 8, 3) := by decide +kernel
theorem dX11_wholes_157 : decode cX11_wholes 157 = .ok (.bipush 10, 2) := by decide +kernel
theorem dX11_wholes_159 : decode cX11_wholes 159 = .ok (.goto 7, 3) := by decide +kernel
theorem dX11_wholes_162 : decode cX11_wholes 162 = .ok (.iload 8, 2) := by decide +kernel
theorem dX11_wholes_164 : decode cX11_wholes 164 = .ok (.iconst 1, 1) := by decide +kernel
theorem dX11_wholes_165 : decode cX11_wholes 165 = .ok (.iadd, 1) := by decide +kernel
theorem dX11_wholes_166 : decode cX11_wholes 166 = .ok (.istore 8, 2) := by decide +kernel
theorem dX11_wholes_168 : decode cX11_wholes 168 = .ok (.goto (-52), 3) := by decide +kernel
theorem dX11_wholes_171 : decode cX11_wholes 171 = .ok (.iload 8, 2) := by decide +kernel
theorem dX11_wholes_173 : decode cX11_wholes 173 = .ok (.bipush 9, 2) := by decide +kernel
theorem dX11_wholes_175 : decode cX11_wholes 175 = .ok (.if_icmp .le 9, 3) := by decide +kernel
theorem dX11_wholes_178 : decode cX11_wholes 178 = .ok (.iinc 7 (-1), 3) := by decide +kernel
theorem dX11_wholes_181 : decode cX11_wholes 181 = .ok (.goto (-155), 3) := by decide +kernel
theorem dX11_wholes_184 : decode cX11_wholes 184 = .ok (.aload_n 0, 1) := by decide +kernel
theorem dX11_wholes_185 : decode cX11_wholes 185 = .ok (.getfield 87, 3) := by decide +kernel
theorem dX11_wholes_188 : decode cX11_wholes 188 = .ok (.iload 7, 2) := by decide +kernel
theorem dX11_wholes_190 : decode cX11_wholes 190 = .ok (.iload 8, 2) := by decide +kernel
theorem dX11_wholes_192 : decode cX11_wholes 192 = .ok (.iastore, 1) := by decide +kernel
theorem dX11_wholes_193 : decode cX11_wholes 193 = .ok (.iload 5, 2) := by decide +kernel
theorem dX11_wholes_195 : decode cX11_wholes 195 = .ok (.iconst 1, 1) := by decide +kernel
theorem dX11_wholes_196 : decode cX11_wholes 196 = .ok (.iload 7, 2) := by decide +kernel
theorem dX11_wholes_198 : decode cX11_wholes 198 = .ok (.iload 8, 2) := by decide +kernel
theorem dX11_wholes_200 : decode cX11_wholes 200 = .ok (.iadd, 1) := by decide +kernel
theorem dX11_wholes_201 : decode cX11_wholes 201 = .ok (.iload_n 3, 1) := by decide +kernel
theorem dX11_wholes_202 : decode cX11_wholes 202 = .ok (.irem, 1) := by decide +kernel
theorem dX11_wholes_203 : decode cX11_wholes 203 = .ok (.ishl, 1) := by decide +kernel
theorem dX11_wholes_204 : decode cX11_wholes 204 = .ok (.ior, 1) := by decide +kernel
theorem dX11_wholes_205 : decode cX11_wholes 205 = .ok (.istore 5, 2) := by decide +kernel
theorem dX11_wholes_207 : decode cX11_wholes 207 = .ok (.iload 6, 2) := by decide +kernel
theorem dX11_wholes_209 : decode cX11_wholes 209 = .ok (.iload 8, 2) := by decide +kernel
theorem dX11_wholes_211 : decode cX11_wholes 211 = .ok (.iadd, 1) := by decide +kernel
theorem dX11_wholes_212 : decode cX11_wholes 212 = .ok (.istore 6, 2) := by decide +kernel
theorem dX11_wholes_214 : decode cX11_wholes 214 = .ok (.iload 7, 2) := by decide +kernel
theorem dX11_wholes_216 : decode cX11_wholes 216 = .ok (.iload_n 3, 1) := by decide +kernel
theorem dX11_wholes_217 : decode cX11_wholes 217 = .ok (.iconst 1, 1) := by decide +kernel
theorem dX11_wholes_218 : decode cX11_wholes 218 = .ok (.isub, 1) := by decide +kernel
theorem dX11_wholes_219 : decode cX11_wholes 219 = .ok (.if_icmp .ge 17, 3) := by decide +kernel
theorem dX11_wholes_222 : decode cX11_wholes 222 = .ok (.iinc 7 1, 3) := by decide +kernel
theorem dX11_wholes_225 : decode cX11_wholes 225 = .ok (.aload_n 0, 1) := by decide +kernel
theorem dX11_wholes_226 : decode cX11_wholes 226 = .ok (.getfield 87, 3) := by decide +kernel
theorem dX11_wholes_229 : decode cX11_wholes 229 = .ok (.iload 7, 2) := by decide +kernel
theorem dX11_wholes_231 : decode cX11_wholes 231 = .ok (.iconst (-1), 1) := by decide +kernel
theorem dX11_wholes_232 : decode cX11_wholes 232 = .ok (.iastore, 1) := by decide +kernel
theorem dX11_wholes_233 : decode cX11_wholes 233 = .ok (.goto (-207), 3) := by decide +kernel
theorem dX11_wholes_236 : decode cX11_wholes 236 = .ok (.iload 6, 2) := by decide +kernel
theorem dX11_wholes_238 : decode cX11_wholes 238 = .ok (.iload_n 2, 1) := by decide +kernel
theorem dX11_wholes_239 : decode cX11_wholes 239 = .ok (.iload_n 3, 1) := by decide +kernel
theorem dX11_wholes_240 : decode cX11_wholes 240 = .ok (.imul, 1) := by decide +kernel
theorem dX11_wholes_241 : decode cX11_wholes 241 = .ok (.if_icmp .eq 6, 3) := by decide +kernel
theorem dX11_wholes_244 : decode cX11_wholes 244 = .ok (.goto (-218), 3) := by decide +kernel
theorem dX11_wholes_247 : decode cX11_wholes 247 = .ok (.iconst 0, 1) := by decide +kernel
theorem dX11_wholes_248 : decode cX11_wholes 248 = .ok (.istore 10, 2) := by decide +kernel
theorem dX11_wholes_250 : decode cX11_wholes 250 = .ok (.iload 10, 2) := by decide +kernel
theorem dX11_wholes_252 : decode cX11_wholes 252 = .ok (.iload_n 3, 1) := by decide +kernel
theorem dX11_wholes_253 : decode cX11_wholes 253 = .ok (.if_icmp .ge 28, 3) := by decide +kernel
theorem dX11_wholes_256 : decode cX11_wholes 256 = .ok (.iload 4, 2) := by decide +kernel
theorem dX11_wholes_258 : decode cX11_wholes 258 = .ok (.ifCond .ne 23, 3) := by decide +kernel
theorem dX11_wholes_261 : decode cX11_wholes 261 = .ok (.aload_n 0, 1) := by decide +kernel
theorem dX11_wholes_262 : decode cX11_wholes 262 = .ok (.getfield 90, 3) := by decide +kernel
theorem dX11_wholes_265 : decode cX11_wholes 265 = .ok (.iload 10, 2) := by decide +kernel
theorem dX11_wholes_267 : decode cX11_wholes 267 = .ok (.aload_n 0, 1) := by decide +kernel
theorem dX11_wholes_268 : decode cX11_wholes 268 = .ok (.getfield 87, 3) := by decide +kernel
theorem dX11_wholes_271 : decode cX11_wholes 271 = .ok (.iload 10, 2) := by decide +kernel
theorem dX11_wholes_273 : decode cX11_wholes 273 = .ok (.iaload, 1) := by decide +kernel
theorem dX11_wholes_274 : decode cX11_wholes 274 = .ok (.iastore, 1) := by decide +kernel
theorem dX11_wholes_275 : decode cX11_wholes 275 = .ok (.iinc 10 1, 3) := by decide +kernel
theorem dX11_wholes_278 : decode cX11_wholes 278 = .ok (.goto (-28), 3) := by decide +kernel
theorem dX11_wholes_281 : decode cX11_wholes 281 = .ok (.iinc 4 1, 3) := by decide +kernel
theorem dX11_wholes_284 : decode cX11_wholes 284 = .ok (.goto (-258), 3) := by decide +kernel
theorem dX11_wholes_287 : decode cX11_wholes 287 = .ok (.iload 4, 2) := by decide +kernel
theorem dX11_wholes_289 : decode cX11_wholes 289 = .ok (.ireturn, 1) := by decide +kernel
theorem dX11_whole_0 : decode cX11_whole 0 = .ok (.aload_n 0, 1) := by decide +kernel
theorem dX11_whole_1 : decode cX11_whole 1 = .ok (.invokevirtual 323, 3) := by decide +kernel
theorem dX11_whole_4 : decode cX11_whole 4 = .ok (.istore_n 3, 1) := by decide +kernel
theorem dX11_whole_5 : decode cX11_whole 5 = .ok (.iload_n 3, 1) := by decide +kernel
theorem dX11_whole_6 : decode cX11_whole 6 = .ok (.ifCond .lt 18, 3) := by decide +kernel
theorem dX11_whole_9 : decode cX11_whole 9 = .ok (.iload_n 1, 1) := by decide +kernel
theorem dX11_whole_10 : decode cX11_whole 10 = .ok (.iconst 0, 1) := by decide +kernel
theorem dX11_whole_11 : decode cX11_whole 11 = .ok (.bipush 9, 2) := by decide +kernel
theorem dX11_whole_13 : decode cX11_whole 13 = .ok (.invokestatic 100, 3) := by decide +kernel
theorem dX11_whole_16 : decode cX11_whole 16 = .ok (.ifCond .eq 8, 3) := by decide +kernel
theorem dX11_whole_19 : decode cX11_whole 19 = .ok (.iload_n 2, 1) := by decide +kernel
theorem dX11_whole_20 : decode cX11_whole 20 = .ok (.iconst (-1), 1) := by decide +kernel
theorem dX11_whole_21 : decode cX11_whole 21 = .ok (.if_icmp .ge 5, 3) := by decide +kernel
theorem dX11_whole_24 : decode cX11_whole 24 = .ok (.iconst (-1), 1) := by decide +kernel
theorem dX11_whole_25 : decode cX11_whole 25 = .ok (.ireturn, 1) := by decide +kernel
theorem dX11_whole_26 : decode cX11_whole 26 = .ok (.aload_n 0, 1) := by decide +kernel
theorem dX11_whole_27 : decode cX11_whole 27 = .ok (.iload_n 3, 1) := by decide +kernel
theorem dX11_whole_28 : decode cX11_whole 28 = .ok (.iload_n 1, 1) := by decide +kernel
theorem dX11_whole_29 : decode cX11_whole 29 = .ok (.invokevirtual 326, 3) := by decide +kernel
theorem dX11_whole_32 : decode cX11_whole 32 = .ok (.istore 4, 2) := by decide +kernel
theorem dX11_whole_34 : decode cX11_whole 34 = .ok (.iload_n 2, 1) := by decide +kernel
theorem dX11_whole_35 : decode cX11_whole 35 = .ok (.iconst (-1), 1) := by decide +kernel
theorem dX11_whole_36 : decode cX11_whole 36 = .ok (.if_icmp .ne 8, 3) := by decide +kernel
theorem dX11_whole_39 : decode cX11_whole 39 = .ok (.iload 4, 2) := by decide +kernel
theorem dX11_whole_41 : decode cX11_whole 41 = .ok (.goto 28, 3) := by decide +kernel
theorem dX11_whole_44 : decode cX11_whole 44 = .ok (.iload 4, 2) := by decide +kernel
theorem dX11_whole_46 : decode cX11_whole 46 = .ok (.ifCond .le 22, 3) := by decide +kernel
theorem dX11_whole_49 : decode cX11_whole 49 = .ok (.iload_n 2, 1) := by decide +kernel
theorem dX11_whole_50 : decode cX11_whole 50 = .ok (.aload_n 0, 1) := by decide +kernel
theorem dX11_whole_51 : decode cX11_whole 51 = .ok (.getfield 14, 3) := by decide +kernel
theorem dX11_whole_54 : decode cX11_whole 54 = .ok (.iload_n 3, 1) := by decide +kernel
theorem dX11_whole_55 : decode cX11_whole 55 = .ok (.iaload, 1) := by decide +kernel
theorem dX11_whole_56 : decode cX11_whole 56 = .ok (.if_icmp .ge 12, 3) := by decide +kernel
theorem dX11_whole_59 : decode cX11_whole 59 = .ok (.aload_n 0, 1) := by decide +kernel
theorem dX11_whole_60 : decode cX11_whole 60 = .ok (.getfield 90, 3) := by decide +kernel
theorem dX11_whole_63 : decode cX11_whole 63 = .ok (.iload_n 2, 1) := by decide +kernel
theorem dX11_whole_64 : decode cX11_whole 64 = .ok (.iaload, 1) := by decide +kernel
theorem dX11_whole_65 : decode cX11_whole 65 = .ok (.goto 4, 3) := by decide +kernel
theorem dX11_whole_68 : decode cX11_whole 68 = .ok (.iconst (-1), 1) := by decide +kernel
theorem dX11_whole_69 : decode cX11_whole 69 = .ok (.ireturn, 1) := by decide +kernel
theorem dX11_drop_0 : decode cX11_drop 0 = .ok (.aload_n 0, 1) := by decide +kernel
theorem dX11_drop_1 : decode cX11_drop 1 = .ok (.iload_n 1, 1) := by decide +kernel
theorem dX11_drop_2 : decode cX11_drop 2 = .ok (.invokevirtual 277, 3) := by decide +kernel
theorem dX11_drop_5 : decode cX11_drop 5 = .ok (.istore 4, 2) := by decide +kernel
theorem dX11_drop_7 : decode cX11_drop 7 = .ok (.iload 4, 2) := by decide +kernel
theorem dX11_drop_9 : decode cX11_drop 9 = .ok (.ifCond .lt 44, 3) := by decide +kernel
theorem dX11_drop_12 : decode cX11_drop 12 = .ok (.iload_n 3, 1) := by decide +kernel
theorem dX11_drop_13 : decode cX11_drop 13 = .ok (.iconst 0, 1) := by decide +kernel
theorem dX11_drop_14 : decode cX11_drop 14 = .ok (.bipush 7, 2) := by decide +kernel
theorem dX11_drop_16 : decode cX11_drop 16 = .ok (.invokestatic 100, 3) := by decide +kernel
theorem dX11_drop_19 : decode cX11_drop 19 = .ok (.ifCond .eq 34, 3) := by decide +kernel
theorem dX11_drop_22 : decode cX11_drop 22 = .ok (.aload_n 0, 1) := by decide +kernel
theorem dX11_drop_23 : decode cX11_drop 23 = .ok (.getfield 185, 3) := by decide +kernel
theorem dX11_drop_26 : decode cX11_drop 26 = .ok (.bipush 60, 2) := by decide +kernel
theorem dX11_drop_28 : decode cX11_drop 28 = .ok (.if_icmp .eq 25, 3) := by decide +kernel
theorem dX11_drop_31 : decode cX11_drop 31 = .ok (.iload_n 2, 1) := by decide +kernel
theorem dX11_drop_32 : decode cX11_drop 32 = .ok (.ifCond .lt 21, 3) := by decide +kernel
theorem dX11_drop_35 : decode cX11_drop 35 = .ok (.aload_n 0, 1) := by decide +kernel
theorem dX11_drop_36 : decode cX11_drop 36 = .ok (.getfield 268, 3) := by decide +kernel
theorem dX11_drop_39 : decode cX11_drop 39 = .ok (.bipush 31, 2) := by decide +kernel
theorem dX11_drop_41 : decode cX11_drop 41 = .ok (.if_icmp .ge 14, 3) := by decide +kernel
theorem dX11_drop_44 : decode cX11_drop 44 = .ok (.iload_n 2, 1) := by decide +kernel
theorem dX11_drop_45 : decode cX11_drop 45 = .ok (.aload_n 0, 1) := by decide +kernel
theorem dX11_drop_46 : decode cX11_drop 46 = .ok (.getfield 268, 3) := by decide +kernel
theorem dX11_drop_49 : decode cX11_drop 49 = .ok (.ishr, 1) := by decide +kernel
theorem dX11_drop_50 : decode cX11_drop 50 = .ok (.ifCond .eq 5, 3) := by decide +kernel
theorem dX11_drop_53 : decode cX11_drop 53 = .ok (.iconst (-1), 1) := by decide +kernel
theorem dX11_drop_54 : decode cX11_drop 54 = .ok (.ireturn, 1) := by decide +kernel
theorem dX11_drop_55 : decode cX11_drop 55 = .ok (.aload_n 0, 1) := by decide +kernel
theorem dX11_drop_56 : decode cX11_drop 56 = .ok (.dup, 1) := by decide +kernel
theorem dX11_drop_57 : decode cX11_drop 57 = .ok (.getfield 185, 3) := by decide +kernel
theorem dX11_drop_60 : decode cX11_drop 60 = .ok (.iconst 1, 1) := by decide +kernel
theorem dX11_drop_61 : decode cX11_drop 61 = .ok (.iadd, 1) := by decide +kernel
theorem dX11_drop_62 : decode cX11_drop 62 = .ok (.putfield 185, 3) := by decide +kernel
theorem dX11_drop_65 : decode cX11_drop 65 = .ok (.aload_n 0, 1) := by decide +kernel
theorem dX11_drop_66 : decode cX11_drop 66 = .ok (.getfield 185, 3) := by decide +kernel
theorem dX11_drop_69 : decode cX11_drop 69 = .ok (.iload_n 3, 1) := by decide +kernel
theorem dX11_drop_70 : decode cX11_drop 70 = .ok (.invokestatic 96, 3) := by decide +kernel
theorem dX11_drop_73 : decode cX11_drop 73 = .ok (.istore 5, 2) := by decide +kernel
theorem dX11_drop_75 : decode cX11_drop 75 = .ok (.aload_n 0, 1) := by decide +kernel
theorem dX11_drop_76 : decode cX11_drop 76 = .ok (.getfield 8, 3) := by decide +kernel
theorem dX11_drop_79 : decode cX11_drop 79 = .ok (.iload 5, 2) := by decide +kernel
theorem dX11_drop_81 : decode cX11_drop 81 = .ok (.aload_n 0, 1) := by decide +kernel
theorem dX11_drop_82 : decode cX11_drop 82 = .ok (.getfield 8, 3) := by decide +kernel
theorem dX11_drop_85 : decode cX11_drop 85 = .ok (.iload 4, 2) := by decide +kernel
theorem dX11_drop_87 : decode cX11_drop 87 = .ok (.iaload, 1) := by decide +kernel
theorem dX11_drop_88 : decode cX11_drop 88 = .ok (.iastore, 1) := by decide +kernel
theorem dX11_drop_89 : decode cX11_drop 89 = .ok (.iconst 0, 1) := by decide +kernel
theorem dX11_drop_90 : decode cX11_drop 90 = .ok (.istore 6, 2) := by decide +kernel
theorem dX11_drop_92 : decode cX11_drop 92 = .ok (.iload 6, 2) := by decide +kernel
theorem dX11_drop_94 : decode cX11_drop 94 = .ok (.bipush 6, 2) := by decide +kernel
theorem dX11_drop_96 : decode cX11_drop 96 = .ok (.aload_n 0, 1) := by decide +kernel
theorem dX11_drop_97 : decode cX11_drop 97 = .ok (.getfield 8, 3) := by decide +kernel
theorem dX11_drop_100 : decode cX11_drop 100 = .ok (.iload 4, 2) := by decide +kernel
theorem dX11_drop_102 : decode cX11_drop 102 = .ok (.iaload, 1) := by decide +kernel
theorem dX11_drop_103 : decode cX11_drop 103 = .ok (.imul, 1) := by decide +kernel
theorem dX11_drop_104 : decode cX11_drop 104 = .ok (.if_icmp .ge 86, 3) := by decide +kernel
theorem dX11_drop_107 : decode cX11_drop 107 = .ok (.aload_n 0, 1) := by decide +kernel
theorem dX11_drop_108 : decode cX11_drop 108 = .ok (.getfield 63, 3) := by decide +kernel
theorem dX11_drop_111 : decode cX11_drop 111 = .ok (.iload 6, 2) := by decide +kernel
theorem dX11_drop_113 : decode cX11_drop 113 = .ok (.iaload, 1) := by decide +kernel
theorem dX11_drop_114 : decode cX11_drop 114 = .ok (.ifCond .lt 34, 3) := by decide +kernel
theorem dX11_drop_117 : decode cX11_drop 117 = .ok (.aload_n 0, 1) := by decide +kernel
theorem dX11_drop_118 : decode cX11_drop 118 = .ok (.getfield 63, 3) := by decide +kernel
theorem dX11_drop_121 : decode cX11_drop 121 = .ok (.iload 6, 2) := by decide +kernel
theorem dX11_drop_123 : decode cX11_drop 123 = .ok (.iaload, 1) := by decide +kernel
theorem dX11_drop_124 : decode cX11_drop 124 = .ok (.bipush 31, 2) := by decide +kernel
theorem dX11_drop_126 : decode cX11_drop 126 = .ok (.if_icmp .ge 22, 3) := by decide +kernel
theorem dX11_drop_129 : decode cX11_drop 129 = .ok (.iload_n 2, 1) := by decide +kernel
theorem dX11_drop_130 : decode cX11_drop 130 = .ok (.aload_n 0, 1) := by decide +kernel
theorem dX11_drop_131 : decode cX11_drop 131 = .ok (.getfield 63, 3) := by decide +kernel
theorem dX11_drop_134 : decode cX11_drop 134 = .ok (.iload 6, 2) := by decide +kernel
theorem dX11_drop_136 : decode cX11_drop 136 = .ok (.iaload, 1) := by decide +kernel
theorem dX11_drop_137 : decode cX11_drop 137 = .ok (.ishr, 1) := by decide +kernel
theorem dX11_drop_138 : decode cX11_drop 138 = .ok (.iconst 1, 1) := by decide +kernel
theorem dX11_drop_139 : decode cX11_drop 139 = .ok (.iand, 1) := by decide +kernel
theorem dX11_drop_140 : decode cX11_drop 140 = .ok (.iconst 1, 1) := by decide +kernel
theorem dX11_drop_141 : decode cX11_drop 141 = .ok (.if_icmp .ne 7, 3) := by decide +kernel
theorem dX11_drop_144 : decode cX11_drop 144 = .ok (.iconst 1, 1) := by decide +kernel
theorem dX11_drop_145 : decode cX11_drop 145 = .ok (.goto 4, 3) := by decide +kernel
theorem dX11_drop_148 : decode cX11_drop 148 = .ok (.iconst 0, 1) := by decide +kernel
theorem dX11_drop_149 : decode cX11_drop 149 = .ok (.istore 7, 2) := by decide +kernel
theorem dX11_drop_151 : decode cX11_drop 151 = .ok (.aload_n 0, 1) := by decide +kernel
theorem dX11_drop_152 : decode cX11_drop 152 = .ok (.getfield 8, 3) := by decide +kernel
theorem dX11_drop_155 : decode cX11_drop 155 = .ok (.iload 5, 2) := by decide +kernel
theorem dX11_drop_157 : decode cX11_drop 157 = .ok (.iconst 1, 1) := by decide +kernel
theorem dX11_drop_158 : decode cX11_drop 158 = .ok (.iadd, 1) := by decide +kernel
theorem dX11_drop_159 : decode cX11_drop 159 = .ok (.iload 6, 2) := by decide +kernel
theorem dX11_drop_161 : decode cX11_drop 161 = .ok (.iadd, 1) := by decide +kernel
theorem dX11_drop_162 : decode cX11_drop 162 = .ok (.iload 7, 2) := by decide +kernel
theorem dX11_drop_164 : decode cX11_drop 164 = .ok (.ifCond .eq 7, 3) := by decide +kernel
theorem dX11_drop_167 : decode cX11_drop 167 = .ok (.iconst 0, 1) := by decide +kernel
theorem dX11_drop_168 : decode cX11_drop 168 = .ok (.goto 15, 3) := by decide +kernel
theorem dX11_drop_171 : decode cX11_drop 171 = .ok (.aload_n 0, 1) := by decide +kernel
theorem dX11_drop_172 : decode cX11_drop 172 = .ok (.getfield 8, 3) := by decide +kernel
theorem dX11_drop_175 : decode cX11_drop 175 = .ok (.iload 4, 2) := by decide +kernel
theorem dX11_drop_177 : decode cX11_drop 177 = .ok (.iconst 1, 1) := by decide +kernel
theorem dX11_drop_178 : decode cX11_drop 178 = .ok (.iadd, 1) := by decide +kernel
theorem dX11_drop_179 : decode cX11_drop 179 = .ok (.iload 6, 2) := by decide +kernel
theorem dX11_drop_181 : decode cX11_drop 181 = .ok (.iadd, 1) := by decide +kernel
theorem dX11_drop_182 : decode cX11_drop 182 = .ok (.iaload, 1) := by decide +kernel
theorem dX11_drop_183 : decode cX11_drop 183 = .ok (.iastore, 1) := by decide +kernel
theorem dX11_drop_184 : decode cX11_drop 184 = .ok (.iinc 6 1, 3) := by decide +kernel
theorem dX11_drop_187 : decode cX11_drop 187 = .ok (.goto (-95), 3) := by decide +kernel
theorem dX11_drop_190 : decode cX11_drop 190 = .ok (.iconst 0, 1) := by decide +kernel
theorem dX11_drop_191 : decode cX11_drop 191 = .ok (.istore 6, 2) := by decide +kernel
theorem dX11_drop_193 : decode cX11_drop 193 = .ok (.iload 6, 2) := by decide +kernel
theorem dX11_drop_195 : decode cX11_drop 195 = .ok (.iconst 3, 1) := by decide +kernel
theorem dX11_drop_196 : decode cX11_drop 196 = .ok (.aload_n 0, 1) := by decide +kernel
theorem dX11_drop_197 : decode cX11_drop 197 = .ok (.getfield 8, 3) := by decide +kernel
theorem dX11_drop_200 : decode cX11_drop 200 = .ok (.iload 4, 2) := by decide +kernel
theorem dX11_drop_202 : decode cX11_drop 202 = .ok (.iaload, 1) := by decide +kernel
theorem dX11_drop_203 : decode cX11_drop 203 = .ok (.imul, 1) := by decide +kernel
theorem dX11_drop_204 : decode cX11_drop 204 = .ok (.if_icmp .ge 25, 3) := by decide +kernel
theorem dX11_drop_207 : decode cX11_drop 207 = .ok (.aload_n 0, 1) := by decide +kernel
theorem dX11_drop_208 : decode cX11_drop 208 = .ok (.getfield 8, 3) := by decide +kernel
theorem dX11_drop_211 : decode cX11_drop 211 = .ok (.iload 5, 2) := by decide +kernel
theorem dX11_drop_213 : decode cX11_drop 213 = .ok (.iconst 1, 1) := by decide +kernel
theorem dX11_drop_214 : decode cX11_drop 214 = .ok (.iadd, 1) := by decide +kernel
theorem dX11_drop_215 : decode cX11_drop 215 = .ok (.iconst 2, 1) := by decide +kernel
theorem dX11_drop_216 : decode cX11_drop 216 = .ok (.iload 6, 2) := by decide +kernel
theorem dX11_drop_218 : decode cX11_drop 218 = .ok (.imul, 1) := by decide +kernel
theorem dX11_drop_219 : decode cX11_drop 219 = .ok (.iadd, 1) := by decide +kernel
theorem dX11_drop_220 : decode cX11_drop 220 = .ok (.invokestatic 172, 3) := by decide +kernel
theorem dX11_drop_223 : decode cX11_drop 223 = .ok (.iinc 6 1, 3) := by decide +kernel
theorem dX11_drop_226 : decode cX11_drop 226 = .ok (.goto (-33), 3) := by decide +kernel
theorem dX11_drop_229 : decode cX11_drop 229 = .ok (.aload_n 0, 1) := by decide +kernel
theorem dX11_drop_230 : decode cX11_drop 230 = .ok (.aload_n 0, 1) := by decide +kernel
theorem dX11_drop_231 : decode cX11_drop 231 = .ok (.getfield 185, 3) := by decide +kernel
theorem dX11_drop_234 : decode cX11_drop 234 = .ok (.putfield 104, 3) := by decide +kernel
theorem dX11_drop_237 : decode cX11_drop 237 = .ok (.aload_n 0, 1) := by decide +kernel
theorem dX11_drop_238 : decode cX11_drop 238 = .ok (.getfield 185, 3) := by decide +kernel
theorem dX11_drop_241 : decode cX11_drop 241 = .ok (.ireturn, 1) := by decide +kernel
set_option maxRecDepth 20000 in
theorem ggX11_whole_X11_seenRow : GoodIn wsX11_whole wsX11_seenRow := goodIn_r _ [7, 8, 1, 17, 18, 19, 20, 21, 22, 23, 24, 25, 26, 27, 28, 29, 30, 31, 32, 33, 34, 35, 36, 37, 38, 39, 40, 41, 42, 43, 44, 45, 46, 47, 48, 49, 50, 51, 52, 53, 54, 55, 56, 57, 58, 59, 60, 61, 62, 63] (by decide +kernel) (by decide +kernel)
set_option maxRecDepth 20000 in
theorem gX11_whole_X11_seenRow : GoodIn wsX11_whole (wsV RX11 323 RX11 yX11_seenRow wsX11_seenRow) := goodIn_app (goodIn_of _ (by decide +kernel)) ggX11_whole_X11_seenRow
set_option maxRecDepth 20000 in
theorem ggX11_whole_X11_isIn : GoodIn wsX11_whole wsX11_isIn := goodIn_r _ [11] (by decide +kernel) (by decide +kernel)
set_option maxRecDepth 20000 in
theorem gX11_whole_X11_isIn : GoodIn wsX11_whole (va_wsS RX11 100 yX11_isIn wsX11_isIn) := goodIn_app (goodIn_of _ (by decide +kernel)) ggX11_whole_X11_isIn
set_option maxRecDepth 20000 in
theorem ggX11_whole_X11_wholes : GoodIn wsX11_whole wsX11_wholes := goodIn_r _ [15, 1, 16, 2, 17, 18, 19, 20, 21, 22, 23, 24, 25, 26, 27, 28, 29, 30, 31, 32, 33, 34, 35, 36, 37, 38, 39, 40, 41, 42, 43, 44, 45, 46, 47, 48, 49, 50, 51, 52, 53, 54, 55, 56, 57, 58, 59, 60, 61, 62, 63] (by decide +kernel) (by decide +kernel)
set_option maxRecDepth 20000 in
theorem gX11_whole_X11_wholes : GoodIn wsX11_whole (wsV RX11 326 RX11 yX11_wholes wsX11_wholes) := goodIn_app (goodIn_of _ (by decide +kernel)) ggX11_whole_X11_wholes
set_option maxRecDepth 100000 in
set_option maxHeartbeats 4000000 in
theorem ggX11_drop_X11_tied : GoodIn wsX11_drop wsX11_tied := goodIn_r _ [10, 11, 12, 13, 9, 14, 5, 15, 16, 17, 18, 19, 20, 21, 3, 22, 23, 24, 25, 26, 27, 28, 29, 30, 31, 32, 33, 34, 35, 36, 37, 38, 39, 40, 41, 42, 43, 44, 45, 46, 47, 48, 49, 4, 50, 51, 2, 52, 53, 54, 55, 56, 57, 58, 59, 60, 61, 62, 63, 67, 68, 69, 70, 71, 72, 73, 74, 75, 76, 77, 78, 79, 80, 81, 82, 83, 84, 85, 86, 87, 88, 89, 90, 91, 92, 93, 94, 95, 96, 97, 98, 99, 100, 101, 102, 103, 104, 105, 106, 107, 108, 109, 110, 111, 112, 113] (by with_unfolding_all rfl) (by decide +kernel)
set_option maxRecDepth 20000 in
theorem gX11_drop_X11_tied : GoodIn wsX11_drop (wsV RX11 277 RX11 yX11_tied wsX11_tied) := goodIn_app (goodIn_of _ (by decide +kernel)) ggX11_drop_X11_tied
set_option maxRecDepth 20000 in
theorem ggX11_drop_X11_isIn : GoodIn wsX11_drop wsX11_isIn := goodIn_r _ [17] (by decide +kernel) (by decide +kernel)
set_option maxRecDepth 20000 in
theorem gX11_drop_X11_isIn : GoodIn wsX11_drop (va_wsS RX11 100 yX11_isIn wsX11_isIn) := goodIn_app (goodIn_of _ (by decide +kernel)) ggX11_drop_X11_isIn
set_option maxRecDepth 20000 in
theorem ggX11_drop_X11_rowAt : GoodIn wsX11_drop wsX11_rowAt := goodIn_r _ [24] (by decide +kernel) (by decide +kernel)
set_option maxRecDepth 20000 in
theorem gX11_drop_X11_rowAt : GoodIn wsX11_drop (va_wsS RX11 96 yX11_rowAt wsX11_rowAt) := goodIn_app (goodIn_of _ (by decide +kernel)) ggX11_drop_X11_rowAt
set_option maxRecDepth 20000 in
theorem ggX11_drop_X11_order : GoodIn wsX11_drop wsX11_order := goodIn_r _ [66] (by decide +kernel) (by decide +kernel)
set_option maxRecDepth 20000 in
theorem gX11_drop_X11_order : GoodIn wsX11_drop (va_wsS RX11 172 yX11_order wsX11_order) := goodIn_app (goodIn_of _ (by decide +kernel)) ggX11_drop_X11_order
/-- how far the search for whole rows still may go -/
def wh_W (j : Nat) : Int := 12 ^ (6 - j)
def wh_M (c : Nat → Int32) : Nat → Int
  | 0 => 0
  | m + 1 => wh_M c m + (10 - (c m).toInt) * wh_W m
theorem wh_Wt : ∀ j : Nat, j < 7 → 1 ≤ wh_W j := by decide
theorem wh_Ws : ∀ j : Nat, j < 6 → wh_W j = 12 * wh_W (j + 1) := by decide
theorem wh_Wp {i : Int} (h0 : 0 ≤ i) (h1 : i ≤ 6) : 1 ≤ wh_W i.toNat := wh_Wt _ (by omega)
theorem wh_s {c : Nat → Int32} {i : Int} (h : 0 ≤ i) : wh_M c (i + 1).toNat = wh_M c i.toNat + (10 - (c i.toNat).toInt) * wh_W i.toNat := by
  rw [show (i + 1).toNat = i.toNat + 1 by omega]; rfl
theorem wh_same {c g : Nat → Int32} (m : Nat) (h : ∀ j, j < m → g j = c j) : wh_M g m = wh_M c m := by
  induction m with
  | zero => rfl
  | succ m ih =>
    show wh_M g m + (10 - (g m).toInt) * wh_W m = wh_M c m + (10 - (c m).toInt) * wh_W m
    rw [ih (fun j hj => h j (by omega)), h m (by omega)]
theorem wh_nn {c : Nat → Int32} {i : Int} (hi : i ≤ 6) (h : ∀ j : Int, 0 ≤ j → j ≤ i → -1 ≤ (c j.toNat).toInt ∧ (c j.toNat).toInt ≤ 9) (m : Nat) (hm : (m : Int) ≤ i + 1) : 0 ≤ wh_M c m := by
  induction m with
  | zero => exact Int.le_refl 0
  | succ m ih =>
    have h1 := ih (by omega)
    have h2 := h m (by omega) (by omega)
    have h3 := wh_Wt m (by omega)
    rw [Int.toNat_natCast] at h2
    have h4 : 0 ≤ (10 - (c m).toInt) * wh_W m := Int.mul_nonneg (by omega) (by omega)
    show 0 ≤ wh_M c m + (10 - (c m).toInt) * wh_W m
    omega
/-- back by one -/
theorem wh_A {c : Nat → Int32} {i : Int} (h0 : 0 ≤ i) (hi : i ≤ 6) (h : ∀ j : Int, 0 ≤ j → j ≤ i → -1 ≤ (c j.toNat).toInt ∧ (c j.toNat).toInt ≤ 9) : 0 ≤ wh_M c i.toNat ∧ wh_M c i.toNat + wh_W i.toNat ≤ wh_M c (i + 1).toNat := by
  have h1 := wh_nn hi h i.toNat (by omega)
  have h2 := h i h0 (Int.le_refl i)
  have h3 := wh_Wp h0 hi
  have h4 : 1 * wh_W i.toNat ≤ (10 - (c i.toNat).toInt) * wh_W i.toNat := Int.mul_le_mul_of_nonneg_right (by omega) (by omega)
  rw [wh_s h0]
  omega
/-- on at the same place -/
theorem wh_C {c g : Nat → Int32} {i : Int} {v : Int32} (h0 : 0 ≤ i) (hi : i ≤ 6) (hg : g = upd c i.toNat v) (hv : (c i.toNat).toInt + 1 ≤ v.toInt) : wh_M g (i + 1).toNat + wh_W i.toNat ≤ wh_M c (i + 1).toNat := by
  have h3 := wh_Wp h0 hi
  have h4 : (10 - v.toInt + 1) * wh_W i.toNat ≤ (10 - (c i.toNat).toInt) * wh_W i.toNat := Int.mul_le_mul_of_nonneg_right (by omega) (by omega)
  rw [Int.add_mul, Int.one_mul] at h4
  rw [wh_s h0, wh_s h0, wh_same (c := c) (g := g) i.toNat (fun j hj => by rw [hg, pk_un (by omega)]), hg, pk_us]
  omega
/-- one further -/
theorem wh_B {c g g2 : Nat → Int32} {i : Int} {v : Int32} (h0 : 0 ≤ i) (hi : i ≤ 5) (hg : g = upd c i.toNat v) (hv : (c i.toNat).toInt + 1 ≤ v.toInt) (hg2 : g2 = upd g (i + 1).toNat (-1)) : wh_M g2 (i + 2).toNat + wh_W (i + 1).toNat ≤ wh_M c (i + 1).toNat := by
  have h1 := wh_C h0 (by omega) hg hv
  have h2 := wh_Ws i.toNat (by omega)
  rw [show i.toNat + 1 = (i + 1).toNat by omega] at h2
  have h3 := wh_Wp (i := i + 1) (by omega) (by omega)
  have h4 : wh_M g2 (i + 1 + 1).toNat = wh_M g2 (i + 1).toNat + (10 - (g2 (i + 1).toNat).toInt) * wh_W (i + 1).toNat := wh_s (by omega)
  rw [wh_same (c := g) (g := g2) (i + 1).toNat (fun j hj => by rw [hg2, pk_un (by omega)]), hg2, pk_us, show ((-1 : Int32)).toInt = -1 by decide, ← hg2] at h4
  rw [show i + 2 = i + 1 + 1 by omega, h4]
  omega
set_option maxRecDepth 100000 in
set_option maxHeartbeats 4000000 in
theorem k_wholes (l : Launch) (D : va_G) (cI cR cM : ClassId) (sz : Nat) {jn mm : Nat} {q : Nat → Nat} {x0 x1 x2 x3 x4 x5 x6 x7 x8 x9 x10 x11 x12 x13 x14 x15 x16 x17 x18 x19 x20 : Int32} {f0 f1 f2 f3 f4 f5 f6 f7 f8 f9 f10 f11 f12 f13 f14 f15 f16 f17 f18 f19 f20 f21 f22 f23 f24 : Nat → Int32} {a b : Int32}  (hs9 : IsSeen f1 a.toInt) : Met l yX11_wholes wsX11_wholes ({ frames := 0, cells := 0, slots := 0, locals := 0 }) (P0 D cI cR cM [.ref mm, .int a, .int b] sz (mX mm q jn cI x0 x1 x2 x3 x4 x5 x6 x7 x8 x9 x10 x11 x12 x13 x14 x15 x16 x17 x18 x19 x20 f0 f1 f2 f3 f4 f5 f6 f7 f8 f9 f10 f11 f12 f13 f14 f15 f16 f17 f18 f19 f20 f21 f22 f23 f24)) (QG (S := Int32 × (Nat → Int32) × (Nat → Int32)) (fun u => some (.int u.1)) (fun u => mX mm q jn cI x0 x1 x2 x3 x4 x5 x6 x7 x8 x9 x10 x11 x12 x13 x14 x15 x16 x17 x18 x19 x20 f0 f1 f2 f3 f4 f5 f6 f7 f8 f9 f10 f11 f12 f13 f14 f15 f16 f17 f18 f19 f20 f21 f22 (u.2.1) (u.2.2)) (fun u => True) D (va_A (mX mm q jn cI x0 x1 x2 x3 x4 x5 x6 x7 x8 x9 x10 x11 x12 x13 x14 x15 x16 x17 x18 x19 x20 f0 f1 f2 f3 f4 f5 f6 f7 f8 f9 f10 f11 f12 f13 f14 f15 f16 f17 f18 f19 f20 f21 f22 f23 f24) sz)) 0 0 (va_A (mX mm q jn cI x0 x1 x2 x3 x4 x5 x6 x7 x8 x9 x10 x11 x12 x13 x14 x15 x16 x17 x18 x19 x20 f0 f1 f2 f3 f4 f5 f6 f7 f8 f9 f10 f11 f12 f13 f14 f15 f16 f17 f18 f19 f20 f21 f22 f23 f24) sz) := by
  refine go (cc := cX11_wholes) (maxL := 11) (ret := (some .int)) (by decide) rfl (Nat.le_of_ble_eq_true rfl) ?_
  intro p e s m below meth c ls args Q hQ hsz hx hb hr hml hts hown hlocks hnm hP hK hD hl
  subst hsz
  have hD := hD.self (sz := s.heap.size)
  generalize hAe : va_A (mX mm q jn cI x0 x1 x2 x3 x4 x5 x6 x7 x8 x9 x10 x11 x12 x13 x14 x15 x16 x17 x18 x19 x20 f0 f1 f2 f3 f4 f5 f6 f7 f8 f9 f10 f11 f12 f13 f14 f15 f16 f17 f18 f19 f20 f21 f22 f23 f24) s.heap.size = A at hD hQ
  have hA : ∀ q, s.heap.size ≤ q → A q := fun q h => by rw [← hAe]; exact Or.inr h
  have hS : va_S A s.heap s.heap [] := va_S.rf
  have hl : lv_has ls 11 [(0, .ref mm), (1, .int a), (2, .int b)] := hl
  obtain ⟨hs1, hs2, hs3, hs4, hs5⟩ := hs9
  refine lv_aload_n hx hb dX11_wholes_0 rfl (lv_at hl 0 rfl) ?_
  refine va_get (D := D) (ci := 11) (v := .ref (q 1)) (C := RX11) (T := TX11) (N := 47) hx hb hts (by decide +kernel) hown hK.1 hP 0 rfl rfl 2 (by decide) (hts (.fieldLink RX11 14 "JugglingHallModel" "seenRows" "[I") (by decide +kernel)) (fun _ h9 => h9) rfl dX11_wholes_1 ?_
  refine lv_iload_n hx hb dX11_wholes_4 rfl (lv_at hl 1 rfl) ?_
  refine a_iald (f := f1) (u := a.toInt) hx hb hK.1 hP 2 0 rfl rfl dX11_wholes_5 (rfl) (by omega) (fun z_1 q_1 e_1 => ?_)
  have hn9 : z_1.toInt = (f1 a.toInt.toNat).toInt := e_1
  refine lv_istore_n (lv' := [(3, .int z_1), (0, .ref mm), (1, .int a), (2, .int b)]) hx hb dX11_wholes_6 rfl hl (by decide) rfl (fun ls hl => ?_)
  refine lv_iconst (v := 0) hx hb dX11_wholes_7 (by decide) ?_
  refine lv_istore (lv' := [(4, .int 0), (3, .int z_1), (0, .ref mm), (1, .int a), (2, .int b)]) hx hb dX11_wholes_8 hl (by decide) rfl (fun ls hl => ?_)
  refine lv_iconst (v := 0) hx hb dX11_wholes_10 (by decide) ?_
  refine lv_istore (lv' := [(5, .int 0), (4, .int 0), (3, .int z_1), (0, .ref mm), (1, .int a), (2, .int b)]) hx hb dX11_wholes_11 hl (by decide) rfl (fun ls hl => ?_)
  refine lv_iconst (v := 0) hx hb dX11_wholes_13 (by decide) ?_
  refine lv_istore (lv' := [(6, .int 0), (5, .int 0), (4, .int 0), (3, .int z_1), (0, .ref mm), (1, .int a), (2, .int b)]) hx hb dX11_wholes_14 hl (by decide) rfl (fun ls hl => ?_)
  refine lv_iconst (v := 0) hx hb dX11_wholes_16 (by decide) ?_
  refine lv_istore (lv' := [(7, .int 0), (6, .int 0), (5, .int 0), (4, .int 0), (3, .int z_1), (0, .ref mm), (1, .int a), (2, .int b)]) hx hb dX11_wholes_17 hl (by decide) rfl (fun ls hl => ?_)
  refine lv_aload_n hx hb dX11_wholes_19 rfl (lv_at hl 5 rfl) ?_
  refine va_get (D := D) (ci := 11) (v := .ref (q 23)) (C := RX11) (T := TX11) (N := 47) hx hb hts (by decide +kernel) hown hK.1 hP 0 rfl rfl 45 (by decide) (hts (.fieldLink RX11 87 "JugglingHallModel" "chosen" "[I") (by decide +kernel)) (fun _ h9 => h9) rfl dX11_wholes_20 ?_
  refine lv_iconst (v := 0) hx hb dX11_wholes_23 (by decide) ?_
  refine lv_iconst (v := (-1)) hx hb dX11_wholes_24 (by decide) ?_
  refine ma_23 (u := 0) hx hb hK hP hD hS dX11_wholes_25 (by decide) (by omega) (fun g_2 H locs eg_2 hP hD hS => ?_)
  have loop26 : ∀ (ddloop26 : Nat) (mn : Int32) (us : Int32) (sm : Int32) (i : Int32) (ga : (Nat → Int32)) (gz : (Nat → Int32)) (H : Heap) (locs : List Loc) (ls : Array Slot), (wh_M ga (i.toInt + 1).toNat).toNat < ddloop26 → (-1 ≤ i.toInt ∧ i.toInt < (f1 a.toInt.toNat).toInt) → (∀ j9 : Int, 0 ≤ j9 → j9 ≤ i.toInt → -1 ≤ (ga j9.toNat).toInt ∧ (ga j9.toNat).toInt ≤ 9) → va_P D vwCl (mX mm q jn cI x0 x1 x2 x3 x4 x5 x6 x7 x8 x9 x10 x11 x12 x13 x14 x15 x16 x17 x18 x19 x20 f0 f1 f2 f3 f4 f5 f6 f7 f8 f9 f10 f11 f12 f13 f14 f15 f16 f17 f18 f19 f20 f21 f22 ga gz) H → va_D A (mX mm q jn cI x0 x1 x2 x3 x4 x5 x6 x7 x8 x9 x10 x11 x12 x13 x14 x15 x16 x17 x18 x19 x20 f0 f1 f2 f3 f4 f5 f6 f7 f8 f9 f10 f11 f12 f13 f14 f15 f16 f17 f18 f19 f20 f21 f22 ga gz) → va_S A s.heap H locs → lv_has ls 11 [(0, .ref mm), (1, .int a), (2, .int b), (3, .int z_1), (4, .int mn), (5, .int us), (6, .int sm), (7, .int i)] → W p l e ({ frames := 0, cells := 0, slots := 0, locals := 0 }) s m args below meth c H locs 0 0 Q (F0 m 26 ls []) := by
    intro ddloop26
    induction ddloop26 with
    | zero =>
      intro mn us sm i ga gz H locs ls hdd
      exact absurd hdd (Nat.not_lt_zero _)
    | succ ddloop26 ih26 =>
      intro mn us sm i ga gz H locs ls hdd hi hch hP hD hS hl
      refine lv_iload hx hb dX11_wholes_26 (lv_at hl 7 rfl) ?_
      refine a_if_lt (u := i.toInt) (tgt := 287) hx hb dX11_wholes_28 (by decide) (rfl) (fun c_3 => ?_) (fun c_3 => ?_)
      · refine lv_iload hx hb dX11_wholes_287 (lv_at hl 4 rfl) ?_
        exact g_iret (mn, ga, gz) hx hb hr hlocks hS rfl (trivial) hP hD hQ (Nat.le_of_ble_eq_true rfl) (Nat.le_of_ble_eq_true rfl) dX11_wholes_289
      · refine lv_aload_n hx hb dX11_wholes_31 rfl (lv_at hl 0 rfl) ?_
        refine va_get (D := D) (ci := 11) (v := .ref (q 23)) (C := RX11) (T := TX11) (N := 47) hx hb hts (by decide +kernel) hown hK.1 hP 0 rfl rfl 45 (by decide) (hts (.fieldLink RX11 87 "JugglingHallModel" "chosen" "[I") (by decide +kernel)) (fun _ h9 => h9) rfl dX11_wholes_32 ?_
        refine lv_iload hx hb dX11_wholes_35 (lv_at hl 7 rfl) ?_
        refine a_iald (f := ga) (u := i.toInt) hx hb hK.1 hP 24 0 rfl rfl dX11_wholes_37 (rfl) (by omega) (fun z_4 q_4 e_4 => ?_)
        have hci := hch i.toInt (by omega) (by omega)
        refine lv_istore (lv' := [(8, .int z_4), (0, .ref mm), (1, .int a), (2, .int b), (3, .int z_1), (4, .int mn), (5, .int us), (6, .int sm), (7, .int i)]) hx hb dX11_wholes_38 hl (by decide) rfl (fun ls hl => ?_)
        have join5 : ∀ (us2 : Int32) (sm2 : Int32) (h8 : Int32) (mk : Int32) (H : Heap) (locs : List Loc) (ls : Array Slot), ((ga i.toInt.toNat).toInt + 1 ≤ h8.toInt ∧ h8.toInt ≤ 10) → va_P D vwCl (mX mm q jn cI x0 x1 x2 x3 x4 x5 x6 x7 x8 x9 x10 x11 x12 x13 x14 x15 x16 x17 x18 x19 x20 f0 f1 f2 f3 f4 f5 f6 f7 f8 f9 f10 f11 f12 f13 f14 f15 f16 f17 f18 f19 f20 f21 f22 ga gz) H → va_D A (mX mm q jn cI x0 x1 x2 x3 x4 x5 x6 x7 x8 x9 x10 x11 x12 x13 x14 x15 x16 x17 x18 x19 x20 f0 f1 f2 f3 f4 f5 f6 f7 f8 f9 f10 f11 f12 f13 f14 f15 f16 f17 f18 f19 f20 f21 f22 ga gz) → va_S A s.heap H locs → lv_has ls 11 [(0, .ref mm), (1, .int a), (2, .int b), (3, .int z_1), (4, .int mn), (5, .int us2), (6, .int sm2), (7, .int i), (8, .int h8), (9, .int mk)] → W p l e ({ frames := 0, cells := 0, slots := 0, locals := 0 }) s m args below meth c H locs 0 0 Q (F0 m 116 ls []) := by
          intro us2 sm2 h8 mk H locs ls hh8 hP hD hS hl
          have loop116 : ∀ (ddloop116 : Nat) (hq : Int32) (H : Heap) (locs : List Loc) (ls : Array Slot), (20 - hq.toInt).toNat < ddloop116 → ((ga i.toInt.toNat).toInt + 1 ≤ hq.toInt ∧ hq.toInt ≤ 10) → va_P D vwCl (mX mm q jn cI x0 x1 x2 x3 x4 x5 x6 x7 x8 x9 x10 x11 x12 x13 x14 x15 x16 x17 x18 x19 x20 f0 f1 f2 f3 f4 f5 f6 f7 f8 f9 f10 f11 f12 f13 f14 f15 f16 f17 f18 f19 f20 f21 f22 ga gz) H → va_D A (mX mm q jn cI x0 x1 x2 x3 x4 x5 x6 x7 x8 x9 x10 x11 x12 x13 x14 x15 x16 x17 x18 x19 x20 f0 f1 f2 f3 f4 f5 f6 f7 f8 f9 f10 f11 f12 f13 f14 f15 f16 f17 f18 f19 f20 f21 f22 ga gz) → va_S A s.heap H locs → lv_has ls 11 [(0, .ref mm), (1, .int a), (2, .int b), (3, .int z_1), (4, .int mn), (5, .int us2), (6, .int sm2), (7, .int i), (8, .int hq), (9, .int mk)] → W p l e ({ frames := 0, cells := 0, slots := 0, locals := 0 }) s m args below meth c H locs 0 0 Q (F0 m 116 ls []) := by
            intro ddloop116
            induction ddloop116 with
            | zero =>
              intro hq H locs ls hdd
              exact absurd hdd (Nat.not_lt_zero _)
            | succ ddloop116 ih116 =>
              intro hq H locs ls hdd hhq hP hD hS hl
              refine lv_iload hx hb dX11_wholes_116 (lv_at hl 8 rfl) ?_
              refine lv_bipush (v := 10) hx hb dX11_wholes_118 (by decide) ?_
              refine a_icmp_ge (u := hq.toInt) (v := 10) (tgt := 171) hx hb dX11_wholes_120 (by decide) (rfl) (by decide) (fun c_6 => ?_) (fun c_6 => ?_)
              · refine lv_iload hx hb dX11_wholes_171 (lv_at hl 8 rfl) ?_
                refine lv_bipush (v := 9) hx hb dX11_wholes_173 (by decide) ?_
                refine a_icmp_le (u := hq.toInt) (v := 9) (tgt := 184) hx hb dX11_wholes_175 (by decide) (rfl) (by decide) (fun c_7 => ?_) (fun c_7 => ?_)
                · refine lv_aload_n hx hb dX11_wholes_184 rfl (lv_at hl 0 rfl) ?_
                  refine va_get (D := D) (ci := 11) (v := .ref (q 23)) (C := RX11) (T := TX11) (N := 47) hx hb hts (by decide +kernel) hown hK.1 hP 0 rfl rfl 45 (by decide) (hts (.fieldLink RX11 87 "JugglingHallModel" "chosen" "[I") (by decide +kernel)) (fun _ h9 => h9) rfl dX11_wholes_185 ?_
                  refine lv_iload hx hb dX11_wholes_188 (lv_at hl 7 rfl) ?_
                  refine lv_iload hx hb dX11_wholes_190 (lv_at hl 8 rfl) ?_
                  refine ma_23 (u := i.toInt) hx hb hK hP hD hS dX11_wholes_192 (rfl) (by omega) (fun g_8 H locs eg_8 hP hD hS => ?_)
                  refine lv_iload hx hb dX11_wholes_193 (lv_at hl 5 rfl) ?_
                  refine lv_iconst (v := 1) hx hb dX11_wholes_195 (by decide) ?_
                  refine lv_iload hx hb dX11_wholes_196 (lv_at hl 7 rfl) ?_
                  refine lv_iload hx hb dX11_wholes_198 (lv_at hl 8 rfl) ?_
                  refine a_iadd (u := i.toInt) (v := hq.toInt) hx hb dX11_wholes_200 (rfl) (rfl) (by omega) (fun z_9 e_9 => ?_)
                  refine lv_iload_n hx hb dX11_wholes_201 rfl (lv_at hl 3 rfl) ?_
                  refine a_irem (u := (i.toInt + hq.toInt)) (v := z_1.toInt) hx hb dX11_wholes_202 (e_9) (rfl) (by omega) (fun z_10 e_10 h_10 k_10 => ?_)
                  refine lv_ishl hx hb dX11_wholes_203 ?_
                  refine lv_topi (fun z_11 q_11 => ?_)
                  refine lv_ior hx hb dX11_wholes_204 ?_
                  refine lv_topi (fun z_12 q_12 => ?_)
                  refine lv_istore (lv' := [(5, .int z_12), (0, .ref mm), (1, .int a), (2, .int b), (3, .int z_1), (4, .int mn), (6, .int sm2), (7, .int i), (8, .int hq), (9, .int mk)]) hx hb dX11_wholes_205 hl (by decide) rfl (fun ls hl => ?_)
                  refine lv_iload hx hb dX11_wholes_207 (lv_at hl 6 rfl) ?_
                  refine lv_iload hx hb dX11_wholes_209 (lv_at hl 8 rfl) ?_
                  refine lv_iadd hx hb dX11_wholes_211 ?_
                  refine lv_topi (fun z_13 q_13 => ?_)
                  refine lv_istore (lv' := [(6, .int z_13), (5, .int z_12), (0, .ref mm), (1, .int a), (2, .int b), (3, .int z_1), (4, .int mn), (7, .int i), (8, .int hq), (9, .int mk)]) hx hb dX11_wholes_212 hl (by decide) rfl (fun ls hl => ?_)
                  refine lv_iload hx hb dX11_wholes_214 (lv_at hl 7 rfl) ?_
                  refine lv_iload_n hx hb dX11_wholes_216 rfl (lv_at hl 5 rfl) ?_
                  refine lv_iconst (v := 1) hx hb dX11_wholes_217 (by decide) ?_
                  refine a_isub (u := z_1.toInt) (v := 1) hx hb dX11_wholes_218 (rfl) (by decide) (by omega) (fun z_14 e_14 => ?_)
                  refine a_icmp_ge (u := i.toInt) (v := (z_1.toInt - 1)) (tgt := 236) hx hb dX11_wholes_219 (by decide) (rfl) (e_14) (fun c_15 => ?_) (fun c_15 => ?_)
                  · refine lv_iload hx hb dX11_wholes_236 (lv_at hl 0 rfl) ?_
                    refine lv_iload_n hx hb dX11_wholes_238 rfl (lv_at hl 4 rfl) ?_
                    refine lv_iload_n hx hb dX11_wholes_239 rfl (lv_at hl 5 rfl) ?_
                    refine lv_imul hx hb dX11_wholes_240 ?_
                    refine lv_topi (fun z_16 q_16 => ?_)
                    refine a_icmp_eq (u := z_13.toInt) (v := z_16.toInt) (tgt := 247) hx hb dX11_wholes_241 (by decide) (rfl) (rfl) (fun c_17 => ?_) (fun c_17 => ?_)
                    · refine lv_iconst (v := 0) hx hb dX11_wholes_247 (by decide) ?_
                      refine lv_istore (lv' := [(10, .int 0), (6, .int z_13), (5, .int z_12), (0, .ref mm), (1, .int a), (2, .int b), (3, .int z_1), (4, .int mn), (7, .int i), (8, .int hq), (9, .int mk)]) hx hb dX11_wholes_248 hl (by decide) rfl (fun ls hl => ?_)
                      have loop250 : ∀ (ddloop250 : Nat) (k10 : Int32) (gy : (Nat → Int32)) (H : Heap) (locs : List Loc) (ls : Array Slot), (10 - k10.toInt).toNat < ddloop250 → (0 ≤ k10.toInt ∧ k10.toInt ≤ (f1 a.toInt.toNat).toInt) → va_P D vwCl (mX mm q jn cI x0 x1 x2 x3 x4 x5 x6 x7 x8 x9 x10 x11 x12 x13 x14 x15 x16 x17 x18 x19 x20 f0 f1 f2 f3 f4 f5 f6 f7 f8 f9 f10 f11 f12 f13 f14 f15 f16 f17 f18 f19 f20 f21 f22 g_8 gy) H → va_D A (mX mm q jn cI x0 x1 x2 x3 x4 x5 x6 x7 x8 x9 x10 x11 x12 x13 x14 x15 x16 x17 x18 x19 x20 f0 f1 f2 f3 f4 f5 f6 f7 f8 f9 f10 f11 f12 f13 f14 f15 f16 f17 f18 f19 f20 f21 f22 g_8 gy) → va_S A s.heap H locs → lv_has ls 11 [(0, .ref mm), (1, .int a), (2, .int b), (3, .int z_1), (4, .int mn), (5, .int z_12), (6, .int z_13), (7, .int i), (8, .int hq), (9, .int mk), (10, .int k10)] → W p l e ({ frames := 0, cells := 0, slots := 0, locals := 0 }) s m args below meth c H locs 0 0 Q (F0 m 250 ls []) := by
                        intro ddloop250
                        induction ddloop250 with
                        | zero =>
                          intro k10 gy H locs ls hdd
                          exact absurd hdd (Nat.not_lt_zero _)
                        | succ ddloop250 ih250 =>
                          intro k10 gy H locs ls hdd hk10 hP hD hS hl
                          refine lv_iload hx hb dX11_wholes_250 (lv_at hl 10 rfl) ?_
                          refine lv_iload_n hx hb dX11_wholes_252 rfl (lv_at hl 3 rfl) ?_
                          refine a_icmp_ge (u := k10.toInt) (v := z_1.toInt) (tgt := 281) hx hb dX11_wholes_253 (by decide) (rfl) (rfl) (fun c_18 => ?_) (fun c_18 => ?_)
                          · obtain ⟨z_19, q_19⟩ : ∃ z : Int32, mn + Int32.ofInt 1 = z := ⟨_, rfl⟩
                            refine lv_iinc (v := z_19) (lv' := [(4, .int z_19), (0, .ref mm), (1, .int a), (2, .int b), (3, .int z_1), (5, .int z_12), (6, .int z_13), (7, .int i), (8, .int hq), (9, .int mk), (10, .int k10)]) hx hb dX11_wholes_281 hl (k := 4) rfl q_19 (by decide) rfl (fun ls hl => ?_)
                            refine lv_goto (tgt := 26) hx hb dX11_wholes_284 (by decide) ?_
                            have hwA := wh_A (c := ga) (i := i.toInt) (by omega) (by omega) hch
                            have hwW := wh_Wp (i := i.toInt) (by omega) (by omega)
                            have hwC := wh_C (i := i.toInt) (by omega) (by omega) eg_8 (by omega)
                            exact ih26 z_19 z_12 z_13 i g_8 gy _ _ _ (by omega) (by first | assumption | omega) (fun j9 h8 h9 => by
                              by_cases q : j9 = i.toInt
                              · rw [eg_8, q, pk_us]; omega
                              · rw [eg_8, un_i h8 (by omega) q]; exact hch j9 h8 h9) hP hD hS (lv_sub hl [1, 2, 3, 4, 0, 5, 6, 7] rfl)
                          · refine lv_iload hx hb dX11_wholes_256 (lv_at hl 4 rfl) ?_
                            refine a_if_ne (u := mn.toInt) (tgt := 281) hx hb dX11_wholes_258 (by decide) (rfl) (fun c_20 => ?_) (fun c_20 => ?_)
                            · obtain ⟨z_21, q_21⟩ : ∃ z : Int32, mn + Int32.ofInt 1 = z := ⟨_, rfl⟩
                              refine lv_iinc (v := z_21) (lv' := [(4, .int z_21), (0, .ref mm), (1, .int a), (2, .int b), (3, .int z_1), (5, .int z_12), (6, .int z_13), (7, .int i), (8, .int hq), (9, .int mk), (10, .int k10)]) hx hb dX11_wholes_281 hl (k := 4) rfl q_21 (by decide) rfl (fun ls hl => ?_)
                              refine lv_goto (tgt := 26) hx hb dX11_wholes_284 (by decide) ?_
                              have hwA := wh_A (c := ga) (i := i.toInt) (by omega) (by omega) hch
                              have hwW := wh_Wp (i := i.toInt) (by omega) (by omega)
                              have hwC := wh_C (i := i.toInt) (by omega) (by omega) eg_8 (by omega)
                              exact ih26 z_21 z_12 z_13 i g_8 gy _ _ _ (by omega) (by first | assumption | omega) (fun j9 h8 h9 => by
                                by_cases q : j9 = i.toInt
                                · rw [eg_8, q, pk_us]; omega
                                · rw [eg_8, un_i h8 (by omega) q]; exact hch j9 h8 h9) hP hD hS (lv_sub hl [1, 2, 3, 4, 0, 5, 6, 7] rfl)
                            · refine lv_aload_n hx hb dX11_wholes_261 rfl (lv_at hl 0 rfl) ?_
                              refine va_get (D := D) (ci := 11) (v := .ref (q 24)) (C := RX11) (T := TX11) (N := 47) hx hb hts (by decide +kernel) hown hK.1 hP 0 rfl rfl 46 (by decide) (hts (.fieldLink RX11 90 "JugglingHallModel" "first" "[I") (by decide +kernel)) (fun _ h9 => h9) rfl dX11_wholes_262 ?_
                              refine lv_iload hx hb dX11_wholes_265 (lv_at hl 10 rfl) ?_
                              refine lv_aload_n hx hb dX11_wholes_267 rfl (lv_at hl 0 rfl) ?_
                              refine va_get (D := D) (ci := 11) (v := .ref (q 23)) (C := RX11) (T := TX11) (N := 47) hx hb hts (by decide +kernel) hown hK.1 hP 0 rfl rfl 45 (by decide) (hts (.fieldLink RX11 87 "JugglingHallModel" "chosen" "[I") (by decide +kernel)) (fun _ h9 => h9) rfl dX11_wholes_268 ?_
                              refine lv_iload hx hb dX11_wholes_271 (lv_at hl 10 rfl) ?_
                              refine a_iald (f := g_8) (u := k10.toInt) hx hb hK.1 hP 24 0 rfl rfl dX11_wholes_273 (rfl) (by omega) (fun z_22 q_22 e_22 => ?_)
                              refine ma_24 (u := k10.toInt) hx hb hK hP hD hS dX11_wholes_274 (rfl) (by omega) (fun g_23 H locs eg_23 hP hD hS => ?_)
                              obtain ⟨z_24, q_24, e_24⟩ := i_inc (a := k10.toInt) (1) (rfl) (by decide) (by omega) (by omega)
                              refine lv_iinc (v := z_24) (lv' := [(10, .int z_24), (0, .ref mm), (1, .int a), (2, .int b), (3, .int z_1), (4, .int mn), (5, .int z_12), (6, .int z_13), (7, .int i), (8, .int hq), (9, .int mk)]) hx hb dX11_wholes_275 hl (k := 10) rfl q_24 (by decide) rfl (fun ls hl => ?_)
                              refine lv_goto (tgt := 250) hx hb dX11_wholes_278 (by decide) ?_
                              exact ih250 z_24 g_23 _ _ _ (by omega) (by first | assumption | omega) hP hD hS (lv_sub hl [1, 2, 3, 4, 5, 6, 7, 8, 9, 10, 0] rfl)
                      have hz_25 : (0 : Int32).toInt = 0 := by decide
                      exact loop250 ((10 - (0 : Int32).toInt).toNat + 1) (0 : Int32) gz _ _ _ (by omega) (by first | assumption | omega) hP hD hS (lv_sub hl [3, 4, 5, 6, 7, 2, 1, 8, 9, 10, 0] rfl)
                    · refine lv_goto (tgt := 26) hx hb dX11_wholes_244 (by decide) ?_
                      have hwA := wh_A (c := ga) (i := i.toInt) (by omega) (by omega) hch
                      have hwW := wh_Wp (i := i.toInt) (by omega) (by omega)
                      have hwC := wh_C (i := i.toInt) (by omega) (by omega) eg_8 (by omega)
                      exact ih26 mn z_12 z_13 i g_8 gz _ _ _ (by omega) (by first | assumption | omega) (fun j9 h8 h9 => by
                        by_cases q : j9 = i.toInt
                        · rw [eg_8, q, pk_us]; omega
                        · rw [eg_8, un_i h8 (by omega) q]; exact hch j9 h8 h9) hP hD hS (lv_sub hl [2, 3, 4, 5, 6, 1, 0, 7] rfl)
                  · obtain ⟨z_26, q_26, e_26⟩ := i_inc (a := i.toInt) (1) (rfl) (by decide) (by omega) (by omega)
                    refine lv_iinc (v := z_26) (lv' := [(7, .int z_26), (6, .int z_13), (5, .int z_12), (0, .ref mm), (1, .int a), (2, .int b), (3, .int z_1), (4, .int mn), (8, .int hq), (9, .int mk)]) hx hb dX11_wholes_222 hl (k := 7) rfl q_26 (by decide) rfl (fun ls hl => ?_)
                    refine lv_aload_n hx hb dX11_wholes_225 rfl (lv_at hl 3 rfl) ?_
                    refine va_get (D := D) (ci := 11) (v := .ref (q 23)) (C := RX11) (T := TX11) (N := 47) hx hb hts (by decide +kernel) hown hK.1 hP 0 rfl rfl 45 (by decide) (hts (.fieldLink RX11 87 "JugglingHallModel" "chosen" "[I") (by decide +kernel)) (fun _ h9 => h9) rfl dX11_wholes_226 ?_
                    refine lv_iload hx hb dX11_wholes_229 (lv_at hl 0 rfl) ?_
                    refine lv_iconst (v := (-1)) hx hb dX11_wholes_231 (by decide) ?_
                    refine ma_23 (u := (i.toInt + 1)) hx hb hK hP hD hS dX11_wholes_232 (e_26) (by omega) (fun g_27 H locs eg_27 hP hD hS => ?_)
                    refine lv_goto (tgt := 26) hx hb dX11_wholes_233 (by decide) ?_
                    have hwA := wh_A (c := ga) (i := i.toInt) (by omega) (by omega) hch
                    have hwW := wh_Wp (i := i.toInt) (by omega) (by omega)
                    have hwB := wh_B (i := i.toInt) (by omega) (by omega) (g2 := g_27) eg_8 (by omega) (by first | exact eg_27 | rw [eg_27, show (i.toInt + 1) = i.toInt + 1 by omega])
                    rw [show i.toInt + 2 = z_26.toInt + 1 by omega] at hwB
                    have hwX := wh_Wp (i := i.toInt + 1) (by omega) (by omega)
                    exact ih26 mn z_12 z_13 z_26 g_27 gz _ _ _ (by omega) (by first | assumption | omega) (fun j9 h8 h9 => by
                      by_cases q : j9 = i.toInt + 1
                      · rw [eg_27, q, show i.toInt + 1 = (i.toInt + 1) by omega, pk_us]; decide
                      · rw [eg_27, un_i h8 (by omega) (by omega)]
                        by_cases q2 : j9 = i.toInt
                        · rw [eg_8, q2, pk_us]; omega
                        · rw [eg_8, un_i h8 (by omega) q2]; exact hch j9 h8 (by omega)) hP hD hS (lv_sub hl [3, 4, 5, 6, 7, 2, 1, 0] rfl)
                · obtain ⟨z_28, q_28, e_28⟩ := i_inc (a := i.toInt) (-1) (rfl) (by decide) (by omega) (by omega)
                  refine lv_iinc (v := z_28) (lv' := [(7, .int z_28), (0, .ref mm), (1, .int a), (2, .int b), (3, .int z_1), (4, .int mn), (5, .int us2), (6, .int sm2), (8, .int hq), (9, .int mk)]) hx hb dX11_wholes_178 hl (k := 7) rfl q_28 (by decide) rfl (fun ls hl => ?_)
                  refine lv_goto (tgt := 26) hx hb dX11_wholes_181 (by decide) ?_
                  have hwA := wh_A (c := ga) (i := i.toInt) (by omega) (by omega) hch
                  have hwW := wh_Wp (i := i.toInt) (by omega) (by omega)
                  have hMz : wh_M ga (z_28.toInt + 1).toNat = wh_M ga i.toInt.toNat := by rw [show (z_28.toInt + 1).toNat = i.toInt.toNat by omega]
                  exact ih26 mn us2 sm2 z_28 ga gz _ _ _ (by omega) (by first | assumption | omega) (fun j9 h8 h9 => hch j9 h8 (by omega)) hP hD hS (lv_sub hl [1, 2, 3, 4, 5, 6, 7, 0] rfl)
              · refine lv_iload hx hb dX11_wholes_123 (lv_at hl 5 rfl) ?_
                refine lv_iload hx hb dX11_wholes_125 (lv_at hl 7 rfl) ?_
                refine lv_iload hx hb dX11_wholes_127 (lv_at hl 8 rfl) ?_
                refine a_iadd (u := i.toInt) (v := hq.toInt) hx hb dX11_wholes_129 (rfl) (rfl) (by omega) (fun z_29 e_29 => ?_)
                refine lv_iload_n hx hb dX11_wholes_130 rfl (lv_at hl 3 rfl) ?_
                refine a_irem (u := (i.toInt + hq.toInt)) (v := z_1.toInt) hx hb dX11_wholes_131 (e_29) (rfl) (by omega) (fun z_30 e_30 h_30 k_30 => ?_)
                refine lv_ishr hx hb dX11_wholes_132 ?_
                refine lv_topi (fun z_31 q_31 => ?_)
                refine lv_iconst (v := 1) hx hb dX11_wholes_133 (by decide) ?_
                refine lv_iand hx hb dX11_wholes_134 ?_
                refine lv_topi (fun z_32 q_32 => ?_)
                refine lv_iconst (v := 1) hx hb dX11_wholes_135 (by decide) ?_
                refine a_icmp_eq (u := z_32.toInt) (v := 1) (tgt := 150) hx hb dX11_wholes_136 (by decide) (rfl) (by decide) (fun c_33 => ?_) (fun c_33 => ?_)
                · refine lv_iload hx hb dX11_wholes_150 (lv_at hl 9 rfl) ?_
                  refine lv_bipush (v := 10) hx hb dX11_wholes_152 (by decide) ?_
                  refine a_icmp_ge (u := mk.toInt) (v := 10) (tgt := 162) hx hb dX11_wholes_154 (by decide) (rfl) (by decide) (fun c_34 => ?_) (fun c_34 => ?_)
                  · refine lv_iload hx hb dX11_wholes_162 (lv_at hl 8 rfl) ?_
                    refine lv_iconst (v := 1) hx hb dX11_wholes_164 (by decide) ?_
                    refine a_iadd (u := hq.toInt) (v := 1) hx hb dX11_wholes_165 (rfl) (by decide) (by omega) (fun z_35 e_35 => ?_)
                    refine lv_istore (lv' := [(8, .int z_35), (0, .ref mm), (1, .int a), (2, .int b), (3, .int z_1), (4, .int mn), (5, .int us2), (6, .int sm2), (7, .int i), (9, .int mk)]) hx hb dX11_wholes_166 hl (by decide) rfl (fun ls hl => ?_)
                    refine lv_goto (tgt := 116) hx hb dX11_wholes_168 (by decide) ?_
                    exact ih116 z_35 _ _ _ (by omega) (by first | assumption | omega) hP hD hS (lv_sub hl [1, 2, 3, 4, 5, 6, 7, 8, 0, 9] rfl)
                  · refine lv_bipush (v := 10) hx hb dX11_wholes_157 (by decide) ?_
                    refine lv_goto (tgt := 166) hx hb dX11_wholes_159 (by decide) ?_
                    refine lv_istore (lv' := [(8, .int 10), (0, .ref mm), (1, .int a), (2, .int b), (3, .int z_1), (4, .int mn), (5, .int us2), (6, .int sm2), (7, .int i), (9, .int mk)]) hx hb dX11_wholes_166 hl (by decide) rfl (fun ls hl => ?_)
                    refine lv_goto (tgt := 116) hx hb dX11_wholes_168 (by decide) ?_
                    have hz_36 : (10 : Int32).toInt = 10 := by decide
                    exact ih116 (10 : Int32) _ _ _ (by omega) (by first | assumption | omega) hP hD hS (lv_sub hl [1, 2, 3, 4, 5, 6, 7, 8, 0, 9] rfl)
                · refine lv_iload hx hb dX11_wholes_139 (lv_at hl 6 rfl) ?_
                  refine lv_iload hx hb dX11_wholes_141 (lv_at hl 8 rfl) ?_
                  refine lv_iadd hx hb dX11_wholes_143 ?_
                  refine lv_topi (fun z_37 q_37 => ?_)
                  refine lv_iload_n hx hb dX11_wholes_144 rfl (lv_at hl 2 rfl) ?_
                  refine lv_iload_n hx hb dX11_wholes_145 rfl (lv_at hl 3 rfl) ?_
                  refine lv_imul hx hb dX11_wholes_146 ?_
                  refine lv_topi (fun z_38 q_38 => ?_)
                  refine a_icmp_le (u := z_37.toInt) (v := z_38.toInt) (tgt := 171) hx hb dX11_wholes_147 (by decide) (rfl) (rfl) (fun c_39 => ?_) (fun c_39 => ?_)
                  · refine lv_iload hx hb dX11_wholes_171 (lv_at hl 8 rfl) ?_
                    refine lv_bipush (v := 9) hx hb dX11_wholes_173 (by decide) ?_
                    refine a_icmp_le (u := hq.toInt) (v := 9) (tgt := 184) hx hb dX11_wholes_175 (by decide) (rfl) (by decide) (fun c_40 => ?_) (fun c_40 => ?_)
                    · refine lv_aload_n hx hb dX11_wholes_184 rfl (lv_at hl 0 rfl) ?_
                      refine va_get (D := D) (ci := 11) (v := .ref (q 23)) (C := RX11) (T := TX11) (N := 47) hx hb hts (by decide +kernel) hown hK.1 hP 0 rfl rfl 45 (by decide) (hts (.fieldLink RX11 87 "JugglingHallModel" "chosen" "[I") (by decide +kernel)) (fun _ h9 => h9) rfl dX11_wholes_185 ?_
                      refine lv_iload hx hb dX11_wholes_188 (lv_at hl 7 rfl) ?_
                      refine lv_iload hx hb dX11_wholes_190 (lv_at hl 8 rfl) ?_
                      refine ma_23 (u := i.toInt) hx hb hK hP hD hS dX11_wholes_192 (rfl) (by omega) (fun g_41 H locs eg_41 hP hD hS => ?_)
                      refine lv_iload hx hb dX11_wholes_193 (lv_at hl 5 rfl) ?_
                      refine lv_iconst (v := 1) hx hb dX11_wholes_195 (by decide) ?_
                      refine lv_iload hx hb dX11_wholes_196 (lv_at hl 7 rfl) ?_
                      refine lv_iload hx hb dX11_wholes_198 (lv_at hl 8 rfl) ?_
                      refine a_iadd (u := i.toInt) (v := hq.toInt) hx hb dX11_wholes_200 (rfl) (rfl) (by omega) (fun z_42 e_42 => ?_)
                      refine lv_iload_n hx hb dX11_wholes_201 rfl (lv_at hl 3 rfl) ?_
                      refine a_irem (u := (i.toInt + hq.toInt)) (v := z_1.toInt) hx hb dX11_wholes_202 (e_42) (rfl) (by omega) (fun z_43 e_43 h_43 k_43 => ?_)
                      refine lv_ishl hx hb dX11_wholes_203 ?_
                      refine lv_topi (fun z_44 q_44 => ?_)
                      refine lv_ior hx hb dX11_wholes_204 ?_
                      refine lv_topi (fun z_45 q_45 => ?_)
                      refine lv_istore (lv' := [(5, .int z_45), (0, .ref mm), (1, .int a), (2, .int b), (3, .int z_1), (4, .int mn), (6, .int sm2), (7, .int i), (8, .int hq), (9, .int mk)]) hx hb dX11_wholes_205 hl (by decide) rfl (fun ls hl => ?_)
                      refine lv_iload hx hb dX11_wholes_207 (lv_at hl 6 rfl) ?_
                      refine lv_iload hx hb dX11_wholes_209 (lv_at hl 8 rfl) ?_
                      refine lv_iadd hx hb dX11_wholes_211 ?_
                      refine lv_topi (fun z_46 q_46 => ?_)
                      refine lv_istore (lv' := [(6, .int z_46), (5, .int z_45), (0, .ref mm), (1, .int a), (2, .int b), (3, .int z_1), (4, .int mn), (7, .int i), (8, .int hq), (9, .int mk)]) hx hb dX11_wholes_212 hl (by decide) rfl (fun ls hl => ?_)
                      refine lv_iload hx hb dX11_wholes_214 (lv_at hl 7 rfl) ?_
                      refine lv_iload_n hx hb dX11_wholes_216 rfl (lv_at hl 5 rfl) ?_
                      refine lv_iconst (v := 1) hx hb dX11_wholes_217 (by decide) ?_
                      refine a_isub (u := z_1.toInt) (v := 1) hx hb dX11_wholes_218 (rfl) (by decide) (by omega) (fun z_47 e_47 => ?_)
                      refine a_icmp_ge (u := i.toInt) (v := (z_1.toInt - 1)) (tgt := 236) hx hb dX11_wholes_219 (by decide) (rfl) (e_47) (fun c_48 => ?_) (fun c_48 => ?_)
                      · refine lv_iload hx hb dX11_wholes_236 (lv_at hl 0 rfl) ?_
                        refine lv_iload_n hx hb dX11_wholes_238 rfl (lv_at hl 4 rfl) ?_
                        refine lv_iload_n hx hb dX11_wholes_239 rfl (lv_at hl 5 rfl) ?_
                        refine lv_imul hx hb dX11_wholes_240 ?_
                        refine lv_topi (fun z_49 q_49 => ?_)
                        refine a_icmp_eq (u := z_46.toInt) (v := z_49.toInt) (tgt := 247) hx hb dX11_wholes_241 (by decide) (rfl) (rfl) (fun c_50 => ?_) (fun c_50 => ?_)
                        · refine lv_iconst (v := 0) hx hb dX11_wholes_247 (by decide) ?_
                          refine lv_istore (lv' := [(10, .int 0), (6, .int z_46), (5, .int z_45), (0, .ref mm), (1, .int a), (2, .int b), (3, .int z_1), (4, .int mn), (7, .int i), (8, .int hq), (9, .int mk)]) hx hb dX11_wholes_248 hl (by decide) rfl (fun ls hl => ?_)
                          have loop250 : ∀ (ddloop250 : Nat) (k10 : Int32) (gy : (Nat → Int32)) (H : Heap) (locs : List Loc) (ls : Array Slot), (10 - k10.toInt).toNat < ddloop250 → (0 ≤ k10.toInt ∧ k10.toInt ≤ (f1 a.toInt.toNat).toInt) → va_P D vwCl (mX mm q jn cI x0 x1 x2 x3 x4 x5 x6 x7 x8 x9 x10 x11 x12 x13 x14 x15 x16 x17 x18 x19 x20 f0 f1 f2 f3 f4 f5 f6 f7 f8 f9 f10 f11 f12 f13 f14 f15 f16 f17 f18 f19 f20 f21 f22 g_41 gy) H → va_D A (mX mm q jn cI x0 x1 x2 x3 x4 x5 x6 x7 x8 x9 x10 x11 x12 x13 x14 x15 x16 x17 x18 x19 x20 f0 f1 f2 f3 f4 f5 f6 f7 f8 f9 f10 f11 f12 f13 f14 f15 f16 f17 f18 f19 f20 f21 f22 g_41 gy) → va_S A s.heap H locs → lv_has ls 11 [(0, .ref mm), (1, .int a), (2, .int b), (3, .int z_1), (4, .int mn), (5, .int z_45), (6, .int z_46), (7, .int i), (8, .int hq), (9, .int mk), (10, .int k10)] → W p l e ({ frames := 0, cells := 0, slots := 0, locals := 0 }) s m args below meth c H locs 0 0 Q (F0 m 250 ls []) := by
                            intro ddloop250
                            induction ddloop250 with
                            | zero =>
                              intro k10 gy H locs ls hdd
                              exact absurd hdd (Nat.not_lt_zero _)
                            | succ ddloop250 ih250 =>
                              intro k10 gy H locs ls hdd hk10 hP hD hS hl
                              refine lv_iload hx hb dX11_wholes_250 (lv_at hl 10 rfl) ?_
                              refine lv_iload_n hx hb dX11_wholes_252 rfl (lv_at hl 3 rfl) ?_
                              refine a_icmp_ge (u := k10.toInt) (v := z_1.toInt) (tgt := 281) hx hb dX11_wholes_253 (by decide) (rfl) (rfl) (fun c_51 => ?_) (fun c_51 => ?_)
                              · obtain ⟨z_52, q_52⟩ : ∃ z : Int32, mn + Int32.ofInt 1 = z := ⟨_, rfl⟩
                                refine lv_iinc (v := z_52) (lv' := [(4, .int z_52), (0, .ref mm), (1, .int a), (2, .int b), (3, .int z_1), (5, .int z_45), (6, .int z_46), (7, .int i), (8, .int hq), (9, .int mk), (10, .int k10)]) hx hb dX11_wholes_281 hl (k := 4) rfl q_52 (by decide) rfl (fun ls hl => ?_)
                                refine lv_goto (tgt := 26) hx hb dX11_wholes_284 (by decide) ?_
                                have hwA := wh_A (c := ga) (i := i.toInt) (by omega) (by omega) hch
                                have hwW := wh_Wp (i := i.toInt) (by omega) (by omega)
                                have hwC := wh_C (i := i.toInt) (by omega) (by omega) eg_41 (by omega)
                                exact ih26 z_52 z_45 z_46 i g_41 gy _ _ _ (by omega) (by first | assumption | omega) (fun j9 h8 h9 => by
                                  by_cases q : j9 = i.toInt
                                  · rw [eg_41, q, pk_us]; omega
                                  · rw [eg_41, un_i h8 (by omega) q]; exact hch j9 h8 h9) hP hD hS (lv_sub hl [1, 2, 3, 4, 0, 5, 6, 7] rfl)
                              · refine lv_iload hx hb dX11_wholes_256 (lv_at hl 4 rfl) ?_
                                refine a_if_ne (u := mn.toInt) (tgt := 281) hx hb dX11_wholes_258 (by decide) (rfl) (fun c_53 => ?_) (fun c_53 => ?_)
                                · obtain ⟨z_54, q_54⟩ : ∃ z : Int32, mn + Int32.ofInt 1 = z := ⟨_, rfl⟩
                                  refine lv_iinc (v := z_54) (lv' := [(4, .int z_54), (0, .ref mm), (1, .int a), (2, .int b), (3, .int z_1), (5, .int z_45), (6, .int z_46), (7, .int i), (8, .int hq), (9, .int mk), (10, .int k10)]) hx hb dX11_wholes_281 hl (k := 4) rfl q_54 (by decide) rfl (fun ls hl => ?_)
                                  refine lv_goto (tgt := 26) hx hb dX11_wholes_284 (by decide) ?_
                                  have hwA := wh_A (c := ga) (i := i.toInt) (by omega) (by omega) hch
                                  have hwW := wh_Wp (i := i.toInt) (by omega) (by omega)
                                  have hwC := wh_C (i := i.toInt) (by omega) (by omega) eg_41 (by omega)
                                  exact ih26 z_54 z_45 z_46 i g_41 gy _ _ _ (by omega) (by first | assumption | omega) (fun j9 h8 h9 => by
                                    by_cases q : j9 = i.toInt
                                    · rw [eg_41, q, pk_us]; omega
                                    · rw [eg_41, un_i h8 (by omega) q]; exact hch j9 h8 h9) hP hD hS (lv_sub hl [1, 2, 3, 4, 0, 5, 6, 7] rfl)
                                · refine lv_aload_n hx hb dX11_wholes_261 rfl (lv_at hl 0 rfl) ?_
                                  refine va_get (D := D) (ci := 11) (v := .ref (q 24)) (C := RX11) (T := TX11) (N := 47) hx hb hts (by decide +kernel) hown hK.1 hP 0 rfl rfl 46 (by decide) (hts (.fieldLink RX11 90 "JugglingHallModel" "first" "[I") (by decide +kernel)) (fun _ h9 => h9) rfl dX11_wholes_262 ?_
                                  refine lv_iload hx hb dX11_wholes_265 (lv_at hl 10 rfl) ?_
                                  refine lv_aload_n hx hb dX11_wholes_267 rfl (lv_at hl 0 rfl) ?_
                                  refine va_get (D := D) (ci := 11) (v := .ref (q 23)) (C := RX11) (T := TX11) (N := 47) hx hb hts (by decide +kernel) hown hK.1 hP 0 rfl rfl 45 (by decide) (hts (.fieldLink RX11 87 "JugglingHallModel" "chosen" "[I") (by decide +kernel)) (fun _ h9 => h9) rfl dX11_wholes_268 ?_
                                  refine lv_iload hx hb dX11_wholes_271 (lv_at hl 10 rfl) ?_
                                  refine a_iald (f := g_41) (u := k10.toInt) hx hb hK.1 hP 24 0 rfl rfl dX11_wholes_273 (rfl) (by omega) (fun z_55 q_55 e_55 => ?_)
                                  refine ma_24 (u := k10.toInt) hx hb hK hP hD hS dX11_wholes_274 (rfl) (by omega) (fun g_56 H locs eg_56 hP hD hS => ?_)
                                  obtain ⟨z_57, q_57, e_57⟩ := i_inc (a := k10.toInt) (1) (rfl) (by decide) (by omega) (by omega)
                                  refine lv_iinc (v := z_57) (lv' := [(10, .int z_57), (0, .ref mm), (1, .int a), (2, .int b), (3, .int z_1), (4, .int mn), (5, .int z_45), (6, .int z_46), (7, .int i), (8, .int hq), (9, .int mk)]) hx hb dX11_wholes_275 hl (k := 10) rfl q_57 (by decide) rfl (fun ls hl => ?_)
                                  refine lv_goto (tgt := 250) hx hb dX11_wholes_278 (by decide) ?_
                                  exact ih250 z_57 g_56 _ _ _ (by omega) (by first | assumption | omega) hP hD hS (lv_sub hl [1, 2, 3, 4, 5, 6, 7, 8, 9, 10, 0] rfl)
                          have hz_58 : (0 : Int32).toInt = 0 := by decide
                          exact loop250 ((10 - (0 : Int32).toInt).toNat + 1) (0 : Int32) gz _ _ _ (by omega) (by first | assumption | omega) hP hD hS (lv_sub hl [3, 4, 5, 6, 7, 2, 1, 8, 9, 10, 0] rfl)
                        · refine lv_goto (tgt := 26) hx hb dX11_wholes_244 (by decide) ?_
                          have hwA := wh_A (c := ga) (i := i.toInt) (by omega) (by omega) hch
                          have hwW := wh_Wp (i := i.toInt) (by omega) (by omega)
                          have hwC := wh_C (i := i.toInt) (by omega) (by omega) eg_41 (by omega)
                          exact ih26 mn z_45 z_46 i g_41 gz _ _ _ (by omega) (by first | assumption | omega) (fun j9 h8 h9 => by
                            by_cases q : j9 = i.toInt
                            · rw [eg_41, q, pk_us]; omega
                            · rw [eg_41, un_i h8 (by omega) q]; exact hch j9 h8 h9) hP hD hS (lv_sub hl [2, 3, 4, 5, 6, 1, 0, 7] rfl)
                      · obtain ⟨z_59, q_59, e_59⟩ := i_inc (a := i.toInt) (1) (rfl) (by decide) (by omega) (by omega)
                        refine lv_iinc (v := z_59) (lv' := [(7, .int z_59), (6, .int z_46), (5, .int z_45), (0, .ref mm), (1, .int a), (2, .int b), (3, .int z_1), (4, .int mn), (8, .int hq), (9, .int mk)]) hx hb dX11_wholes_222 hl (k := 7) rfl q_59 (by decide) rfl (fun ls hl => ?_)
                        refine lv_aload_n hx hb dX11_wholes_225 rfl (lv_at hl 3 rfl) ?_
                        refine va_get (D := D) (ci := 11) (v := .ref (q 23)) (C := RX11) (T := TX11) (N := 47) hx hb hts (by decide +kernel) hown hK.1 hP 0 rfl rfl 45 (by decide) (hts (.fieldLink RX11 87 "JugglingHallModel" "chosen" "[I") (by decide +kernel)) (fun _ h9 => h9) rfl dX11_wholes_226 ?_
                        refine lv_iload hx hb dX11_wholes_229 (lv_at hl 0 rfl) ?_
                        refine lv_iconst (v := (-1)) hx hb dX11_wholes_231 (by decide) ?_
                        refine ma_23 (u := (i.toInt + 1)) hx hb hK hP hD hS dX11_wholes_232 (e_59) (by omega) (fun g_60 H locs eg_60 hP hD hS => ?_)
                        refine lv_goto (tgt := 26) hx hb dX11_wholes_233 (by decide) ?_
                        have hwA := wh_A (c := ga) (i := i.toInt) (by omega) (by omega) hch
                        have hwW := wh_Wp (i := i.toInt) (by omega) (by omega)
                        have hwB := wh_B (i := i.toInt) (by omega) (by omega) (g2 := g_60) eg_41 (by omega) (by first | exact eg_60 | rw [eg_60, show (i.toInt + 1) = i.toInt + 1 by omega])
                        rw [show i.toInt + 2 = z_59.toInt + 1 by omega] at hwB
                        have hwX := wh_Wp (i := i.toInt + 1) (by omega) (by omega)
                        exact ih26 mn z_45 z_46 z_59 g_60 gz _ _ _ (by omega) (by first | assumption | omega) (fun j9 h8 h9 => by
                          by_cases q : j9 = i.toInt + 1
                          · rw [eg_60, q, show i.toInt + 1 = (i.toInt + 1) by omega, pk_us]; decide
                          · rw [eg_60, un_i h8 (by omega) (by omega)]
                            by_cases q2 : j9 = i.toInt
                            · rw [eg_41, q2, pk_us]; omega
                            · rw [eg_41, un_i h8 (by omega) q2]; exact hch j9 h8 (by omega)) hP hD hS (lv_sub hl [3, 4, 5, 6, 7, 2, 1, 0] rfl)
                    · obtain ⟨z_61, q_61, e_61⟩ := i_inc (a := i.toInt) (-1) (rfl) (by decide) (by omega) (by omega)
                      refine lv_iinc (v := z_61) (lv' := [(7, .int z_61), (0, .ref mm), (1, .int a), (2, .int b), (3, .int z_1), (4, .int mn), (5, .int us2), (6, .int sm2), (8, .int hq), (9, .int mk)]) hx hb dX11_wholes_178 hl (k := 7) rfl q_61 (by decide) rfl (fun ls hl => ?_)
                      refine lv_goto (tgt := 26) hx hb dX11_wholes_181 (by decide) ?_
                      have hwA := wh_A (c := ga) (i := i.toInt) (by omega) (by omega) hch
                      have hwW := wh_Wp (i := i.toInt) (by omega) (by omega)
                      have hMz : wh_M ga (z_61.toInt + 1).toNat = wh_M ga i.toInt.toNat := by rw [show (z_61.toInt + 1).toNat = i.toInt.toNat by omega]
                      exact ih26 mn us2 sm2 z_61 ga gz _ _ _ (by omega) (by first | assumption | omega) (fun j9 h8 h9 => hch j9 h8 (by omega)) hP hD hS (lv_sub hl [1, 2, 3, 4, 5, 6, 7, 0] rfl)
                  · refine lv_iload hx hb dX11_wholes_150 (lv_at hl 9 rfl) ?_
                    refine lv_bipush (v := 10) hx hb dX11_wholes_152 (by decide) ?_
                    refine a_icmp_ge (u := mk.toInt) (v := 10) (tgt := 162) hx hb dX11_wholes_154 (by decide) (rfl) (by decide) (fun c_62 => ?_) (fun c_62 => ?_)
                    · refine lv_iload hx hb dX11_wholes_162 (lv_at hl 8 rfl) ?_
                      refine lv_iconst (v := 1) hx hb dX11_wholes_164 (by decide) ?_
                      refine a_iadd (u := hq.toInt) (v := 1) hx hb dX11_wholes_165 (rfl) (by decide) (by omega) (fun z_63 e_63 => ?_)
                      refine lv_istore (lv' := [(8, .int z_63), (0, .ref mm), (1, .int a), (2, .int b), (3, .int z_1), (4, .int mn), (5, .int us2), (6, .int sm2), (7, .int i), (9, .int mk)]) hx hb dX11_wholes_166 hl (by decide) rfl (fun ls hl => ?_)
                      refine lv_goto (tgt := 116) hx hb dX11_wholes_168 (by decide) ?_
                      exact ih116 z_63 _ _ _ (by omega) (by first | assumption | omega) hP hD hS (lv_sub hl [1, 2, 3, 4, 5, 6, 7, 8, 0, 9] rfl)
                    · refine lv_bipush (v := 10) hx hb dX11_wholes_157 (by decide) ?_
                      refine lv_goto (tgt := 166) hx hb dX11_wholes_159 (by decide) ?_
                      refine lv_istore (lv' := [(8, .int 10), (0, .ref mm), (1, .int a), (2, .int b), (3, .int z_1), (4, .int mn), (5, .int us2), (6, .int sm2), (7, .int i), (9, .int mk)]) hx hb dX11_wholes_166 hl (by decide) rfl (fun ls hl => ?_)
                      refine lv_goto (tgt := 116) hx hb dX11_wholes_168 (by decide) ?_
                      have hz_64 : (10 : Int32).toInt = 10 := by decide
                      exact ih116 (10 : Int32) _ _ _ (by omega) (by first | assumption | omega) hP hD hS (lv_sub hl [1, 2, 3, 4, 5, 6, 7, 8, 0, 9] rfl)
          exact loop116 ((20 - h8.toInt).toNat + 1) h8 _ _ _ (by omega) (by first | assumption | omega) hP hD hS (lv_sub hl [0, 1, 2, 3, 4, 5, 6, 7, 8, 9] rfl)
        refine lv_iload hx hb dX11_wholes_40 (lv_at hl 0 rfl) ?_
        refine a_if_lt (u := z_4.toInt) (tgt := 68) hx hb dX11_wholes_42 (by decide) (rfl) (fun c_65 => ?_) (fun c_65 => ?_)
        · obtain ⟨z_66, q_66, e_66⟩ := i_inc (a := z_4.toInt) (1) (rfl) (by decide) (by omega) (by omega)
          refine lv_iinc (v := z_66) (lv' := [(8, .int z_66), (0, .ref mm), (1, .int a), (2, .int b), (3, .int z_1), (4, .int mn), (5, .int us), (6, .int sm), (7, .int i)]) hx hb dX11_wholes_68 hl (k := 0) rfl q_66 (by decide) rfl (fun ls hl => ?_)
          refine lv_aload_n hx hb dX11_wholes_71 rfl (lv_at hl 1 rfl) ?_
          refine va_get (D := D) (ci := 11) (v := .ref (q 1)) (C := RX11) (T := TX11) (N := 47) hx hb hts (by decide +kernel) hown hK.1 hP 0 rfl rfl 2 (by decide) (hts (.fieldLink RX11 14 "JugglingHallModel" "seenRows" "[I") (by decide +kernel)) (fun _ h9 => h9) rfl dX11_wholes_72 ?_
          refine lv_iload_n hx hb dX11_wholes_75 rfl (lv_at hl 2 rfl) ?_
          refine lv_iconst (v := 1) hx hb dX11_wholes_76 (by decide) ?_
          refine a_iadd (u := a.toInt) (v := 1) hx hb dX11_wholes_77 (rfl) (by decide) (by omega) (fun z_67 e_67 => ?_)
          refine lv_iload hx hb dX11_wholes_78 (lv_at hl 8 rfl) ?_
          refine a_iadd (u := (a.toInt + 1)) (v := i.toInt) hx hb dX11_wholes_80 (e_67) (rfl) (by omega) (fun z_68 e_68 => ?_)
          refine a_iald (f := f1) (u := ((a.toInt + 1) + i.toInt)) hx hb hK.1 hP 2 0 rfl rfl dX11_wholes_81 (e_68) (by omega) (fun z_69 q_69 e_69 => ?_)
          refine lv_istore (lv' := [(9, .int z_69), (8, .int z_66), (0, .ref mm), (1, .int a), (2, .int b), (3, .int z_1), (4, .int mn), (5, .int us), (6, .int sm), (7, .int i)]) hx hb dX11_wholes_82 hl (by decide) rfl (fun ls hl => ?_)
          refine lv_iload hx hb dX11_wholes_84 (lv_at hl 0 rfl) ?_
          refine lv_bipush (v := 10) hx hb dX11_wholes_86 (by decide) ?_
          refine a_icmp_ge (u := z_69.toInt) (v := 10) (tgt := 105) hx hb dX11_wholes_88 (by decide) (rfl) (by decide) (fun c_70 => ?_) (fun c_70 => ?_)
          · refine lv_iload hx hb dX11_wholes_105 (lv_at hl 0 rfl) ?_
            refine lv_bipush (v := 10) hx hb dX11_wholes_107 (by decide) ?_
            refine a_icmp_ge (u := z_69.toInt) (v := 10) (tgt := 116) hx hb dX11_wholes_109 (by decide) (rfl) (by decide) (fun c_71 => ?_) (fun c_71 => absurd c_71 (by omega))
            exact join5 us sm z_66 z_69 _ _ _ (by first | assumption | omega) hP hD hS (lv_sub hl [2, 3, 4, 5, 6, 7, 8, 9, 1, 0] rfl)
          · refine lv_iload hx hb dX11_wholes_91 (lv_at hl 1 rfl) ?_
            refine lv_iload hx hb dX11_wholes_93 (lv_at hl 0 rfl) ?_
            refine a_icmp_gt (u := (z_4.toInt + 1)) (v := z_69.toInt) (tgt := 105) hx hb dX11_wholes_95 (by decide) (e_66) (rfl) (fun c_72 => ?_) (fun c_72 => ?_)
            · refine lv_iload hx hb dX11_wholes_105 (lv_at hl 0 rfl) ?_
              refine lv_bipush (v := 10) hx hb dX11_wholes_107 (by decide) ?_
              refine a_icmp_ge (u := z_69.toInt) (v := 10) (tgt := 116) hx hb dX11_wholes_109 (by decide) (rfl) (by decide) (fun c_73 => absurd c_73 (by omega)) (fun c_73 => ?_)
              refine lv_bipush (v := 10) hx hb dX11_wholes_112 (by decide) ?_
              refine lv_istore (lv' := [(8, .int 10), (9, .int z_69), (0, .ref mm), (1, .int a), (2, .int b), (3, .int z_1), (4, .int mn), (5, .int us), (6, .int sm), (7, .int i)]) hx hb dX11_wholes_114 hl (by decide) rfl (fun ls hl => ?_)
              have hz_74 : (10 : Int32).toInt = 10 := by decide
              exact join5 us sm (10 : Int32) z_69 _ _ _ (by first | assumption | omega) hP hD hS (lv_sub hl [2, 3, 4, 5, 6, 7, 8, 9, 0, 1] rfl)
            · refine lv_iload hx hb dX11_wholes_98 (lv_at hl 0 rfl) ?_
              refine lv_istore (lv' := [(8, .int z_69), (9, .int z_69), (0, .ref mm), (1, .int a), (2, .int b), (3, .int z_1), (4, .int mn), (5, .int us), (6, .int sm), (7, .int i)]) hx hb dX11_wholes_100 hl (by decide) rfl (fun ls hl => ?_)
              refine lv_goto (tgt := 116) hx hb dX11_wholes_102 (by decide) ?_
              exact join5 us sm z_69 z_69 _ _ _ (by first | assumption | omega) hP hD hS (lv_sub hl [2, 3, 4, 5, 6, 7, 8, 9, 0, 1] rfl)
        · refine lv_iload hx hb dX11_wholes_45 (lv_at hl 6 rfl) ?_
          refine lv_iconst (v := 1) hx hb dX11_wholes_47 (by decide) ?_
          refine lv_iload hx hb dX11_wholes_48 (lv_at hl 8 rfl) ?_
          refine lv_iload hx hb dX11_wholes_50 (lv_at hl 0 rfl) ?_
          refine a_iadd (u := i.toInt) (v := z_4.toInt) hx hb dX11_wholes_52 (rfl) (rfl) (by omega) (fun z_75 e_75 => ?_)
          refine lv_iload_n hx hb dX11_wholes_53 rfl (lv_at hl 4 rfl) ?_
          refine a_irem (u := (i.toInt + z_4.toInt)) (v := z_1.toInt) hx hb dX11_wholes_54 (e_75) (rfl) (by omega) (fun z_76 e_76 h_76 k_76 => ?_)
          refine lv_ishl hx hb dX11_wholes_55 ?_
          refine lv_topi (fun z_77 q_77 => ?_)
          refine lv_iconst (v := (-1)) hx hb dX11_wholes_56 (by decide) ?_
          refine lv_ixor hx hb dX11_wholes_57 ?_
          refine lv_topi (fun z_78 q_78 => ?_)
          refine lv_iand hx hb dX11_wholes_58 ?_
          refine lv_topi (fun z_79 q_79 => ?_)
          refine lv_istore (lv' := [(5, .int z_79), (8, .int z_4), (0, .ref mm), (1, .int a), (2, .int b), (3, .int z_1), (4, .int mn), (6, .int sm), (7, .int i)]) hx hb dX11_wholes_59 hl (by decide) rfl (fun ls hl => ?_)
          refine lv_iload hx hb dX11_wholes_61 (lv_at hl 7 rfl) ?_
          refine lv_iload hx hb dX11_wholes_63 (lv_at hl 1 rfl) ?_
          refine lv_isub hx hb dX11_wholes_65 ?_
          refine lv_topi (fun z_80 q_80 => ?_)
          refine lv_istore (lv' := [(6, .int z_80), (5, .int z_79), (8, .int z_4), (0, .ref mm), (1, .int a), (2, .int b), (3, .int z_1), (4, .int mn), (7, .int i)]) hx hb dX11_wholes_66 hl (by decide) rfl (fun ls hl => ?_)
          obtain ⟨z_81, q_81, e_81⟩ := i_inc (a := z_4.toInt) (1) (rfl) (by decide) (by omega) (by omega)
          refine lv_iinc (v := z_81) (lv' := [(8, .int z_81), (6, .int z_80), (5, .int z_79), (0, .ref mm), (1, .int a), (2, .int b), (3, .int z_1), (4, .int mn), (7, .int i)]) hx hb dX11_wholes_68 hl (k := 2) rfl q_81 (by decide) rfl (fun ls hl => ?_)
          refine lv_aload_n hx hb dX11_wholes_71 rfl (lv_at hl 3 rfl) ?_
          refine va_get (D := D) (ci := 11) (v := .ref (q 1)) (C := RX11) (T := TX11) (N := 47) hx hb hts (by decide +kernel) hown hK.1 hP 0 rfl rfl 2 (by decide) (hts (.fieldLink RX11 14 "JugglingHallModel" "seenRows" "[I") (by decide +kernel)) (fun _ h9 => h9) rfl dX11_wholes_72 ?_
          refine lv_iload_n hx hb dX11_wholes_75 rfl (lv_at hl 4 rfl) ?_
          refine lv_iconst (v := 1) hx hb dX11_wholes_76 (by decide) ?_
          refine a_iadd (u := a.toInt) (v := 1) hx hb dX11_wholes_77 (rfl) (by decide) (by omega) (fun z_82 e_82 => ?_)
          refine lv_iload hx hb dX11_wholes_78 (lv_at hl 8 rfl) ?_
          refine a_iadd (u := (a.toInt + 1)) (v := i.toInt) hx hb dX11_wholes_80 (e_82) (rfl) (by omega) (fun z_83 e_83 => ?_)
          refine a_iald (f := f1) (u := ((a.toInt + 1) + i.toInt)) hx hb hK.1 hP 2 0 rfl rfl dX11_wholes_81 (e_83) (by omega) (fun z_84 q_84 e_84 => ?_)
          refine lv_istore (lv' := [(9, .int z_84), (8, .int z_81), (6, .int z_80), (5, .int z_79), (0, .ref mm), (1, .int a), (2, .int b), (3, .int z_1), (4, .int mn), (7, .int i)]) hx hb dX11_wholes_82 hl (by decide) rfl (fun ls hl => ?_)
          refine lv_iload hx hb dX11_wholes_84 (lv_at hl 0 rfl) ?_
          refine lv_bipush (v := 10) hx hb dX11_wholes_86 (by decide) ?_
          refine a_icmp_ge (u := z_84.toInt) (v := 10) (tgt := 105) hx hb dX11_wholes_88 (by decide) (rfl) (by decide) (fun c_85 => ?_) (fun c_85 => ?_)
          · refine lv_iload hx hb dX11_wholes_105 (lv_at hl 0 rfl) ?_
            refine lv_bipush (v := 10) hx hb dX11_wholes_107 (by decide) ?_
            refine a_icmp_ge (u := z_84.toInt) (v := 10) (tgt := 116) hx hb dX11_wholes_109 (by decide) (rfl) (by decide) (fun c_86 => ?_) (fun c_86 => absurd c_86 (by omega))
            exact join5 z_79 z_80 z_81 z_84 _ _ _ (by first | assumption | omega) hP hD hS (lv_sub hl [4, 5, 6, 7, 8, 3, 2, 9, 1, 0] rfl)
          · refine lv_iload hx hb dX11_wholes_91 (lv_at hl 1 rfl) ?_
            refine lv_iload hx hb dX11_wholes_93 (lv_at hl 0 rfl) ?_
            refine a_icmp_gt (u := (z_4.toInt + 1)) (v := z_84.toInt) (tgt := 105) hx hb dX11_wholes_95 (by decide) (e_81) (rfl) (fun c_87 => ?_) (fun c_87 => ?_)
            · refine lv_iload hx hb dX11_wholes_105 (lv_at hl 0 rfl) ?_
              refine lv_bipush (v := 10) hx hb dX11_wholes_107 (by decide) ?_
              refine a_icmp_ge (u := z_84.toInt) (v := 10) (tgt := 116) hx hb dX11_wholes_109 (by decide) (rfl) (by decide) (fun c_88 => absurd c_88 (by omega)) (fun c_88 => ?_)
              refine lv_bipush (v := 10) hx hb dX11_wholes_112 (by decide) ?_
              refine lv_istore (lv' := [(8, .int 10), (9, .int z_84), (6, .int z_80), (5, .int z_79), (0, .ref mm), (1, .int a), (2, .int b), (3, .int z_1), (4, .int mn), (7, .int i)]) hx hb dX11_wholes_114 hl (by decide) rfl (fun ls hl => ?_)
              have hz_89 : (10 : Int32).toInt = 10 := by decide
              exact join5 z_79 z_80 (10 : Int32) z_84 _ _ _ (by first | assumption | omega) hP hD hS (lv_sub hl [4, 5, 6, 7, 8, 3, 2, 9, 0, 1] rfl)
            · refine lv_iload hx hb dX11_wholes_98 (lv_at hl 0 rfl) ?_
              refine lv_istore (lv' := [(8, .int z_84), (9, .int z_84), (6, .int z_80), (5, .int z_79), (0, .ref mm), (1, .int a), (2, .int b), (3, .int z_1), (4, .int mn), (7, .int i)]) hx hb dX11_wholes_100 hl (by decide) rfl (fun ls hl => ?_)
              refine lv_goto (tgt := 116) hx hb dX11_wholes_102 (by decide) ?_
              exact join5 z_79 z_80 z_84 z_84 _ _ _ (by first | assumption | omega) hP hD hS (lv_sub hl [4, 5, 6, 7, 8, 3, 2, 9, 0, 1] rfl)
  have hz_90 : (0 : Int32).toInt = 0 := by decide
  have hz_91 : (0 : Int32).toInt = 0 := by decide
  have hz_92 : (0 : Int32).toInt = 0 := by decide
  have hz_93 : (0 : Int32).toInt = 0 := by decide
  exact loop26 ((wh_M g_2 ((0 : Int32).toInt + 1).toNat).toNat + 1) (0 : Int32) (0 : Int32) (0 : Int32) (0 : Int32) g_2 f24 _ _ _ (by omega) (by first | assumption | omega) (fun j9 h8 h9 => by rw [show j9 = 0 by omega, eg_2, pk_us]; decide) hP hD hS (lv_sub hl [5, 6, 7, 4, 3, 2, 1, 0] rfl)
set_option maxRecDepth 100000 in
set_option maxHeartbeats 4000000 in
theorem k_whole (l : Launch) (D : va_G) (cI cR cM : ClassId) (sz : Nat) {jn mm : Nat} {q : Nat → Nat} {x0 x1 x2 x3 x4 x5 x6 x7 x8 x9 x10 x11 x12 x13 x14 x15 x16 x17 x18 x19 x20 : Int32} {f0 f1 f2 f3 f4 f5 f6 f7 f8 f9 f10 f11 f12 f13 f14 f15 f16 f17 f18 f19 f20 f21 f22 f23 f24 : Nat → Int32} {b d : Int32}  (h1 : 0 ≤ x1.toInt ∧ x1.toInt ≤ 60) (hSe : SeenX f1) : Met l yX11_whole wsX11_whole ({ frames := 1, cells := 0, slots := 0, locals := 30 }) (P0 D cI cR cM [.ref mm, .int b, .int d] sz (mX mm q jn cI x0 x1 x2 x3 x4 x5 x6 x7 x8 x9 x10 x11 x12 x13 x14 x15 x16 x17 x18 x19 x20 f0 f1 f2 f3 f4 f5 f6 f7 f8 f9 f10 f11 f12 f13 f14 f15 f16 f17 f18 f19 f20 f21 f22 f23 f24)) (QG (S := Int32 × (Nat → Int32) × (Nat → Int32)) (fun u => some (.int u.1)) (fun u => mX mm q jn cI x0 x1 x2 x3 x4 x5 x6 x7 x8 x9 x10 x11 x12 x13 x14 x15 x16 x17 x18 x19 x20 f0 f1 f2 f3 f4 f5 f6 f7 f8 f9 f10 f11 f12 f13 f14 f15 f16 f17 f18 f19 f20 f21 f22 (u.2.1) (u.2.2)) (fun u => True) D (va_A (mX mm q jn cI x0 x1 x2 x3 x4 x5 x6 x7 x8 x9 x10 x11 x12 x13 x14 x15 x16 x17 x18 x19 x20 f0 f1 f2 f3 f4 f5 f6 f7 f8 f9 f10 f11 f12 f13 f14 f15 f16 f17 f18 f19 f20 f21 f22 f23 f24) sz)) 0 0 (va_A (mX mm q jn cI x0 x1 x2 x3 x4 x5 x6 x7 x8 x9 x10 x11 x12 x13 x14 x15 x16 x17 x18 x19 x20 f0 f1 f2 f3 f4 f5 f6 f7 f8 f9 f10 f11 f12 f13 f14 f15 f16 f17 f18 f19 f20 f21 f22 f23 f24) sz) := by
  refine go (cc := cX11_whole) (maxL := 5) (ret := (some .int)) (by decide) rfl (Nat.le_of_ble_eq_true rfl) ?_
  intro p e s m below meth c ls args Q hQ hsz hx hb hr hml hts hown hlocks hnm hP hK hD hl
  subst hsz
  have hD := hD.self (sz := s.heap.size)
  generalize hAe : va_A (mX mm q jn cI x0 x1 x2 x3 x4 x5 x6 x7 x8 x9 x10 x11 x12 x13 x14 x15 x16 x17 x18 x19 x20 f0 f1 f2 f3 f4 f5 f6 f7 f8 f9 f10 f11 f12 f13 f14 f15 f16 f17 f18 f19 f20 f21 f22 f23 f24) s.heap.size = A at hD hQ
  have hA : ∀ q, s.heap.size ≤ q → A q := fun q h => by rw [← hAe]; exact Or.inr h
  have hS : va_S A s.heap s.heap [] := va_S.rf
  have hl : lv_has ls 5 [(0, .ref mm), (1, .int b), (2, .int d)] := hl
  refine lv_aload_n hx hb dX11_whole_0 rfl (lv_at hl 0 rfl) ?_
  refine roP (va_runV (As := []) (rest := []) ⟨hx, hb, hml, hown, hts⟩ (k_seenRow l D cI cR cM _  (by first | assumption | omega) (by first | assumption | omega)) (cwV 0 hts gX11_whole_X11_seenRow rfl rfl rfl (by decide +kernel) ⟨Nat.le_of_ble_eq_true rfl, Nat.le_of_ble_eq_true rfl⟩) (pre_V hK hP hD 0 11 rfl rfl) rfl rfl hl.1 rfl (lv_room (Nat.le_of_ble_eq_true rfl)) dX11_whole_1 ⟨Nat.le_of_ble_eq_true rfl, Nat.le_of_ble_eq_true rfl⟩) hS hA hP (fun r_1 H locs hw hP hS => ?_)
  have h_1 : (r_1.toInt = -1 ∨ IsSeen f1 r_1.toInt) := hw
  refine lv_istore_n (lv' := [(3, .int r_1), (0, .ref mm), (1, .int b), (2, .int d)]) hx hb dX11_whole_4 rfl hl (by decide) rfl (fun ls hl => ?_)
  refine lv_iload_n hx hb dX11_whole_5 rfl (lv_at hl 0 rfl) ?_
  refine a_if_lt (u := r_1.toInt) (tgt := 24) hx hb dX11_whole_6 (by decide) (rfl) (fun c_2 => ?_) (fun c_2 => ?_)
  · refine lv_iconst (v := (-1)) hx hb dX11_whole_24 (by decide) ?_
    have hz_3 : (-1 : Int32).toInt = (-1) := by decide
    exact g_iret ((-1 : Int32), f23, f24) hx hb hr hlocks hS rfl (trivial) hP hD hQ (Nat.le_of_ble_eq_true rfl) (Nat.le_of_ble_eq_true rfl) dX11_whole_25
  · have hs9 := h_1.resolve_left (by omega)
    have hs0 := hs9
    obtain ⟨hs1, hs2, hs3, hs4, hs5⟩ := hs0
    refine lv_iload_n hx hb dX11_whole_9 rfl (lv_at hl 2 rfl) ?_
    refine lv_iconst (v := 0) hx hb dX11_whole_10 (by decide) ?_
    refine lv_bipush (v := 9) hx hb dX11_whole_11 (by decide) ?_
    have hz_4 : (0 : Int32).toInt = 0 := by decide
    have hz_5 : (9 : Int32).toInt = 9 := by decide
    refine roP (va_runS (As := [.int b, .int 0, .int 9]) (rest := []) ⟨hx, hb, hml, hown, hts⟩ (k_isIn l D cI cR cM _  ) (va_cwS 3 hts gX11_whole_X11_isIn rfl rfl rfl (by decide +kernel) ⟨Nat.le_of_ble_eq_true rfl, Nat.le_of_ble_eq_true rfl⟩) (pre_S hK va_P_nil (va_D_nil (A := fun _ => True))) rfl rfl hl.1 rfl (lv_room (Nat.le_of_ble_eq_true rfl)) dX11_whole_13 ⟨Nat.le_of_ble_eq_true rfl, Nat.le_of_ble_eq_true rfl⟩) hS hA hP (fun r_6 H locs hw hP hS => ?_)
    have h_6 : ((r_6.toInt = 1 ∧ (0 : Int32).toInt ≤ b.toInt ∧ b.toInt ≤ (9 : Int32).toInt) ∨ (r_6.toInt = 0 ∧ (b.toInt < (0 : Int32).toInt ∨ (9 : Int32).toInt < b.toInt))) := hw
    refine a_if_eq (u := r_6.toInt) (tgt := 24) hx hb dX11_whole_16 (by decide) (rfl) (fun c_7 => ?_) (fun c_7 => ?_)
    · refine lv_iconst (v := (-1)) hx hb dX11_whole_24 (by decide) ?_
      have hz_8 : (-1 : Int32).toInt = (-1) := by decide
      exact g_iret ((-1 : Int32), f23, f24) hx hb hr hlocks hS rfl (trivial) hP hD hQ (Nat.le_of_ble_eq_true rfl) (Nat.le_of_ble_eq_true rfl) dX11_whole_25
    · refine lv_iload_n hx hb dX11_whole_19 rfl (lv_at hl 3 rfl) ?_
      refine lv_iconst (v := (-1)) hx hb dX11_whole_20 (by decide) ?_
      refine a_icmp_ge (u := d.toInt) (v := (-1)) (tgt := 26) hx hb dX11_whole_21 (by decide) (rfl) (by decide) (fun c_9 => ?_) (fun c_9 => ?_)
      · refine lv_aload_n hx hb dX11_whole_26 rfl (lv_at hl 1 rfl) ?_
        refine lv_iload_n hx hb dX11_whole_27 rfl (lv_at hl 0 rfl) ?_
        refine lv_iload_n hx hb dX11_whole_28 rfl (lv_at hl 2 rfl) ?_
        refine call_g (wr := []) (va_runV (As := [.int r_1, .int b]) (rest := []) ⟨hx, hb, hml, hown, hts⟩ (k_wholes l D cI cR cM _  (by first | assumption | omega)) (cwV 2 hts gX11_whole_X11_wholes rfl rfl rfl (by decide +kernel) ⟨Nat.le_of_ble_eq_true rfl, Nat.le_of_ble_eq_true rfl⟩) (pre_V hK hP hD 0 11 rfl rfl) rfl rfl hl.1 rfl (lv_room (Nat.le_of_ble_eq_true rfl)) dX11_whole_29 ⟨Nat.le_of_ble_eq_true rfl, Nat.le_of_ble_eq_true rfl⟩) hP hD hS hA [0, 1, 2, 3, 4, 5, 6, 7, 8, 9, 10, 11, 12, 13, 14, 15, 16, 17, 18, 19, 20, 21, 22, 23, 24, 25] [] (by with_unfolding_all rfl) rfl (by decide) (by decide) (fun u_10 H locs hw hP hD hS => ?_)
        obtain ⟨r_10, g23_10, g24_10⟩ := u_10
        have hP : va_P D vwCl (mX mm q jn cI x0 x1 x2 x3 x4 x5 x6 x7 x8 x9 x10 x11 x12 x13 x14 x15 x16 x17 x18 x19 x20 f0 f1 f2 f3 f4 f5 f6 f7 f8 f9 f10 f11 f12 f13 f14 f15 f16 f17 f18 f19 f20 f21 f22 g23_10 g24_10) H := hP
        have hD : va_D A (mX mm q jn cI x0 x1 x2 x3 x4 x5 x6 x7 x8 x9 x10 x11 x12 x13 x14 x15 x16 x17 x18 x19 x20 f0 f1 f2 f3 f4 f5 f6 f7 f8 f9 f10 f11 f12 f13 f14 f15 f16 f17 f18 f19 f20 f21 f22 g23_10 g24_10) := hD
        refine lv_istore (lv' := [(4, .int r_10), (3, .int r_1), (0, .ref mm), (1, .int b), (2, .int d)]) hx hb dX11_whole_32 hl (by decide) rfl (fun ls hl => ?_)
        refine lv_iload_n hx hb dX11_whole_34 rfl (lv_at hl 4 rfl) ?_
        refine lv_iconst (v := (-1)) hx hb dX11_whole_35 (by decide) ?_
        refine a_icmp_ne (u := d.toInt) (v := (-1)) (tgt := 44) hx hb dX11_whole_36 (by decide) (rfl) (by decide) (fun c_11 => ?_) (fun c_11 => ?_)
        · refine lv_iload hx hb dX11_whole_44 (lv_at hl 0 rfl) ?_
          refine a_if_le (u := r_10.toInt) (tgt := 68) hx hb dX11_whole_46 (by decide) (rfl) (fun c_12 => ?_) (fun c_12 => ?_)
          · refine lv_iconst (v := (-1)) hx hb dX11_whole_68 (by decide) ?_
            have hz_13 : (-1 : Int32).toInt = (-1) := by decide
            exact g_iret ((-1 : Int32), g23_10, g24_10) hx hb hr hlocks hS rfl (trivial) hP hD hQ (Nat.le_of_ble_eq_true rfl) (Nat.le_of_ble_eq_true rfl) dX11_whole_69
          · refine lv_iload_n hx hb dX11_whole_49 rfl (lv_at hl 4 rfl) ?_
            refine lv_aload_n hx hb dX11_whole_50 rfl (lv_at hl 2 rfl) ?_
            refine va_get (D := D) (ci := 11) (v := .ref (q 1)) (C := RX11) (T := TX11) (N := 47) hx hb hts (by decide +kernel) hown hK.1 hP 0 rfl rfl 2 (by decide) (hts (.fieldLink RX11 14 "JugglingHallModel" "seenRows" "[I") (by decide +kernel)) (fun _ h9 => h9) rfl dX11_whole_51 ?_
            refine lv_iload_n hx hb dX11_whole_54 rfl (lv_at hl 1 rfl) ?_
            refine a_iald (f := f1) (u := r_1.toInt) hx hb hK.1 hP 2 0 rfl rfl dX11_whole_55 (rfl) (by omega) (fun z_14 q_14 e_14 => ?_)
            refine a_icmp_ge (u := d.toInt) (v := z_14.toInt) (tgt := 68) hx hb dX11_whole_56 (by decide) (rfl) (rfl) (fun c_15 => ?_) (fun c_15 => ?_)
            · refine lv_iconst (v := (-1)) hx hb dX11_whole_68 (by decide) ?_
              have hz_16 : (-1 : Int32).toInt = (-1) := by decide
              exact g_iret ((-1 : Int32), g23_10, g24_10) hx hb hr hlocks hS rfl (trivial) hP hD hQ (Nat.le_of_ble_eq_true rfl) (Nat.le_of_ble_eq_true rfl) dX11_whole_69
            · refine lv_aload_n hx hb dX11_whole_59 rfl (lv_at hl 2 rfl) ?_
              refine va_get (D := D) (ci := 11) (v := .ref (q 24)) (C := RX11) (T := TX11) (N := 47) hx hb hts (by decide +kernel) hown hK.1 hP 0 rfl rfl 46 (by decide) (hts (.fieldLink RX11 90 "JugglingHallModel" "first" "[I") (by decide +kernel)) (fun _ h9 => h9) rfl dX11_whole_60 ?_
              refine lv_iload_n hx hb dX11_whole_63 rfl (lv_at hl 4 rfl) ?_
              refine a_iald (f := g24_10) (u := d.toInt) hx hb hK.1 hP 25 0 rfl rfl dX11_whole_64 (rfl) (by omega) (fun z_17 q_17 e_17 => ?_)
              refine lv_goto (tgt := 69) hx hb dX11_whole_65 (by decide) ?_
              exact g_iret (z_17, g23_10, g24_10) hx hb hr hlocks hS rfl (trivial) hP hD hQ (Nat.le_of_ble_eq_true rfl) (Nat.le_of_ble_eq_true rfl) dX11_whole_69
        · refine lv_iload hx hb dX11_whole_39 (lv_at hl 0 rfl) ?_
          refine lv_goto (tgt := 69) hx hb dX11_whole_41 (by decide) ?_
          exact g_iret (r_10, g23_10, g24_10) hx hb hr hlocks hS rfl (trivial) hP hD hQ (Nat.le_of_ble_eq_true rfl) (Nat.le_of_ble_eq_true rfl) dX11_whole_69
      · refine lv_iconst (v := (-1)) hx hb dX11_whole_24 (by decide) ?_
        have hz_18 : (-1 : Int32).toInt = (-1) := by decide
        exact g_iret ((-1 : Int32), f23, f24) hx hb hr hlocks hS rfl (trivial) hP hD hQ (Nat.le_of_ble_eq_true rfl) (Nat.le_of_ble_eq_true rfl) dX11_whole_25
theorem rows_put {jn : Nat} {R R2 : Nat → Int32} {t k n : Int} (h : RowsX jn R) (ht : 0 ≤ t) (hk : 0 ≤ k ∧ k < 8) (h1 : ∀ i : Int, 0 ≤ i → (i < 150 * (8 * t + k) ∨ 150 * (8 * t + k) + 150 ≤ i) → R2 i.toNat = R i.toNat) (h2 : (R2 (150 * (8 * t + k)).toNat).toInt = n) (hn : 0 ≤ n ∧ n ≤ 24) (h3 : CellsX jn R2 (150 * (8 * t + k) + 1) (150 * (8 * t + k) + 1 + 6 * n)) : RowsX jn R2 := by
  intro t2 k2 t0 t1 k0 k1
  by_cases e : 8 * t2 + k2 = 8 * t + k
  · unfold RowX
    rw [e, h2]
    exact ⟨hn.1, hn.2, h3⟩
  · obtain ⟨a1, a2, a3⟩ := h t2 k2 t0 t1 k0 k1
    unfold RowX
    rw [h1 (150 * (8 * t2 + k2)) (by omega) (by omega)]
    refine ⟨a1, a2, fun i i0 i1 => ?_, fun j j0 j1 q => ?_⟩
    · rw [h1 i (by omega) (by omega)]; exact a3.1 i i0 i1
    · rw [h1 _ (by omega) (by omega)] at q ⊢; exact a3.2 j j0 j1 q
theorem rowz_put {jn : Nat} {R R2 : Nat → Int32} {t k n : Int} (hX : RowsX jn R) (h : RowsZ jn R) (ht : 0 ≤ t) (hk : 0 ≤ k ∧ k < 8) (h1 : ∀ i : Int, 0 ≤ i → (i < 150 * (8 * t + k) ∨ 150 * (8 * t + k) + 150 ≤ i) → R2 i.toNat = R i.toNat) (h2 : (R2 (150 * (8 * t + k)).toNat).toInt = n) (h3 : ZX jn R2 (150 * (8 * t + k) + 1) n) : RowsZ jn R2 := by
  intro t2 k2 t0 t1 k0 k1 b x b0 b1 x0 x1
  by_cases e : 8 * t2 + k2 = 8 * t + k
  · rw [e, h2] at b1
    rw [e]
    exact h3 b x b0 b1 x0 x1
  · have a2 := (hX t2 k2 t0 t1 k0 k1).2.1
    rw [h1 (150 * (8 * t2 + k2)) (by omega) (by omega)] at b1
    rw [h1 _ (by omega) (by omega)]; exact h t2 k2 t0 t1 k0 k1 b x b0 b1 x0 x1
theorem zx_flat {jn : Nat} {R : Nat → Int32} {m n : Int} (h : ∀ i : Int, 0 ≤ i → i < 6 * n → 2 * (jn : Int) ≤ i % 6 → (R (m + i).toNat).toInt = 0) (hj : 0 ≤ (jn : Int)) : ZX jn R m n := by
  intro b x b0 b1 x0 x1
  have := h (6 * b + x) (by omega) (by omega) (by omega)
  rw [show m + (6 * b + x) = m + 6 * b + x by omega] at this
  exact this
set_option maxRecDepth 100000 in
set_option maxHeartbeats 4000000 in
theorem k_drop (l : Launch) (D : va_G) (cI cR cM : ClassId) (sz : Nat) {jn mm : Nat} {q : Nat → Nat} {x0 x1 x2 x3 x4 x5 x6 x7 x8 x9 x10 x11 x12 x13 x14 x15 x16 x17 x18 x19 x20 : Int32} {f0 f1 f2 f3 f4 f5 f6 f7 f8 f9 f10 f11 f12 f13 f14 f15 f16 f17 f18 f19 f20 f21 f22 f23 f24 : Nat → Int32} {k c9 d9 : Int32}  (hj : 1 ≤ jn ∧ jn ≤ 3) (h0 : 0 ≤ x0.toInt ∧ x0.toInt ≤ 60) (h1 : 0 ≤ x1.toInt ∧ x1.toInt ≤ 60) (hR : RowsX jn f0) (hRZ : RowsZ jn f0) (h10 : x1.toInt ≤ x0.toInt) : Met l yX11_drop wsX11_drop ({ frames := 5, cells := 0, slots := 0, locals := 124 }) (P0 D cI cR cM [.ref mm, .int k, .int c9, .int d9] sz (mX mm q jn cI x0 x1 x2 x3 x4 x5 x6 x7 x8 x9 x10 x11 x12 x13 x14 x15 x16 x17 x18 x19 x20 f0 f1 f2 f3 f4 f5 f6 f7 f8 f9 f10 f11 f12 f13 f14 f15 f16 f17 f18 f19 f20 f21 f22 f23 f24)) (QG (S := Int32 × Int32 × Int32 × Int32 × Int32 × Int32 × (Nat → Int32) × (Nat → Int32) × (Nat → Int32) × (Nat → Int32) × (Nat → Int32) × (Nat → Int32)) (fun u => some (.int u.1)) (fun u => mX mm q jn cI (u.2.1) (u.2.2.1) x2 x3 x4 x5 x6 x7 x8 x9 x10 x11 x12 x13 x14 (u.2.2.2.1) (u.2.2.2.2.1) (u.2.2.2.2.2.1) x18 x19 x20 (u.2.2.2.2.2.2.1) f1 f2 f3 f4 f5 f6 f7 f8 f9 f10 f11 (u.2.2.2.2.2.2.2.1) (u.2.2.2.2.2.2.2.2.1) (u.2.2.2.2.2.2.2.2.2.1) (u.2.2.2.2.2.2.2.2.2.2.1) (u.2.2.2.2.2.2.2.2.2.2.2) f17 f18 f19 f20 f21 f22 f23 f24) (fun u => (0 ≤ u.2.1.toInt ∧ u.2.1.toInt ≤ 60) ∧ (0 ≤ u.2.2.1.toInt ∧ u.2.2.1.toInt ≤ u.2.1.toInt) ∧ (RowsX jn u.2.2.2.2.2.2.1) ∧ (RowsZ jn u.2.2.2.2.2.2.1)) D (va_A (mX mm q jn cI x0 x1 x2 x3 x4 x5 x6 x7 x8 x9 x10 x11 x12 x13 x14 x15 x16 x17 x18 x19 x20 f0 f1 f2 f3 f4 f5 f6 f7 f8 f9 f10 f11 f12 f13 f14 f15 f16 f17 f18 f19 f20 f21 f22 f23 f24) sz)) 0 0 (va_A (mX mm q jn cI x0 x1 x2 x3 x4 x5 x6 x7 x8 x9 x10 x11 x12 x13 x14 x15 x16 x17 x18 x19 x20 f0 f1 f2 f3 f4 f5 f6 f7 f8 f9 f10 f11 f12 f13 f14 f15 f16 f17 f18 f19 f20 f21 f22 f23 f24) sz) := by
  refine go (cc := cX11_drop) (maxL := 8) (ret := (some .int)) (by decide) rfl (Nat.le_of_ble_eq_true rfl) ?_
  intro p e s m below meth c ls args Q hQ hsz hx hb hr hml hts hown hlocks hnm hP hK hD hl
  subst hsz
  have hD := hD.self (sz := s.heap.size)
  generalize hAe : va_A (mX mm q jn cI x0 x1 x2 x3 x4 x5 x6 x7 x8 x9 x10 x11 x12 x13 x14 x15 x16 x17 x18 x19 x20 f0 f1 f2 f3 f4 f5 f6 f7 f8 f9 f10 f11 f12 f13 f14 f15 f16 f17 f18 f19 f20 f21 f22 f23 f24) s.heap.size = A at hD hQ
  have hA : ∀ q, s.heap.size ≤ q → A q := fun q h => by rw [← hAe]; exact Or.inr h
  have hS : va_S A s.heap s.heap [] := va_S.rf
  have hl : lv_has ls 8 [(0, .ref mm), (1, .int k), (2, .int c9), (3, .int d9)] := hl
  refine lv_aload_n hx hb dX11_drop_0 rfl (lv_at hl 0 rfl) ?_
  refine lv_iload_n hx hb dX11_drop_1 rfl (lv_at hl 1 rfl) ?_
  refine call_g (wr := []) (va_runV (As := [.int k]) (rest := []) ⟨hx, hb, hml, hown, hts⟩ (k_tied l D cI cR cM _  (by first | assumption | omega) (by first | assumption | omega) (by first | assumption | omega) (by first | assumption | omega) (by first | assumption | omega)) (cwV 1 hts gX11_drop_X11_tied rfl rfl rfl (by decide +kernel) ⟨Nat.le_of_ble_eq_true rfl, Nat.le_of_ble_eq_true rfl⟩) (pre_V hK hP hD 0 11 rfl rfl) rfl rfl hl.1 rfl (lv_room (Nat.le_of_ble_eq_true rfl)) dX11_drop_2 ⟨Nat.le_of_ble_eq_true rfl, Nat.le_of_ble_eq_true rfl⟩) hP hD hS hA [0, 1, 2, 3, 4, 5, 6, 7, 8, 9, 10, 11, 12, 13, 14, 15, 16, 17, 18, 19, 20, 21, 22, 23, 24, 25] [] (by with_unfolding_all rfl) rfl (by decide) (by decide) (fun u_1 H locs hw hP hD hS => ?_)
  obtain ⟨r_1, y15_1, y16_1, y17_1, g12_1, g13_1, g14_1, g15_1, g16_1⟩ := u_1
  have hP : va_P D vwCl (mX mm q jn cI x0 x1 x2 x3 x4 x5 x6 x7 x8 x9 x10 x11 x12 x13 x14 y15_1 y16_1 y17_1 x18 x19 x20 f0 f1 f2 f3 f4 f5 f6 f7 f8 f9 f10 f11 g12_1 g13_1 g14_1 g15_1 g16_1 f17 f18 f19 f20 f21 f22 f23 f24) H := hP
  have hD : va_D A (mX mm q jn cI x0 x1 x2 x3 x4 x5 x6 x7 x8 x9 x10 x11 x12 x13 x14 y15_1 y16_1 y17_1 x18 x19 x20 f0 f1 f2 f3 f4 f5 f6 f7 f8 f9 f10 f11 g12_1 g13_1 g14_1 g15_1 g16_1 f17 f18 f19 f20 f21 f22 f23 f24) := hD
  obtain ⟨h_1, hle_1⟩ : (r_1.toInt = -1 ∨ (IsRow jn f0 r_1.toInt ∧ ZX jn f0 (r_1.toInt + 1) (f0 r_1.toInt.toNat).toInt ∧ cy_CO f0 r_1.toInt (f0 r_1.toInt.toNat).toInt g14_1 (3 * (f0 r_1.toInt.toNat).toInt) ∧ 0 ≤ y17_1.toInt ∧ y17_1.toInt ≤ 144)) ∧ (r_1.toInt ≤ 150 * (8 * x1.toInt + 7)) := hw
  refine lv_istore (lv' := [(4, .int r_1), (0, .ref mm), (1, .int k), (2, .int c9), (3, .int d9)]) hx hb dX11_drop_5 hl (by decide) rfl (fun ls hl => ?_)
  refine lv_iload hx hb dX11_drop_7 (lv_at hl 0 rfl) ?_
  refine a_if_lt (u := r_1.toInt) (tgt := 53) hx hb dX11_drop_9 (by decide) (rfl) (fun c_2 => ?_) (fun c_2 => ?_)
  · refine lv_iconst (v := (-1)) hx hb dX11_drop_53 (by decide) ?_
    have hz_3 : (-1 : Int32).toInt = (-1) := by decide
    exact g_iret ((-1 : Int32), x0, x1, y15_1, y16_1, y17_1, f0, g12_1, g13_1, g14_1, g15_1, g16_1) hx hb hr hlocks hS rfl (⟨show 0 ≤ x0.toInt ∧ x0.toInt ≤ 60 from (by first | assumption | omega), show 0 ≤ x1.toInt ∧ x1.toInt ≤ x0.toInt from (by first | assumption | omega), show RowsX jn f0 from (hR), show RowsZ jn f0 from (hRZ)⟩) hP hD hQ (Nat.le_of_ble_eq_true rfl) (Nat.le_of_ble_eq_true rfl) dX11_drop_54
  · obtain ⟨hr0, hZ9, hC9, hcc⟩ := h_1.resolve_left (by omega)
    have hrow9 := hr0
    obtain ⟨hr1, hr2, hr3, hr4, hr5, hr6⟩ := hrow9
    refine lv_iload_n hx hb dX11_drop_12 rfl (lv_at hl 4 rfl) ?_
    refine lv_iconst (v := 0) hx hb dX11_drop_13 (by decide) ?_
    refine lv_bipush (v := 7) hx hb dX11_drop_14 (by decide) ?_
    have hz_4 : (0 : Int32).toInt = 0 := by decide
    have hz_5 : (7 : Int32).toInt = 7 := by decide
    refine roP (va_runS (As := [.int d9, .int 0, .int 7]) (rest := []) ⟨hx, hb, hml, hown, hts⟩ (k_isIn l D cI cR cM _  ) (va_cwS 3 hts gX11_drop_X11_isIn rfl rfl rfl (by decide +kernel) ⟨Nat.le_of_ble_eq_true rfl, Nat.le_of_ble_eq_true rfl⟩) (pre_S hK va_P_nil (va_D_nil (A := fun _ => True))) rfl rfl hl.1 rfl (lv_room (Nat.le_of_ble_eq_true rfl)) dX11_drop_16 ⟨Nat.le_of_ble_eq_true rfl, Nat.le_of_ble_eq_true rfl⟩) hS hA hP (fun r_6 H locs hw hP hS => ?_)
    have h_6 : ((r_6.toInt = 1 ∧ (0 : Int32).toInt ≤ d9.toInt ∧ d9.toInt ≤ (7 : Int32).toInt) ∨ (r_6.toInt = 0 ∧ (d9.toInt < (0 : Int32).toInt ∨ (7 : Int32).toInt < d9.toInt))) := hw
    refine a_if_eq (u := r_6.toInt) (tgt := 53) hx hb dX11_drop_19 (by decide) (rfl) (fun c_7 => ?_) (fun c_7 => ?_)
    · refine lv_iconst (v := (-1)) hx hb dX11_drop_53 (by decide) ?_
      have hz_8 : (-1 : Int32).toInt = (-1) := by decide
      exact g_iret ((-1 : Int32), x0, x1, y15_1, y16_1, y17_1, f0, g12_1, g13_1, g14_1, g15_1, g16_1) hx hb hr hlocks hS rfl (⟨show 0 ≤ x0.toInt ∧ x0.toInt ≤ 60 from (by first | assumption | omega), show 0 ≤ x1.toInt ∧ x1.toInt ≤ x0.toInt from (by first | assumption | omega), show RowsX jn f0 from (hR), show RowsZ jn f0 from (hRZ)⟩) hP hD hQ (Nat.le_of_ble_eq_true rfl) (Nat.le_of_ble_eq_true rfl) dX11_drop_54
    · refine lv_aload_n hx hb dX11_drop_22 rfl (lv_at hl 1 rfl) ?_
      refine va_get (D := D) (ci := 11) (v := .int x0) (C := RX11) (T := TX11) (N := 47) hx hb hts (by decide +kernel) hown hK.1 hP 0 rfl rfl 3 (by decide) (hts (.fieldLink RX11 185 "JugglingHallModel" "time" "I") (by decide +kernel)) (fun _ h9 => h9) rfl dX11_drop_23 ?_
      refine lv_bipush (v := 60) hx hb dX11_drop_26 (by decide) ?_
      refine a_icmp_eq (u := x0.toInt) (v := 60) (tgt := 53) hx hb dX11_drop_28 (by decide) (rfl) (by decide) (fun c_9 => ?_) (fun c_9 => ?_)
      · refine lv_iconst (v := (-1)) hx hb dX11_drop_53 (by decide) ?_
        have hz_10 : (-1 : Int32).toInt = (-1) := by decide
        exact g_iret ((-1 : Int32), x0, x1, y15_1, y16_1, y17_1, f0, g12_1, g13_1, g14_1, g15_1, g16_1) hx hb hr hlocks hS rfl (⟨show 0 ≤ x0.toInt ∧ x0.toInt ≤ 60 from (by first | assumption | omega), show 0 ≤ x1.toInt ∧ x1.toInt ≤ x0.toInt from (by first | assumption | omega), show RowsX jn f0 from (hR), show RowsZ jn f0 from (hRZ)⟩) hP hD hQ (Nat.le_of_ble_eq_true rfl) (Nat.le_of_ble_eq_true rfl) dX11_drop_54
      · refine lv_iload_n hx hb dX11_drop_31 rfl (lv_at hl 3 rfl) ?_
        refine a_if_lt (u := c9.toInt) (tgt := 53) hx hb dX11_drop_32 (by decide) (rfl) (fun c_11 => ?_) (fun c_11 => ?_)
        · refine lv_iconst (v := (-1)) hx hb dX11_drop_53 (by decide) ?_
          have hz_12 : (-1 : Int32).toInt = (-1) := by decide
          exact g_iret ((-1 : Int32), x0, x1, y15_1, y16_1, y17_1, f0, g12_1, g13_1, g14_1, g15_1, g16_1) hx hb hr hlocks hS rfl (⟨show 0 ≤ x0.toInt ∧ x0.toInt ≤ 60 from (by first | assumption | omega), show 0 ≤ x1.toInt ∧ x1.toInt ≤ x0.toInt from (by first | assumption | omega), show RowsX jn f0 from (hR), show RowsZ jn f0 from (hRZ)⟩) hP hD hQ (Nat.le_of_ble_eq_true rfl) (Nat.le_of_ble_eq_true rfl) dX11_drop_54
        · refine lv_aload_n hx hb dX11_drop_35 rfl (lv_at hl 1 rfl) ?_
          refine va_get (D := D) (ci := 11) (v := .int y17_1) (C := RX11) (T := TX11) (N := 47) hx hb hts (by decide +kernel) hown hK.1 hP 0 rfl rfl 35 (by decide) (hts (.fieldLink RX11 268 "JugglingHallModel" "cycleCount" "I") (by decide +kernel)) (fun _ h9 => h9) rfl dX11_drop_36 ?_
          refine lv_bipush (v := 31) hx hb dX11_drop_39 (by decide) ?_
          refine a_icmp_ge (u := y17_1.toInt) (v := 31) (tgt := 55) hx hb dX11_drop_41 (by decide) (rfl) (by decide) (fun c_13 => ?_) (fun c_13 => ?_)
          · refine lv_aload_n hx hb dX11_drop_55 rfl (lv_at hl 1 rfl) ?_
            refine lv_dup hx hb dX11_drop_56 rfl ?_
            refine va_get (D := D) (ci := 11) (v := .int x0) (C := RX11) (T := TX11) (N := 47) hx hb hts (by decide +kernel) hown hK.1 hP 0 rfl rfl 3 (by decide) (hts (.fieldLink RX11 185 "JugglingHallModel" "time" "I") (by decide +kernel)) (fun _ h9 => h9) rfl dX11_drop_57 ?_
            refine lv_iconst (v := 1) hx hb dX11_drop_60 (by decide) ?_
            refine a_iadd (u := x0.toInt) (v := 1) hx hb dX11_drop_61 (rfl) (by decide) (by omega) (fun z_14 e_14 => ?_)
            refine mp_0 hx hb hts (by decide +kernel) hown hK hP hD hS (hts (.fieldLink RX11 185 "JugglingHallModel" "time" "I") (by decide +kernel)) dX11_drop_62 (fun H locs hP hD hS => ?_)
            refine lv_aload_n hx hb dX11_drop_65 rfl (lv_at hl 1 rfl) ?_
            refine va_get (D := D) (ci := 11) (v := .int z_14) (C := RX11) (T := TX11) (N := 47) hx hb hts (by decide +kernel) hown hK.1 hP 0 rfl rfl 3 (by decide) (hts (.fieldLink RX11 185 "JugglingHallModel" "time" "I") (by decide +kernel)) (fun _ h9 => h9) rfl dX11_drop_66 ?_
            refine lv_iload_n hx hb dX11_drop_69 rfl (lv_at hl 4 rfl) ?_
            refine roP (va_runS (As := [.int z_14, .int d9]) (rest := []) ⟨hx, hb, hml, hown, hts⟩ (k_rowAt l D cI cR cM _  (by first | assumption | omega) (by first | assumption | omega)) (va_cwS 2 hts gX11_drop_X11_rowAt rfl rfl rfl (by decide +kernel) ⟨Nat.le_of_ble_eq_true rfl, Nat.le_of_ble_eq_true rfl⟩) (pre_S hK va_P_nil (va_D_nil (A := fun _ => True))) rfl rfl hl.1 rfl (lv_room (Nat.le_of_ble_eq_true rfl)) dX11_drop_70 ⟨Nat.le_of_ble_eq_true rfl, Nat.le_of_ble_eq_true rfl⟩) hS hA hP (fun r_15 H locs hw hP hS => ?_)
            have h_15 : (r_15.toInt = 150 * (8 * z_14.toInt + d9.toInt)) := hw
            refine lv_istore (lv' := [(5, .int r_15), (4, .int r_1), (0, .ref mm), (1, .int k), (2, .int c9), (3, .int d9)]) hx hb dX11_drop_73 hl (by decide) rfl (fun ls hl => ?_)
            refine lv_aload_n hx hb dX11_drop_75 rfl (lv_at hl 2 rfl) ?_
            refine va_get (D := D) (ci := 11) (v := .ref (q 0)) (C := RX11) (T := TX11) (N := 47) hx hb hts (by decide +kernel) hown hK.1 hP 0 rfl rfl 1 (by decide) (hts (.fieldLink RX11 8 "JugglingHallModel" "rows" "[I") (by decide +kernel)) (fun _ h9 => h9) rfl dX11_drop_76 ?_
            refine lv_iload hx hb dX11_drop_79 (lv_at hl 0 rfl) ?_
            refine lv_aload_n hx hb dX11_drop_81 rfl (lv_at hl 2 rfl) ?_
            refine va_get (D := D) (ci := 11) (v := .ref (q 0)) (C := RX11) (T := TX11) (N := 47) hx hb hts (by decide +kernel) hown hK.1 hP 0 rfl rfl 1 (by decide) (hts (.fieldLink RX11 8 "JugglingHallModel" "rows" "[I") (by decide +kernel)) (fun _ h9 => h9) rfl dX11_drop_82 ?_
            refine lv_iload hx hb dX11_drop_85 (lv_at hl 1 rfl) ?_
            refine a_iald (f := f0) (u := r_1.toInt) hx hb hK.1 hP 1 0 rfl rfl dX11_drop_87 (rfl) (by omega) (fun z_16 q_16 e_16 => ?_)
            refine ma_0 (u := r_15.toInt) hx hb hK hP hD hS dX11_drop_88 (rfl) (by omega) (fun g_17 H locs eg_17 hP hD hS => ?_)
            have hu0 : ∀ i9 : Int, 0 ≤ i9 → (i9 < r_15.toInt ∨ r_15.toInt + 150 ≤ i9) → g_17 i9.toNat = f0 i9.toNat := fun i9 h8 h9 => by rw [eg_17, un_i h8 (by omega) (by omega)]
            have hn0 : (g_17 r_15.toInt.toNat).toInt = (f0 r_1.toInt.toNat).toInt := by rw [eg_17, show r_15.toInt = r_15.toInt by omega, pk_us]; omega
            refine lv_iconst (v := 0) hx hb dX11_drop_89 (by decide) ?_
            refine lv_istore (lv' := [(6, .int 0), (5, .int r_15), (4, .int r_1), (0, .ref mm), (1, .int k), (2, .int c9), (3, .int d9)]) hx hb dX11_drop_90 hl (by decide) rfl (fun ls hl => ?_)
            have loop92 : ∀ (ddloop92 : Nat) (t : Int32) (ga : (Nat → Int32)) (H : Heap) (locs : List Loc) (ls : Array Slot), (6 * (f0 r_1.toInt.toNat).toInt - t.toInt).toNat < ddloop92 → (0 ≤ t.toInt ∧ t.toInt ≤ 6 * (f0 r_1.toInt.toNat).toInt) → (∀ i9 : Int, 0 ≤ i9 → (i9 < r_15.toInt ∨ r_15.toInt + 150 ≤ i9) → ga i9.toNat = f0 i9.toNat) → ((ga r_15.toInt.toNat).toInt = (f0 r_1.toInt.toNat).toInt) → (∀ i9 : Int, 0 ≤ i9 → i9 < t.toInt → CellX jn (ga (r_15.toInt + 1 + i9).toNat)) → (∀ i9 : Int, 0 ≤ i9 → i9 < t.toInt → 2 * (jn : Int) ≤ i9 % 6 → (ga (r_15.toInt + 1 + i9).toNat).toInt = 0) → va_P D vwCl (mX mm q jn cI z_14 x1 x2 x3 x4 x5 x6 x7 x8 x9 x10 x11 x12 x13 x14 y15_1 y16_1 y17_1 x18 x19 x20 ga f1 f2 f3 f4 f5 f6 f7 f8 f9 f10 f11 g12_1 g13_1 g14_1 g15_1 g16_1 f17 f18 f19 f20 f21 f22 f23 f24) H → va_D A (mX mm q jn cI z_14 x1 x2 x3 x4 x5 x6 x7 x8 x9 x10 x11 x12 x13 x14 y15_1 y16_1 y17_1 x18 x19 x20 ga f1 f2 f3 f4 f5 f6 f7 f8 f9 f10 f11 g12_1 g13_1 g14_1 g15_1 g16_1 f17 f18 f19 f20 f21 f22 f23 f24) → va_S A s.heap H locs → lv_has ls 8 [(0, .ref mm), (1, .int k), (2, .int c9), (3, .int d9), (4, .int r_1), (5, .int r_15), (6, .int t)] → W p l e ({ frames := 5, cells := 0, slots := 0, locals := 124 }) s m args below meth c H locs 0 0 Q (F0 m 92 ls []) := by
              intro ddloop92
              induction ddloop92 with
              | zero =>
                intro t ga H locs ls hdd
                exact absurd hdd (Nat.not_lt_zero _)
              | succ ddloop92 ih92 =>
                intro t ga H locs ls hdd ht hu hn hcx hzz hP hD hS hl
                have hgr : ga r_1.toInt.toNat = f0 r_1.toInt.toNat := hu _ (by omega) (by omega)
                refine lv_iload hx hb dX11_drop_92 (lv_at hl 6 rfl) ?_
                refine lv_bipush (v := 6) hx hb dX11_drop_94 (by decide) ?_
                refine lv_aload_n hx hb dX11_drop_96 rfl (lv_at hl 0 rfl) ?_
                refine va_get (D := D) (ci := 11) (v := .ref (q 0)) (C := RX11) (T := TX11) (N := 47) hx hb hts (by decide +kernel) hown hK.1 hP 0 rfl rfl 1 (by decide) (hts (.fieldLink RX11 8 "JugglingHallModel" "rows" "[I") (by decide +kernel)) (fun _ h9 => h9) rfl dX11_drop_97 ?_
                refine lv_iload hx hb dX11_drop_100 (lv_at hl 4 rfl) ?_
                refine a_iald (f := ga) (u := r_1.toInt) hx hb hK.1 hP 1 0 rfl rfl dX11_drop_102 (rfl) (by omega) (fun z_18 q_18 e_18 => ?_)
                rw [hgr] at e_18
                refine a_imul (u := 6) (v := z_18.toInt) hx hb dX11_drop_103 (by decide) (rfl) (by omega) (fun z_19 e_19 => ?_)
                refine a_icmp_ge (u := t.toInt) (v := (6 * z_18.toInt)) (tgt := 190) hx hb dX11_drop_104 (by decide) (rfl) (e_19) (fun c_20 => ?_) (fun c_20 => ?_)
                · refine lv_iconst (v := 0) hx hb dX11_drop_190 (by decide) ?_
                  refine lv_istore (lv' := [(6, .int 0), (0, .ref mm), (1, .int k), (2, .int c9), (3, .int d9), (4, .int r_1), (5, .int r_15)]) hx hb dX11_drop_191 hl (by decide) rfl (fun ls hl => ?_)
                  have loop193 : ∀ (ddloop193 : Nat) (kk : Int32) (gb : (Nat → Int32)) (H : Heap) (locs : List Loc) (ls : Array Slot), (3 * (f0 r_1.toInt.toNat).toInt - kk.toInt).toNat < ddloop193 → (0 ≤ kk.toInt ∧ kk.toInt ≤ 3 * (f0 r_1.toInt.toNat).toInt) → (∀ i9 : Int, 0 ≤ i9 → (i9 < r_15.toInt ∨ r_15.toInt + 150 ≤ i9) → gb i9.toNat = f0 i9.toNat) → ((gb r_15.toInt.toNat).toInt = (f0 r_1.toInt.toNat).toInt) → (∀ i9 : Int, 0 ≤ i9 → i9 < 6 * (f0 r_1.toInt.toNat).toInt → CellX jn (gb (r_15.toInt + 1 + i9).toNat)) → (∀ i9 : Int, 0 ≤ i9 → i9 < 6 * (f0 r_1.toInt.toNat).toInt → 2 * (jn : Int) ≤ i9 % 6 → (gb (r_15.toInt + 1 + i9).toNat).toInt = 0) → (∀ k9 : Int, 0 ≤ k9 → k9 < kk.toInt → (gb (r_15.toInt + 1 + 2 * k9).toNat).toInt = 0 → (gb (r_15.toInt + 1 + 2 * k9 + 1).toNat).toInt = 0) → va_P D vwCl (mX mm q jn cI z_14 x1 x2 x3 x4 x5 x6 x7 x8 x9 x10 x11 x12 x13 x14 y15_1 y16_1 y17_1 x18 x19 x20 gb f1 f2 f3 f4 f5 f6 f7 f8 f9 f10 f11 g12_1 g13_1 g14_1 g15_1 g16_1 f17 f18 f19 f20 f21 f22 f23 f24) H → va_D A (mX mm q jn cI z_14 x1 x2 x3 x4 x5 x6 x7 x8 x9 x10 x11 x12 x13 x14 y15_1 y16_1 y17_1 x18 x19 x20 gb f1 f2 f3 f4 f5 f6 f7 f8 f9 f10 f11 g12_1 g13_1 g14_1 g15_1 g16_1 f17 f18 f19 f20 f21 f22 f23 f24) → va_S A s.heap H locs → lv_has ls 8 [(0, .ref mm), (1, .int k), (2, .int c9), (3, .int d9), (4, .int r_1), (5, .int r_15), (6, .int kk)] → W p l e ({ frames := 5, cells := 0, slots := 0, locals := 124 }) s m args below meth c H locs 0 0 Q (F0 m 193 ls []) := by
                    intro ddloop193
                    induction ddloop193 with
                    | zero =>
                      intro kk gb H locs ls hdd
                      exact absurd hdd (Nat.not_lt_zero _)
                    | succ ddloop193 ih193 =>
                      intro kk gb H locs ls hdd hkk hu2 hn2 hcx2 hzz2 hpr2 hP hD hS hl
                      have hgr : gb r_1.toInt.toNat = f0 r_1.toInt.toNat := hu2 _ (by omega) (by omega)
                      refine lv_iload hx hb dX11_drop_193 (lv_at hl 6 rfl) ?_
                      refine lv_iconst (v := 3) hx hb dX11_drop_195 (by decide) ?_
                      refine lv_aload_n hx hb dX11_drop_196 rfl (lv_at hl 0 rfl) ?_
                      refine va_get (D := D) (ci := 11) (v := .ref (q 0)) (C := RX11) (T := TX11) (N := 47) hx hb hts (by decide +kernel) hown hK.1 hP 0 rfl rfl 1 (by decide) (hts (.fieldLink RX11 8 "JugglingHallModel" "rows" "[I") (by decide +kernel)) (fun _ h9 => h9) rfl dX11_drop_197 ?_
                      refine lv_iload hx hb dX11_drop_200 (lv_at hl 4 rfl) ?_
                      refine a_iald (f := gb) (u := r_1.toInt) hx hb hK.1 hP 1 0 rfl rfl dX11_drop_202 (rfl) (by omega) (fun z_21 q_21 e_21 => ?_)
                      rw [hgr] at e_21
                      refine a_imul (u := 3) (v := z_21.toInt) hx hb dX11_drop_203 (by decide) (rfl) (by omega) (fun z_22 e_22 => ?_)
                      refine a_icmp_ge (u := kk.toInt) (v := (3 * z_21.toInt)) (tgt := 229) hx hb dX11_drop_204 (by decide) (rfl) (e_22) (fun c_23 => ?_) (fun c_23 => ?_)
                      · have hMe : r_15.toInt = 150 * (8 * (x0.toInt + 1) + d9.toInt) := by omega
                        refine lv_aload_n hx hb dX11_drop_229 rfl (lv_at hl 0 rfl) ?_
                        refine lv_aload_n hx hb dX11_drop_230 rfl (lv_at hl 0 rfl) ?_
                        refine va_get (D := D) (ci := 11) (v := .int z_14) (C := RX11) (T := TX11) (N := 47) hx hb hts (by decide +kernel) hown hK.1 hP 0 rfl rfl 3 (by decide) (hts (.fieldLink RX11 185 "JugglingHallModel" "time" "I") (by decide +kernel)) (fun _ h9 => h9) rfl dX11_drop_231 ?_
                        refine mp_1 hx hb hts (by decide +kernel) hown hK hP hD hS (hts (.fieldLink RX11 104 "JugglingHallModel" "looked" "I") (by decide +kernel)) dX11_drop_234 (fun H locs hP hD hS => ?_)
                        refine lv_aload_n hx hb dX11_drop_237 rfl (lv_at hl 0 rfl) ?_
                        refine va_get (D := D) (ci := 11) (v := .int z_14) (C := RX11) (T := TX11) (N := 47) hx hb hts (by decide +kernel) hown hK.1 hP 0 rfl rfl 3 (by decide) (hts (.fieldLink RX11 185 "JugglingHallModel" "time" "I") (by decide +kernel)) (fun _ h9 => h9) rfl dX11_drop_238 ?_
                        exact g_iret (z_14, z_14, z_14, y15_1, y16_1, y17_1, gb, g12_1, g13_1, g14_1, g15_1, g16_1) hx hb hr hlocks hS rfl (⟨show 0 ≤ z_14.toInt ∧ z_14.toInt ≤ 60 from (by first | assumption | omega), show 0 ≤ z_14.toInt ∧ z_14.toInt ≤ z_14.toInt from (by first | assumption | omega), show RowsX jn gb from (rows_put (t := (x0.toInt + 1)) (k := d9.toInt) (n := (f0 r_1.toInt.toNat).toInt) hR (by omega) (by omega) (by rw [← hMe]; exact hu2) (by rw [← hMe]; exact hn2) (by omega) (by rw [← hMe]; exact ⟨fun i9 h8 h9 => by have h6 := hcx2 (i9 - (r_15.toInt + 1)) (by omega) (by omega); rw [show r_15.toInt + 1 + (i9 - (r_15.toInt + 1)) = i9 by omega] at h6; exact h6, fun k9 h8 h9 => hpr2 k9 h8 (by omega)⟩)), show RowsZ jn gb from (rowz_put (t := (x0.toInt + 1)) (k := d9.toInt) (n := (f0 r_1.toInt.toNat).toInt) hR hRZ (by omega) (by omega) (by rw [← hMe]; exact hu2) (by rw [← hMe]; exact hn2) (by rw [← hMe]; exact zx_flat hzz2 (by omega)))⟩) hP hD hQ (Nat.le_of_ble_eq_true rfl) (Nat.le_of_ble_eq_true rfl) dX11_drop_241
                      · refine lv_aload_n hx hb dX11_drop_207 rfl (lv_at hl 0 rfl) ?_
                        refine va_get (D := D) (ci := 11) (v := .ref (q 0)) (C := RX11) (T := TX11) (N := 47) hx hb hts (by decide +kernel) hown hK.1 hP 0 rfl rfl 1 (by decide) (hts (.fieldLink RX11 8 "JugglingHallModel" "rows" "[I") (by decide +kernel)) (fun _ h9 => h9) rfl dX11_drop_208 ?_
                        refine lv_iload hx hb dX11_drop_211 (lv_at hl 5 rfl) ?_
                        refine lv_iconst (v := 1) hx hb dX11_drop_213 (by decide) ?_
                        refine a_iadd (u := r_15.toInt) (v := 1) hx hb dX11_drop_214 (rfl) (by decide) (by omega) (fun z_24 e_24 => ?_)
                        refine lv_iconst (v := 2) hx hb dX11_drop_215 (by decide) ?_
                        refine lv_iload hx hb dX11_drop_216 (lv_at hl 6 rfl) ?_
                        refine a_imul (u := 2) (v := kk.toInt) hx hb dX11_drop_218 (by decide) (rfl) (by omega) (fun z_25 e_25 => ?_)
                        refine a_iadd (u := (r_15.toInt + 1)) (v := (2 * kk.toInt)) hx hb dX11_drop_219 (e_24) (e_25) (by omega) (fun z_26 e_26 => ?_)
                        have hxe0 : ((r_15.toInt + 1) + (2 * kk.toInt)) = r_15.toInt + 1 + 2 * kk.toInt := by omega
                        have hxe1 : z_26.toInt = r_15.toInt + 1 + 2 * kk.toInt := by omega
                        have hc0 := hcx2 (2 * kk.toInt) (by omega) (by omega)
                        have hc1 := hcx2 (2 * kk.toInt + 1) (by omega) (by omega)
                        rw [show r_15.toInt + 1 + (2 * kk.toInt + 1) = r_15.toInt + 1 + 2 * kk.toInt + 1 by omega] at hc1
                        have hPc := hP.sub (ws' := [(q 0, .inl (cI, 73200, .inl gb))]) [1] (by with_unfolding_all rfl)
                        have hDc := hD.sub (ws' := [(q 0, .inl (cI, 73200, .inl gb))]) [1] (by decide) (by with_unfolding_all rfl)
                        refine call_g (wr := [(mm, .inr (11, mXF q jn z_14 x1 x2 x3 x4 x5 x6 x7 x8 x9 x10 x11 x12 x13 x14 y15_1 y16_1 y17_1 x18 x19 x20)), (q 1, .inl (cI, 488, .inl f1)), (q 2, .inl (cI, 300, .inl f2)), (q 3, .inl (cI, 2400, .inl f3)), (q 4, .inl (cI, 6, .inl f4)), (q 5, .inl (cI, 6, .inl f5)), (q 6, .inl (cI, 7, .inl f6)), (q 7, .inl (cI, 144, .inl f7)), (q 8, .inl (cI, 8, .inl f8)), (q 9, .inl (cI, 1152, .inl f9)), (q 10, .inl (cI, 8, .inl f10)), (q 11, .inl (cI, 8, .inl f11)), (q 12, .inl (cI, 72, .inl g12_1)), (q 13, .inl (cI, 144, .inl g13_1)), (q 14, .inl (cI, 144, .inl g14_1)), (q 15, .inl (cI, 144, .inl g15_1)), (q 16, .inl (cI, 6, .inl g16_1)), (q 17, .inl (cI, 512, .inl f17)), (q 18, .inl (cI, 512, .inl f18)), (q 19, .inl (cI, 11, .inl f19)), (q 20, .inl (cI, 11, .inl f20)), (q 21, .inl (cI, 300, .inl f21)), (q 22, .inl (cI, 300, .inl f22)), (q 23, .inl (cI, 8, .inl f23)), (q 24, .inl (cI, 8, .inl f24))]) (va_runS (As := [.ref (q 0), .int z_26]) (rest := []) ⟨hx, hb, hml, hown, hts⟩ (k_order l D cI cR cM _  (by first | assumption | omega) (by rw [hxe1]; exact ⟨hc0.1, hc0.2.2.2⟩) (by rw [hxe1]; exact ⟨hc1.1, hc1.2.2.2⟩) (by decide)) (va_cwS 2 hts gX11_drop_X11_order rfl rfl rfl (by decide +kernel) ⟨Nat.le_of_ble_eq_true rfl, Nat.le_of_ble_eq_true rfl⟩) (pre_S hK hPc hDc) rfl rfl hl.1 rfl (lv_room (Nat.le_of_ble_eq_true rfl)) dX11_drop_220 ⟨Nat.le_of_ble_eq_true rfl, Nat.le_of_ble_eq_true rfl⟩) hP hD hS hA [1] [0, 2, 3, 4, 5, 6, 7, 8, 9, 10, 11, 12, 13, 14, 15, 16, 17, 18, 19, 20, 21, 22, 23, 24, 25] (by with_unfolding_all rfl) (by with_unfolding_all rfl) (by decide) (by decide) (fun g_27 H locs hw hP hD hS => ?_)
                        have hP : va_P D vwCl (mX mm q jn cI z_14 x1 x2 x3 x4 x5 x6 x7 x8 x9 x10 x11 x12 x13 x14 y15_1 y16_1 y17_1 x18 x19 x20 g_27 f1 f2 f3 f4 f5 f6 f7 f8 f9 f10 f11 g12_1 g13_1 g14_1 g15_1 g16_1 f17 f18 f19 f20 f21 f22 f23 f24) H := hP.sub [0, 25, 1, 2, 3, 4, 5, 6, 7, 8, 9, 10, 11, 12, 13, 14, 15, 16, 17, 18, 19, 20, 21, 22, 23, 24] (by with_unfolding_all rfl)
                        have hD : va_D A (mX mm q jn cI z_14 x1 x2 x3 x4 x5 x6 x7 x8 x9 x10 x11 x12 x13 x14 y15_1 y16_1 y17_1 x18 x19 x20 g_27 f1 f2 f3 f4 f5 f6 f7 f8 f9 f10 f11 g12_1 g13_1 g14_1 g15_1 g16_1 f17 f18 f19 f20 f21 f22 f23 f24) := hD.sub [0, 25, 1, 2, 3, 4, 5, 6, 7, 8, 9, 10, 11, 12, 13, 14, 15, 16, 17, 18, 19, 20, 21, 22, 23, 24] (by decide) (by with_unfolding_all rfl)
                        obtain ⟨hu_27, hs_27, hz_27⟩ : (∀ i : Int, 0 ≤ i → i ≠ z_26.toInt → i ≠ z_26.toInt + 1 → g_27 i.toNat = gb i.toNat) ∧ ((g_27 z_26.toInt.toNat = gb z_26.toInt.toNat ∧ g_27 (z_26.toInt + 1).toNat = gb (z_26.toInt + 1).toNat) ∨ (g_27 z_26.toInt.toNat = gb (z_26.toInt + 1).toNat ∧ g_27 (z_26.toInt + 1).toNat = gb z_26.toInt.toNat)) ∧ ((g_27 z_26.toInt.toNat).toInt = 0 → (g_27 (z_26.toInt + 1).toNat).toInt = 0) := hw
                        rw [hxe1] at hu_27 hs_27 hz_27
                        have hp1 : CellX jn (g_27 (r_15.toInt + 1 + 2 * kk.toInt).toNat) := by
                          rcases hs_27 with q | q
                          · rw [q.1]; exact hc0
                          · rw [q.1]; exact hc1
                        have hp2 : CellX jn (g_27 (r_15.toInt + 1 + 2 * kk.toInt + 1).toNat) := by
                          rcases hs_27 with q | q
                          · rw [q.2]; exact hc1
                          · rw [q.2]; exact hc0
                        have hcx3 : ∀ i9 : Int, 0 ≤ i9 → i9 < 6 * (f0 r_1.toInt.toNat).toInt → CellX jn (g_27 (r_15.toInt + 1 + i9).toNat) := fun i9 h8 h9 => by
                          by_cases q1 : i9 = 2 * kk.toInt
                          · rw [q1]; exact hp1
                          · by_cases q2 : i9 = 2 * kk.toInt + 1
                            · rw [q2, show r_15.toInt + 1 + (2 * kk.toInt + 1) = r_15.toInt + 1 + 2 * kk.toInt + 1 by omega]; exact hp2
                            · rw [hu_27 _ (by omega) (by omega) (by omega)]; exact hcx2 i9 h8 h9
                        have hzz3 : ∀ i9 : Int, 0 ≤ i9 → i9 < 6 * (f0 r_1.toInt.toNat).toInt → 2 * (jn : Int) ≤ i9 % 6 → (g_27 (r_15.toInt + 1 + i9).toNat).toInt = 0 := fun i9 h7 h8 h9 => by
                          by_cases q1 : i9 = 2 * kk.toInt
                          · have e1 := hzz2 (2 * kk.toInt) (by omega) (by omega) (by omega)
                            have e2 := hzz2 (2 * kk.toInt + 1) (by omega) (by omega) (by omega)
                            rw [show r_15.toInt + 1 + (2 * kk.toInt + 1) = r_15.toInt + 1 + 2 * kk.toInt + 1 by omega] at e2
                            rw [q1]
                            rcases hs_27 with q | q
                            · rw [q.1]; exact e1
                            · rw [q.1]; exact e2
                          · by_cases q2 : i9 = 2 * kk.toInt + 1
                            · have e1 := hzz2 (2 * kk.toInt) (by omega) (by omega) (by omega)
                              have e2 := hzz2 (2 * kk.toInt + 1) (by omega) (by omega) (by omega)
                              rw [show r_15.toInt + 1 + (2 * kk.toInt + 1) = r_15.toInt + 1 + 2 * kk.toInt + 1 by omega] at e2
                              rw [q2, show r_15.toInt + 1 + (2 * kk.toInt + 1) = r_15.toInt + 1 + 2 * kk.toInt + 1 by omega]
                              rcases hs_27 with q | q
                              · rw [q.2]; exact e2
                              · rw [q.2]; exact e1
                            · rw [hu_27 _ (by omega) (by omega) (by omega)]; exact hzz2 i9 h7 h8 h9
                        have hpr3 : ∀ k9 : Int, 0 ≤ k9 → k9 < (kk.toInt + 1) → (g_27 (r_15.toInt + 1 + 2 * k9).toNat).toInt = 0 → (g_27 (r_15.toInt + 1 + 2 * k9 + 1).toNat).toInt = 0 := fun k9 h7 h8 h9 => by
                          by_cases q1 : k9 = kk.toInt
                          · rw [q1] at h9 ⊢; exact hz_27 h9
                          · rw [hu_27 _ (by omega) (by omega) (by omega)] at h9 ⊢; exact hpr2 k9 h7 (by omega) h9
                        obtain ⟨z_28, q_28, e_28⟩ := i_inc (a := kk.toInt) (1) (rfl) (by decide) (by omega) (by omega)
                        refine lv_iinc (v := z_28) (lv' := [(6, .int z_28), (0, .ref mm), (1, .int k), (2, .int c9), (3, .int d9), (4, .int r_1), (5, .int r_15)]) hx hb dX11_drop_223 hl (k := 6) rfl q_28 (by decide) rfl (fun ls hl => ?_)
                        refine lv_goto (tgt := 193) hx hb dX11_drop_226 (by decide) ?_
                        exact ih193 z_28 g_27 _ _ _ (by omega) (by first | assumption | omega) (fun i9 h8 h9 => by rw [hu_27 i9 h8 (by omega) (by omega)]; exact hu2 i9 h8 h9) (by rw [hu_27 _ (by omega) (by omega) (by omega)]; exact hn2) (hcx3) (hzz3) (fun k9 h7 h8 h9 => hpr3 k9 h7 (by omega) h9) hP hD hS (lv_sub hl [1, 2, 3, 4, 5, 6, 0] rfl)
                  have hz_29 : (0 : Int32).toInt = 0 := by decide
                  exact loop193 ((3 * (f0 r_1.toInt.toNat).toInt - (0 : Int32).toInt).toNat + 1) (0 : Int32) ga _ _ _ (by omega) (by first | assumption | omega) (hu) (hn) (fun i9 h8 h9 => hcx i9 h8 (by omega)) (fun i9 h7 h8 h9 => hzz i9 h7 (by omega) h9) (fun k9 h7 h8 h9 => absurd h8 (by omega)) hP hD hS (lv_sub hl [1, 2, 3, 4, 5, 6, 0] rfl)
                · refine lv_aload_n hx hb dX11_drop_107 rfl (lv_at hl 0 rfl) ?_
                  refine va_get (D := D) (ci := 11) (v := .ref (q 15)) (C := RX11) (T := TX11) (N := 47) hx hb hts (by decide +kernel) hown hK.1 hP 0 rfl rfl 33 (by decide) (hts (.fieldLink RX11 63 "JugglingHallModel" "cycleAt" "[I") (by decide +kernel)) (fun _ h9 => h9) rfl dX11_drop_108 ?_
                  refine lv_iload hx hb dX11_drop_111 (lv_at hl 6 rfl) ?_
                  refine a_iald (f := g15_1) (u := t.toInt) hx hb hK.1 hP 16 0 rfl rfl dX11_drop_113 (rfl) (by omega) (fun z_30 q_30 e_30 => ?_)
                  refine a_if_lt (u := z_30.toInt) (tgt := 148) hx hb dX11_drop_114 (by decide) (rfl) (fun c_31 => ?_) (fun c_31 => ?_)
                  · refine lv_iconst (v := 0) hx hb dX11_drop_148 (by decide) ?_
                    refine lv_istore (lv' := [(7, .int 0), (0, .ref mm), (1, .int k), (2, .int c9), (3, .int d9), (4, .int r_1), (5, .int r_15), (6, .int t)]) hx hb dX11_drop_149 hl (by decide) rfl (fun ls hl => ?_)
                    refine lv_aload_n hx hb dX11_drop_151 rfl (lv_at hl 1 rfl) ?_
                    refine va_get (D := D) (ci := 11) (v := .ref (q 0)) (C := RX11) (T := TX11) (N := 47) hx hb hts (by decide +kernel) hown hK.1 hP 0 rfl rfl 1 (by decide) (hts (.fieldLink RX11 8 "JugglingHallModel" "rows" "[I") (by decide +kernel)) (fun _ h9 => h9) rfl dX11_drop_152 ?_
                    refine lv_iload hx hb dX11_drop_155 (lv_at hl 6 rfl) ?_
                    refine lv_iconst (v := 1) hx hb dX11_drop_157 (by decide) ?_
                    refine a_iadd (u := r_15.toInt) (v := 1) hx hb dX11_drop_158 (rfl) (by decide) (by omega) (fun z_32 e_32 => ?_)
                    refine lv_iload hx hb dX11_drop_159 (lv_at hl 7 rfl) ?_
                    refine a_iadd (u := (r_15.toInt + 1)) (v := t.toInt) hx hb dX11_drop_161 (e_32) (rfl) (by omega) (fun z_33 e_33 => ?_)
                    refine lv_iload hx hb dX11_drop_162 (lv_at hl 0 rfl) ?_
                    refine a_if_eq (u := 0) (tgt := 171) hx hb dX11_drop_164 (by decide) (by decide) (fun c_34 => ?_) (fun c_34 => absurd c_34 (by omega))
                    refine lv_aload_n hx hb dX11_drop_171 rfl (lv_at hl 1 rfl) ?_
                    refine va_get (D := D) (ci := 11) (v := .ref (q 0)) (C := RX11) (T := TX11) (N := 47) hx hb hts (by decide +kernel) hown hK.1 hP 0 rfl rfl 1 (by decide) (hts (.fieldLink RX11 8 "JugglingHallModel" "rows" "[I") (by decide +kernel)) (fun _ h9 => h9) rfl dX11_drop_172 ?_
                    refine lv_iload hx hb dX11_drop_175 (lv_at hl 5 rfl) ?_
                    refine lv_iconst (v := 1) hx hb dX11_drop_177 (by decide) ?_
                    refine a_iadd (u := r_1.toInt) (v := 1) hx hb dX11_drop_178 (rfl) (by decide) (by omega) (fun z_35 e_35 => ?_)
                    refine lv_iload hx hb dX11_drop_179 (lv_at hl 7 rfl) ?_
                    refine a_iadd (u := (r_1.toInt + 1)) (v := t.toInt) hx hb dX11_drop_181 (e_35) (rfl) (by omega) (fun z_36 e_36 => ?_)
                    refine a_iald (f := ga) (u := ((r_1.toInt + 1) + t.toInt)) hx hb hK.1 hP 1 0 rfl rfl dX11_drop_182 (e_36) (by omega) (fun z_37 q_37 e_37 => ?_)
                    have hcq : z_37 = f0 (r_1.toInt + 1 + t.toInt).toNat := by rw [q_37, show ((r_1.toInt + 1) + t.toInt) = r_1.toInt + 1 + t.toInt by omega]; exact hu _ (by omega) (by omega)
                    have hcell : CellX jn z_37 := by rw [hcq]; exact hr6.1 _ (by omega) (by omega)
                    have hcellz : 2 * (jn : Int) ≤ t.toInt % 6 → z_37.toInt = 0 := fun q => by
                      have h9 := hZ9 (t.toInt / 6) (t.toInt % 6) (by omega) (by omega) q (by omega)
                      rw [show r_1.toInt + 1 + 6 * (t.toInt / 6) + t.toInt % 6 = r_1.toInt + 1 + t.toInt by omega] at h9
                      rw [hcq]; exact h9
                    refine ma_0 (u := ((r_15.toInt + 1) + t.toInt)) hx hb hK hP hD hS dX11_drop_183 (e_33) (by omega) (fun g_38 H locs eg_38 hP hD hS => ?_)
                    obtain ⟨z_39, q_39, e_39⟩ := i_inc (a := t.toInt) (1) (rfl) (by decide) (by omega) (by omega)
                    refine lv_iinc (v := z_39) (lv' := [(6, .int z_39), (7, .int 0), (0, .ref mm), (1, .int k), (2, .int c9), (3, .int d9), (4, .int r_1), (5, .int r_15)]) hx hb dX11_drop_184 hl (k := 7) rfl q_39 (by decide) rfl (fun ls hl => ?_)
                    refine lv_goto (tgt := 92) hx hb dX11_drop_187 (by decide) ?_
                    exact ih92 z_39 g_38 _ _ _ (by omega) (by first | assumption | omega) (fun i9 h8 h9 => by rw [eg_38, un_i h8 (by omega) (by omega)]; exact hu i9 h8 h9) (by rw [eg_38, un_i (by omega) (by omega) (by omega)]; exact hn) (fun i9 h8 h9 => by
                      by_cases q : i9 = t.toInt
                      · rw [eg_38, q, show r_15.toInt + 1 + t.toInt = ((r_15.toInt + 1) + t.toInt) by omega, pk_us]; exact hcell
                      · rw [eg_38, un_i (by omega) (by omega) (by omega)]; exact hcx i9 h8 (by omega)) (fun i9 h7 h8 h9 => by
                      by_cases q : i9 = t.toInt
                      · rw [eg_38, q, show r_15.toInt + 1 + t.toInt = ((r_15.toInt + 1) + t.toInt) by omega, pk_us]; exact hcellz (by omega)
                      · rw [eg_38, un_i (by omega) (by omega) (by omega)]; exact hzz i9 h7 (by omega) h9) hP hD hS (lv_sub hl [2, 3, 4, 5, 6, 7, 0] rfl)
                  · refine lv_aload_n hx hb dX11_drop_117 rfl (lv_at hl 0 rfl) ?_
                    refine va_get (D := D) (ci := 11) (v := .ref (q 15)) (C := RX11) (T := TX11) (N := 47) hx hb hts (by decide +kernel) hown hK.1 hP 0 rfl rfl 33 (by decide) (hts (.fieldLink RX11 63 "JugglingHallModel" "cycleAt" "[I") (by decide +kernel)) (fun _ h9 => h9) rfl dX11_drop_118 ?_
                    refine lv_iload hx hb dX11_drop_121 (lv_at hl 6 rfl) ?_
                    refine a_iald (f := g15_1) (u := t.toInt) hx hb hK.1 hP 16 0 rfl rfl dX11_drop_123 (rfl) (by omega) (fun z_40 q_40 e_40 => ?_)
                    refine lv_bipush (v := 31) hx hb dX11_drop_124 (by decide) ?_
                    refine a_icmp_ge (u := z_40.toInt) (v := 31) (tgt := 148) hx hb dX11_drop_126 (by decide) (rfl) (by decide) (fun c_41 => ?_) (fun c_41 => ?_)
                    · refine lv_iconst (v := 0) hx hb dX11_drop_148 (by decide) ?_
                      refine lv_istore (lv' := [(7, .int 0), (0, .ref mm), (1, .int k), (2, .int c9), (3, .int d9), (4, .int r_1), (5, .int r_15), (6, .int t)]) hx hb dX11_drop_149 hl (by decide) rfl (fun ls hl => ?_)
                      refine lv_aload_n hx hb dX11_drop_151 rfl (lv_at hl 1 rfl) ?_
                      refine va_get (D := D) (ci := 11) (v := .ref (q 0)) (C := RX11) (T := TX11) (N := 47) hx hb hts (by decide +kernel) hown hK.1 hP 0 rfl rfl 1 (by decide) (hts (.fieldLink RX11 8 "JugglingHallModel" "rows" "[I") (by decide +kernel)) (fun _ h9 => h9) rfl dX11_drop_152 ?_
                      refine lv_iload hx hb dX11_drop_155 (lv_at hl 6 rfl) ?_
                      refine lv_iconst (v := 1) hx hb dX11_drop_157 (by decide) ?_
                      refine a_iadd (u := r_15.toInt) (v := 1) hx hb dX11_drop_158 (rfl) (by decide) (by omega) (fun z_42 e_42 => ?_)
                      refine lv_iload hx hb dX11_drop_159 (lv_at hl 7 rfl) ?_
                      refine a_iadd (u := (r_15.toInt + 1)) (v := t.toInt) hx hb dX11_drop_161 (e_42) (rfl) (by omega) (fun z_43 e_43 => ?_)
                      refine lv_iload hx hb dX11_drop_162 (lv_at hl 0 rfl) ?_
                      refine a_if_eq (u := 0) (tgt := 171) hx hb dX11_drop_164 (by decide) (by decide) (fun c_44 => ?_) (fun c_44 => absurd c_44 (by omega))
                      refine lv_aload_n hx hb dX11_drop_171 rfl (lv_at hl 1 rfl) ?_
                      refine va_get (D := D) (ci := 11) (v := .ref (q 0)) (C := RX11) (T := TX11) (N := 47) hx hb hts (by decide +kernel) hown hK.1 hP 0 rfl rfl 1 (by decide) (hts (.fieldLink RX11 8 "JugglingHallModel" "rows" "[I") (by decide +kernel)) (fun _ h9 => h9) rfl dX11_drop_172 ?_
                      refine lv_iload hx hb dX11_drop_175 (lv_at hl 5 rfl) ?_
                      refine lv_iconst (v := 1) hx hb dX11_drop_177 (by decide) ?_
                      refine a_iadd (u := r_1.toInt) (v := 1) hx hb dX11_drop_178 (rfl) (by decide) (by omega) (fun z_45 e_45 => ?_)
                      refine lv_iload hx hb dX11_drop_179 (lv_at hl 7 rfl) ?_
                      refine a_iadd (u := (r_1.toInt + 1)) (v := t.toInt) hx hb dX11_drop_181 (e_45) (rfl) (by omega) (fun z_46 e_46 => ?_)
                      refine a_iald (f := ga) (u := ((r_1.toInt + 1) + t.toInt)) hx hb hK.1 hP 1 0 rfl rfl dX11_drop_182 (e_46) (by omega) (fun z_47 q_47 e_47 => ?_)
                      have hcq : z_47 = f0 (r_1.toInt + 1 + t.toInt).toNat := by rw [q_47, show ((r_1.toInt + 1) + t.toInt) = r_1.toInt + 1 + t.toInt by omega]; exact hu _ (by omega) (by omega)
                      have hcell : CellX jn z_47 := by rw [hcq]; exact hr6.1 _ (by omega) (by omega)
                      have hcellz : 2 * (jn : Int) ≤ t.toInt % 6 → z_47.toInt = 0 := fun q => by
                        have h9 := hZ9 (t.toInt / 6) (t.toInt % 6) (by omega) (by omega) q (by omega)
                        rw [show r_1.toInt + 1 + 6 * (t.toInt / 6) + t.toInt % 6 = r_1.toInt + 1 + t.toInt by omega] at h9
                        rw [hcq]; exact h9
                      refine ma_0 (u := ((r_15.toInt + 1) + t.toInt)) hx hb hK hP hD hS dX11_drop_183 (e_43) (by omega) (fun g_48 H locs eg_48 hP hD hS => ?_)
                      obtain ⟨z_49, q_49, e_49⟩ := i_inc (a := t.toInt) (1) (rfl) (by decide) (by omega) (by omega)
                      refine lv_iinc (v := z_49) (lv' := [(6, .int z_49), (7, .int 0), (0, .ref mm), (1, .int k), (2, .int c9), (3, .int d9), (4, .int r_1), (5, .int r_15)]) hx hb dX11_drop_184 hl (k := 7) rfl q_49 (by decide) rfl (fun ls hl => ?_)
                      refine lv_goto (tgt := 92) hx hb dX11_drop_187 (by decide) ?_
                      exact ih92 z_49 g_48 _ _ _ (by omega) (by first | assumption | omega) (fun i9 h8 h9 => by rw [eg_48, un_i h8 (by omega) (by omega)]; exact hu i9 h8 h9) (by rw [eg_48, un_i (by omega) (by omega) (by omega)]; exact hn) (fun i9 h8 h9 => by
                        by_cases q : i9 = t.toInt
                        · rw [eg_48, q, show r_15.toInt + 1 + t.toInt = ((r_15.toInt + 1) + t.toInt) by omega, pk_us]; exact hcell
                        · rw [eg_48, un_i (by omega) (by omega) (by omega)]; exact hcx i9 h8 (by omega)) (fun i9 h7 h8 h9 => by
                        by_cases q : i9 = t.toInt
                        · rw [eg_48, q, show r_15.toInt + 1 + t.toInt = ((r_15.toInt + 1) + t.toInt) by omega, pk_us]; exact hcellz (by omega)
                        · rw [eg_48, un_i (by omega) (by omega) (by omega)]; exact hzz i9 h7 (by omega) h9) hP hD hS (lv_sub hl [2, 3, 4, 5, 6, 7, 0] rfl)
                    · refine lv_iload_n hx hb dX11_drop_129 rfl (lv_at hl 2 rfl) ?_
                      refine lv_aload_n hx hb dX11_drop_130 rfl (lv_at hl 0 rfl) ?_
                      refine va_get (D := D) (ci := 11) (v := .ref (q 15)) (C := RX11) (T := TX11) (N := 47) hx hb hts (by decide +kernel) hown hK.1 hP 0 rfl rfl 33 (by decide) (hts (.fieldLink RX11 63 "JugglingHallModel" "cycleAt" "[I") (by decide +kernel)) (fun _ h9 => h9) rfl dX11_drop_131 ?_
                      refine lv_iload hx hb dX11_drop_134 (lv_at hl 6 rfl) ?_
                      refine a_iald (f := g15_1) (u := t.toInt) hx hb hK.1 hP 16 0 rfl rfl dX11_drop_136 (rfl) (by omega) (fun z_50 q_50 e_50 => ?_)
                      refine lv_ishr hx hb dX11_drop_137 ?_
                      refine lv_topi (fun z_51 q_51 => ?_)
                      refine lv_iconst (v := 1) hx hb dX11_drop_138 (by decide) ?_
                      refine lv_iand hx hb dX11_drop_139 ?_
                      refine lv_topi (fun z_52 q_52 => ?_)
                      refine lv_iconst (v := 1) hx hb dX11_drop_140 (by decide) ?_
                      refine a_icmp_ne (u := z_52.toInt) (v := 1) (tgt := 148) hx hb dX11_drop_141 (by decide) (rfl) (by decide) (fun c_53 => ?_) (fun c_53 => ?_)
                      · refine lv_iconst (v := 0) hx hb dX11_drop_148 (by decide) ?_
                        refine lv_istore (lv' := [(7, .int 0), (0, .ref mm), (1, .int k), (2, .int c9), (3, .int d9), (4, .int r_1), (5, .int r_15), (6, .int t)]) hx hb dX11_drop_149 hl (by decide) rfl (fun ls hl => ?_)
                        refine lv_aload_n hx hb dX11_drop_151 rfl (lv_at hl 1 rfl) ?_
                        refine va_get (D := D) (ci := 11) (v := .ref (q 0)) (C := RX11) (T := TX11) (N := 47) hx hb hts (by decide +kernel) hown hK.1 hP 0 rfl rfl 1 (by decide) (hts (.fieldLink RX11 8 "JugglingHallModel" "rows" "[I") (by decide +kernel)) (fun _ h9 => h9) rfl dX11_drop_152 ?_
                        refine lv_iload hx hb dX11_drop_155 (lv_at hl 6 rfl) ?_
                        refine lv_iconst (v := 1) hx hb dX11_drop_157 (by decide) ?_
                        refine a_iadd (u := r_15.toInt) (v := 1) hx hb dX11_drop_158 (rfl) (by decide) (by omega) (fun z_54 e_54 => ?_)
                        refine lv_iload hx hb dX11_drop_159 (lv_at hl 7 rfl) ?_
                        refine a_iadd (u := (r_15.toInt + 1)) (v := t.toInt) hx hb dX11_drop_161 (e_54) (rfl) (by omega) (fun z_55 e_55 => ?_)
                        refine lv_iload hx hb dX11_drop_162 (lv_at hl 0 rfl) ?_
                        refine a_if_eq (u := 0) (tgt := 171) hx hb dX11_drop_164 (by decide) (by decide) (fun c_56 => ?_) (fun c_56 => absurd c_56 (by omega))
                        refine lv_aload_n hx hb dX11_drop_171 rfl (lv_at hl 1 rfl) ?_
                        refine va_get (D := D) (ci := 11) (v := .ref (q 0)) (C := RX11) (T := TX11) (N := 47) hx hb hts (by decide +kernel) hown hK.1 hP 0 rfl rfl 1 (by decide) (hts (.fieldLink RX11 8 "JugglingHallModel" "rows" "[I") (by decide +kernel)) (fun _ h9 => h9) rfl dX11_drop_172 ?_
                        refine lv_iload hx hb dX11_drop_175 (lv_at hl 5 rfl) ?_
                        refine lv_iconst (v := 1) hx hb dX11_drop_177 (by decide) ?_
                        refine a_iadd (u := r_1.toInt) (v := 1) hx hb dX11_drop_178 (rfl) (by decide) (by omega) (fun z_57 e_57 => ?_)
                        refine lv_iload hx hb dX11_drop_179 (lv_at hl 7 rfl) ?_
                        refine a_iadd (u := (r_1.toInt + 1)) (v := t.toInt) hx hb dX11_drop_181 (e_57) (rfl) (by omega) (fun z_58 e_58 => ?_)
                        refine a_iald (f := ga) (u := ((r_1.toInt + 1) + t.toInt)) hx hb hK.1 hP 1 0 rfl rfl dX11_drop_182 (e_58) (by omega) (fun z_59 q_59 e_59 => ?_)
                        have hcq : z_59 = f0 (r_1.toInt + 1 + t.toInt).toNat := by rw [q_59, show ((r_1.toInt + 1) + t.toInt) = r_1.toInt + 1 + t.toInt by omega]; exact hu _ (by omega) (by omega)
                        have hcell : CellX jn z_59 := by rw [hcq]; exact hr6.1 _ (by omega) (by omega)
                        have hcellz : 2 * (jn : Int) ≤ t.toInt % 6 → z_59.toInt = 0 := fun q => by
                          have h9 := hZ9 (t.toInt / 6) (t.toInt % 6) (by omega) (by omega) q (by omega)
                          rw [show r_1.toInt + 1 + 6 * (t.toInt / 6) + t.toInt % 6 = r_1.toInt + 1 + t.toInt by omega] at h9
                          rw [hcq]; exact h9
                        refine ma_0 (u := ((r_15.toInt + 1) + t.toInt)) hx hb hK hP hD hS dX11_drop_183 (e_55) (by omega) (fun g_60 H locs eg_60 hP hD hS => ?_)
                        obtain ⟨z_61, q_61, e_61⟩ := i_inc (a := t.toInt) (1) (rfl) (by decide) (by omega) (by omega)
                        refine lv_iinc (v := z_61) (lv' := [(6, .int z_61), (7, .int 0), (0, .ref mm), (1, .int k), (2, .int c9), (3, .int d9), (4, .int r_1), (5, .int r_15)]) hx hb dX11_drop_184 hl (k := 7) rfl q_61 (by decide) rfl (fun ls hl => ?_)
                        refine lv_goto (tgt := 92) hx hb dX11_drop_187 (by decide) ?_
                        exact ih92 z_61 g_60 _ _ _ (by omega) (by first | assumption | omega) (fun i9 h8 h9 => by rw [eg_60, un_i h8 (by omega) (by omega)]; exact hu i9 h8 h9) (by rw [eg_60, un_i (by omega) (by omega) (by omega)]; exact hn) (fun i9 h8 h9 => by
                          by_cases q : i9 = t.toInt
                          · rw [eg_60, q, show r_15.toInt + 1 + t.toInt = ((r_15.toInt + 1) + t.toInt) by omega, pk_us]; exact hcell
                          · rw [eg_60, un_i (by omega) (by omega) (by omega)]; exact hcx i9 h8 (by omega)) (fun i9 h7 h8 h9 => by
                          by_cases q : i9 = t.toInt
                          · rw [eg_60, q, show r_15.toInt + 1 + t.toInt = ((r_15.toInt + 1) + t.toInt) by omega, pk_us]; exact hcellz (by omega)
                          · rw [eg_60, un_i (by omega) (by omega) (by omega)]; exact hzz i9 h7 (by omega) h9) hP hD hS (lv_sub hl [2, 3, 4, 5, 6, 7, 0] rfl)
                      · refine lv_iconst (v := 1) hx hb dX11_drop_144 (by decide) ?_
                        refine lv_goto (tgt := 149) hx hb dX11_drop_145 (by decide) ?_
                        refine lv_istore (lv' := [(7, .int 1), (0, .ref mm), (1, .int k), (2, .int c9), (3, .int d9), (4, .int r_1), (5, .int r_15), (6, .int t)]) hx hb dX11_drop_149 hl (by decide) rfl (fun ls hl => ?_)
                        refine lv_aload_n hx hb dX11_drop_151 rfl (lv_at hl 1 rfl) ?_
                        refine va_get (D := D) (ci := 11) (v := .ref (q 0)) (C := RX11) (T := TX11) (N := 47) hx hb hts (by decide +kernel) hown hK.1 hP 0 rfl rfl 1 (by decide) (hts (.fieldLink RX11 8 "JugglingHallModel" "rows" "[I") (by decide +kernel)) (fun _ h9 => h9) rfl dX11_drop_152 ?_
                        refine lv_iload hx hb dX11_drop_155 (lv_at hl 6 rfl) ?_
                        refine lv_iconst (v := 1) hx hb dX11_drop_157 (by decide) ?_
                        refine a_iadd (u := r_15.toInt) (v := 1) hx hb dX11_drop_158 (rfl) (by decide) (by omega) (fun z_62 e_62 => ?_)
                        refine lv_iload hx hb dX11_drop_159 (lv_at hl 7 rfl) ?_
                        refine a_iadd (u := (r_15.toInt + 1)) (v := t.toInt) hx hb dX11_drop_161 (e_62) (rfl) (by omega) (fun z_63 e_63 => ?_)
                        refine lv_iload hx hb dX11_drop_162 (lv_at hl 0 rfl) ?_
                        refine a_if_eq (u := 1) (tgt := 171) hx hb dX11_drop_164 (by decide) (by decide) (fun c_64 => absurd c_64 (by omega)) (fun c_64 => ?_)
                        refine lv_iconst (v := 0) hx hb dX11_drop_167 (by decide) ?_
                        refine lv_goto (tgt := 183) hx hb dX11_drop_168 (by decide) ?_
                        refine ma_0 (u := ((r_15.toInt + 1) + t.toInt)) hx hb hK hP hD hS dX11_drop_183 (e_63) (by omega) (fun g_65 H locs eg_65 hP hD hS => ?_)
                        obtain ⟨z_66, q_66, e_66⟩ := i_inc (a := t.toInt) (1) (rfl) (by decide) (by omega) (by omega)
                        refine lv_iinc (v := z_66) (lv' := [(6, .int z_66), (7, .int 1), (0, .ref mm), (1, .int k), (2, .int c9), (3, .int d9), (4, .int r_1), (5, .int r_15)]) hx hb dX11_drop_184 hl (k := 7) rfl q_66 (by decide) rfl (fun ls hl => ?_)
                        refine lv_goto (tgt := 92) hx hb dX11_drop_187 (by decide) ?_
                        exact ih92 z_66 g_65 _ _ _ (by omega) (by first | assumption | omega) (fun i9 h8 h9 => by rw [eg_65, un_i h8 (by omega) (by omega)]; exact hu i9 h8 h9) (by rw [eg_65, un_i (by omega) (by omega) (by omega)]; exact hn) (fun i9 h8 h9 => by
                          by_cases q : i9 = t.toInt
                          · rw [eg_65, q, show r_15.toInt + 1 + t.toInt = ((r_15.toInt + 1) + t.toInt) by omega, pk_us]; exact cx_0 hj.1 (by decide)
                          · rw [eg_65, un_i (by omega) (by omega) (by omega)]; exact hcx i9 h8 (by omega)) (fun i9 h7 h8 h9 => by
                          by_cases q : i9 = t.toInt
                          · rw [eg_65, q, show r_15.toInt + 1 + t.toInt = ((r_15.toInt + 1) + t.toInt) by omega, pk_us]; decide
                          · rw [eg_65, un_i (by omega) (by omega) (by omega)]; exact hzz i9 h7 (by omega) h9) hP hD hS (lv_sub hl [2, 3, 4, 5, 6, 7, 0] rfl)
            have hz_67 : (0 : Int32).toInt = 0 := by decide
            exact loop92 ((6 * (f0 r_1.toInt.toNat).toInt - (0 : Int32).toInt).toNat + 1) (0 : Int32) g_17 _ _ _ (by omega) (by first | assumption | omega) (hu0) (hn0) (fun i9 h8 h9 => absurd h9 (by omega)) (fun i9 h8 h9 => absurd h9 (by omega)) hP hD hS (lv_sub hl [3, 4, 5, 6, 2, 1, 0] rfl)
          · refine lv_iload_n hx hb dX11_drop_44 rfl (lv_at hl 3 rfl) ?_
            refine lv_aload_n hx hb dX11_drop_45 rfl (lv_at hl 1 rfl) ?_
            refine va_get (D := D) (ci := 11) (v := .int y17_1) (C := RX11) (T := TX11) (N := 47) hx hb hts (by decide +kernel) hown hK.1 hP 0 rfl rfl 35 (by decide) (hts (.fieldLink RX11 268 "JugglingHallModel" "cycleCount" "I") (by decide +kernel)) (fun _ h9 => h9) rfl dX11_drop_46 ?_
            refine lv_ishr hx hb dX11_drop_49 ?_
            refine lv_topi (fun z_68 q_68 => ?_)
            refine a_if_eq (u := z_68.toInt) (tgt := 55) hx hb dX11_drop_50 (by decide) (rfl) (fun c_69 => ?_) (fun c_69 => ?_)
            · refine lv_aload_n hx hb dX11_drop_55 rfl (lv_at hl 1 rfl) ?_
              refine lv_dup hx hb dX11_drop_56 rfl ?_
              refine va_get (D := D) (ci := 11) (v := .int x0) (C := RX11) (T := TX11) (N := 47) hx hb hts (by decide +kernel) hown hK.1 hP 0 rfl rfl 3 (by decide) (hts (.fieldLink RX11 185 "JugglingHallModel" "time" "I") (by decide +kernel)) (fun _ h9 => h9) rfl dX11_drop_57 ?_
              refine lv_iconst (v := 1) hx hb dX11_drop_60 (by decide) ?_
              refine a_iadd (u := x0.toInt) (v := 1) hx hb dX11_drop_61 (rfl) (by decide) (by omega) (fun z_70 e_70 => ?_)
              refine mp_0 hx hb hts (by decide +kernel) hown hK hP hD hS (hts (.fieldLink RX11 185 "JugglingHallModel" "time" "I") (by decide +kernel)) dX11_drop_62 (fun H locs hP hD hS => ?_)
              refine lv_aload_n hx hb dX11_drop_65 rfl (lv_at hl 1 rfl) ?_
              refine va_get (D := D) (ci := 11) (v := .int z_70) (C := RX11) (T := TX11) (N := 47) hx hb hts (by decide +kernel) hown hK.1 hP 0 rfl rfl 3 (by decide) (hts (.fieldLink RX11 185 "JugglingHallModel" "time" "I") (by decide +kernel)) (fun _ h9 => h9) rfl dX11_drop_66 ?_
              refine lv_iload_n hx hb dX11_drop_69 rfl (lv_at hl 4 rfl) ?_
              refine roP (va_runS (As := [.int z_70, .int d9]) (rest := []) ⟨hx, hb, hml, hown, hts⟩ (k_rowAt l D cI cR cM _  (by first | assumption | omega) (by first | assumption | omega)) (va_cwS 2 hts gX11_drop_X11_rowAt rfl rfl rfl (by decide +kernel) ⟨Nat.le_of_ble_eq_true rfl, Nat.le_of_ble_eq_true rfl⟩) (pre_S hK va_P_nil (va_D_nil (A := fun _ => True))) rfl rfl hl.1 rfl (lv_room (Nat.le_of_ble_eq_true rfl)) dX11_drop_70 ⟨Nat.le_of_ble_eq_true rfl, Nat.le_of_ble_eq_true rfl⟩) hS hA hP (fun r_71 H locs hw hP hS => ?_)
              have h_71 : (r_71.toInt = 150 * (8 * z_70.toInt + d9.toInt)) := hw
              refine lv_istore (lv' := [(5, .int r_71), (4, .int r_1), (0, .ref mm), (1, .int k), (2, .int c9), (3, .int d9)]) hx hb dX11_drop_73 hl (by decide) rfl (fun ls hl => ?_)
              refine lv_aload_n hx hb dX11_drop_75 rfl (lv_at hl 2 rfl) ?_
              refine va_get (D := D) (ci := 11) (v := .ref (q 0)) (C := RX11) (T := TX11) (N := 47) hx hb hts (by decide +kernel) hown hK.1 hP 0 rfl rfl 1 (by decide) (hts (.fieldLink RX11 8 "JugglingHallModel" "rows" "[I") (by decide +kernel)) (fun _ h9 => h9) rfl dX11_drop_76 ?_
              refine lv_iload hx hb dX11_drop_79 (lv_at hl 0 rfl) ?_
              refine lv_aload_n hx hb dX11_drop_81 rfl (lv_at hl 2 rfl) ?_
              refine va_get (D := D) (ci := 11) (v := .ref (q 0)) (C := RX11) (T := TX11) (N := 47) hx hb hts (by decide +kernel) hown hK.1 hP 0 rfl rfl 1 (by decide) (hts (.fieldLink RX11 8 "JugglingHallModel" "rows" "[I") (by decide +kernel)) (fun _ h9 => h9) rfl dX11_drop_82 ?_
              refine lv_iload hx hb dX11_drop_85 (lv_at hl 1 rfl) ?_
              refine a_iald (f := f0) (u := r_1.toInt) hx hb hK.1 hP 1 0 rfl rfl dX11_drop_87 (rfl) (by omega) (fun z_72 q_72 e_72 => ?_)
              refine ma_0 (u := r_71.toInt) hx hb hK hP hD hS dX11_drop_88 (rfl) (by omega) (fun g_73 H locs eg_73 hP hD hS => ?_)
              have hu0 : ∀ i9 : Int, 0 ≤ i9 → (i9 < r_71.toInt ∨ r_71.toInt + 150 ≤ i9) → g_73 i9.toNat = f0 i9.toNat := fun i9 h8 h9 => by rw [eg_73, un_i h8 (by omega) (by omega)]
              have hn0 : (g_73 r_71.toInt.toNat).toInt = (f0 r_1.toInt.toNat).toInt := by rw [eg_73, show r_71.toInt = r_71.toInt by omega, pk_us]; omega
              refine lv_iconst (v := 0) hx hb dX11_drop_89 (by decide) ?_
              refine lv_istore (lv' := [(6, .int 0), (5, .int r_71), (4, .int r_1), (0, .ref mm), (1, .int k), (2, .int c9), (3, .int d9)]) hx hb dX11_drop_90 hl (by decide) rfl (fun ls hl => ?_)
              have loop92 : ∀ (ddloop92 : Nat) (t : Int32) (ga : (Nat → Int32)) (H : Heap) (locs : List Loc) (ls : Array Slot), (6 * (f0 r_1.toInt.toNat).toInt - t.toInt).toNat < ddloop92 → (0 ≤ t.toInt ∧ t.toInt ≤ 6 * (f0 r_1.toInt.toNat).toInt) → (∀ i9 : Int, 0 ≤ i9 → (i9 < r_71.toInt ∨ r_71.toInt + 150 ≤ i9) → ga i9.toNat = f0 i9.toNat) → ((ga r_71.toInt.toNat).toInt = (f0 r_1.toInt.toNat).toInt) → (∀ i9 : Int, 0 ≤ i9 → i9 < t.toInt → CellX jn (ga (r_71.toInt + 1 + i9).toNat)) → (∀ i9 : Int, 0 ≤ i9 → i9 < t.toInt → 2 * (jn : Int) ≤ i9 % 6 → (ga (r_71.toInt + 1 + i9).toNat).toInt = 0) → va_P D vwCl (mX mm q jn cI z_70 x1 x2 x3 x4 x5 x6 x7 x8 x9 x10 x11 x12 x13 x14 y15_1 y16_1 y17_1 x18 x19 x20 ga f1 f2 f3 f4 f5 f6 f7 f8 f9 f10 f11 g12_1 g13_1 g14_1 g15_1 g16_1 f17 f18 f19 f20 f21 f22 f23 f24) H → va_D A (mX mm q jn cI z_70 x1 x2 x3 x4 x5 x6 x7 x8 x9 x10 x11 x12 x13 x14 y15_1 y16_1 y17_1 x18 x19 x20 ga f1 f2 f3 f4 f5 f6 f7 f8 f9 f10 f11 g12_1 g13_1 g14_1 g15_1 g16_1 f17 f18 f19 f20 f21 f22 f23 f24) → va_S A s.heap H locs → lv_has ls 8 [(0, .ref mm), (1, .int k), (2, .int c9), (3, .int d9), (4, .int r_1), (5, .int r_71), (6, .int t)] → W p l e ({ frames := 5, cells := 0, slots := 0, locals := 124 }) s m args below meth c H locs 0 0 Q (F0 m 92 ls []) := by
                intro ddloop92
                induction ddloop92 with
                | zero =>
                  intro t ga H locs ls hdd
                  exact absurd hdd (Nat.not_lt_zero _)
                | succ ddloop92 ih92 =>
                  intro t ga H locs ls hdd ht hu hn hcx hzz hP hD hS hl
                  have hgr : ga r_1.toInt.toNat = f0 r_1.toInt.toNat := hu _ (by omega) (by omega)
                  refine lv_iload hx hb dX11_drop_92 (lv_at hl 6 rfl) ?_
                  refine lv_bipush (v := 6) hx hb dX11_drop_94 (by decide) ?_
                  refine lv_aload_n hx hb dX11_drop_96 rfl (lv_at hl 0 rfl) ?_
                  refine va_get (D := D) (ci := 11) (v := .ref (q 0)) (C := RX11) (T := TX11) (N := 47) hx hb hts (by decide +kernel) hown hK.1 hP 0 rfl rfl 1 (by decide) (hts (.fieldLink RX11 8 "JugglingHallModel" "rows" "[I") (by decide +kernel)) (fun _ h9 => h9) rfl dX11_drop_97 ?_
                  refine lv_iload hx hb dX11_drop_100 (lv_at hl 4 rfl) ?_
                  refine a_iald (f := ga) (u := r_1.toInt) hx hb hK.1 hP 1 0 rfl rfl dX11_drop_102 (rfl) (by omega) (fun z_74 q_74 e_74 => ?_)
                  rw [hgr] at e_74
                  refine a_imul (u := 6) (v := z_74.toInt) hx hb dX11_drop_103 (by decide) (rfl) (by omega) (fun z_75 e_75 => ?_)
                  refine a_icmp_ge (u := t.toInt) (v := (6 * z_74.toInt)) (tgt := 190) hx hb dX11_drop_104 (by decide) (rfl) (e_75) (fun c_76 => ?_) (fun c_76 => ?_)
                  · refine lv_iconst (v := 0) hx hb dX11_drop_190 (by decide) ?_
                    refine lv_istore (lv' := [(6, .int 0), (0, .ref mm), (1, .int k), (2, .int c9), (3, .int d9), (4, .int r_1), (5, .int r_71)]) hx hb dX11_drop_191 hl (by decide) rfl (fun ls hl => ?_)
                    have loop193 : ∀ (ddloop193 : Nat) (kk : Int32) (gb : (Nat → Int32)) (H : Heap) (locs : List Loc) (ls : Array Slot), (3 * (f0 r_1.toInt.toNat).toInt - kk.toInt).toNat < ddloop193 → (0 ≤ kk.toInt ∧ kk.toInt ≤ 3 * (f0 r_1.toInt.toNat).toInt) → (∀ i9 : Int, 0 ≤ i9 → (i9 < r_71.toInt ∨ r_71.toInt + 150 ≤ i9) → gb i9.toNat = f0 i9.toNat) → ((gb r_71.toInt.toNat).toInt = (f0 r_1.toInt.toNat).toInt) → (∀ i9 : Int, 0 ≤ i9 → i9 < 6 * (f0 r_1.toInt.toNat).toInt → CellX jn (gb (r_71.toInt + 1 + i9).toNat)) → (∀ i9 : Int, 0 ≤ i9 → i9 < 6 * (f0 r_1.toInt.toNat).toInt → 2 * (jn : Int) ≤ i9 % 6 → (gb (r_71.toInt + 1 + i9).toNat).toInt = 0) → (∀ k9 : Int, 0 ≤ k9 → k9 < kk.toInt → (gb (r_71.toInt + 1 + 2 * k9).toNat).toInt = 0 → (gb (r_71.toInt + 1 + 2 * k9 + 1).toNat).toInt = 0) → va_P D vwCl (mX mm q jn cI z_70 x1 x2 x3 x4 x5 x6 x7 x8 x9 x10 x11 x12 x13 x14 y15_1 y16_1 y17_1 x18 x19 x20 gb f1 f2 f3 f4 f5 f6 f7 f8 f9 f10 f11 g12_1 g13_1 g14_1 g15_1 g16_1 f17 f18 f19 f20 f21 f22 f23 f24) H → va_D A (mX mm q jn cI z_70 x1 x2 x3 x4 x5 x6 x7 x8 x9 x10 x11 x12 x13 x14 y15_1 y16_1 y17_1 x18 x19 x20 gb f1 f2 f3 f4 f5 f6 f7 f8 f9 f10 f11 g12_1 g13_1 g14_1 g15_1 g16_1 f17 f18 f19 f20 f21 f22 f23 f24) → va_S A s.heap H locs → lv_has ls 8 [(0, .ref mm), (1, .int k), (2, .int c9), (3, .int d9), (4, .int r_1), (5, .int r_71), (6, .int kk)] → W p l e ({ frames := 5, cells := 0, slots := 0, locals := 124 }) s m args below meth c H locs 0 0 Q (F0 m 193 ls []) := by
                      intro ddloop193
                      induction ddloop193 with
                      | zero =>
                        intro kk gb H locs ls hdd
                        exact absurd hdd (Nat.not_lt_zero _)
                      | succ ddloop193 ih193 =>
                        intro kk gb H locs ls hdd hkk hu2 hn2 hcx2 hzz2 hpr2 hP hD hS hl
                        have hgr : gb r_1.toInt.toNat = f0 r_1.toInt.toNat := hu2 _ (by omega) (by omega)
                        refine lv_iload hx hb dX11_drop_193 (lv_at hl 6 rfl) ?_
                        refine lv_iconst (v := 3) hx hb dX11_drop_195 (by decide) ?_
                        refine lv_aload_n hx hb dX11_drop_196 rfl (lv_at hl 0 rfl) ?_
                        refine va_get (D := D) (ci := 11) (v := .ref (q 0)) (C := RX11) (T := TX11) (N := 47) hx hb hts (by decide +kernel) hown hK.1 hP 0 rfl rfl 1 (by decide) (hts (.fieldLink RX11 8 "JugglingHallModel" "rows" "[I") (by decide +kernel)) (fun _ h9 => h9) rfl dX11_drop_197 ?_
                        refine lv_iload hx hb dX11_drop_200 (lv_at hl 4 rfl) ?_
                        refine a_iald (f := gb) (u := r_1.toInt) hx hb hK.1 hP 1 0 rfl rfl dX11_drop_202 (rfl) (by omega) (fun z_77 q_77 e_77 => ?_)
                        rw [hgr] at e_77
                        refine a_imul (u := 3) (v := z_77.toInt) hx hb dX11_drop_203 (by decide) (rfl) (by omega) (fun z_78 e_78 => ?_)
                        refine a_icmp_ge (u := kk.toInt) (v := (3 * z_77.toInt)) (tgt := 229) hx hb dX11_drop_204 (by decide) (rfl) (e_78) (fun c_79 => ?_) (fun c_79 => ?_)
                        · have hMe : r_71.toInt = 150 * (8 * (x0.toInt + 1) + d9.toInt) := by omega
                          refine lv_aload_n hx hb dX11_drop_229 rfl (lv_at hl 0 rfl) ?_
                          refine lv_aload_n hx hb dX11_drop_230 rfl (lv_at hl 0 rfl) ?_
                          refine va_get (D := D) (ci := 11) (v := .int z_70) (C := RX11) (T := TX11) (N := 47) hx hb hts (by decide +kernel) hown hK.1 hP 0 rfl rfl 3 (by decide) (hts (.fieldLink RX11 185 "JugglingHallModel" "time" "I") (by decide +kernel)) (fun _ h9 => h9) rfl dX11_drop_231 ?_
                          refine mp_1 hx hb hts (by decide +kernel) hown hK hP hD hS (hts (.fieldLink RX11 104 "JugglingHallModel" "looked" "I") (by decide +kernel)) dX11_drop_234 (fun H locs hP hD hS => ?_)
                          refine lv_aload_n hx hb dX11_drop_237 rfl (lv_at hl 0 rfl) ?_
                          refine va_get (D := D) (ci := 11) (v := .int z_70) (C := RX11) (T := TX11) (N := 47) hx hb hts (by decide +kernel) hown hK.1 hP 0 rfl rfl 3 (by decide) (hts (.fieldLink RX11 185 "JugglingHallModel" "time" "I") (by decide +kernel)) (fun _ h9 => h9) rfl dX11_drop_238 ?_
                          exact g_iret (z_70, z_70, z_70, y15_1, y16_1, y17_1, gb, g12_1, g13_1, g14_1, g15_1, g16_1) hx hb hr hlocks hS rfl (⟨show 0 ≤ z_70.toInt ∧ z_70.toInt ≤ 60 from (by first | assumption | omega), show 0 ≤ z_70.toInt ∧ z_70.toInt ≤ z_70.toInt from (by first | assumption | omega), show RowsX jn gb from (rows_put (t := (x0.toInt + 1)) (k := d9.toInt) (n := (f0 r_1.toInt.toNat).toInt) hR (by omega) (by omega) (by rw [← hMe]; exact hu2) (by rw [← hMe]; exact hn2) (by omega) (by rw [← hMe]; exact ⟨fun i9 h8 h9 => by have h6 := hcx2 (i9 - (r_71.toInt + 1)) (by omega) (by omega); rw [show r_71.toInt + 1 + (i9 - (r_71.toInt + 1)) = i9 by omega] at h6; exact h6, fun k9 h8 h9 => hpr2 k9 h8 (by omega)⟩)), show RowsZ jn gb from (rowz_put (t := (x0.toInt + 1)) (k := d9.toInt) (n := (f0 r_1.toInt.toNat).toInt) hR hRZ (by omega) (by omega) (by rw [← hMe]; exact hu2) (by rw [← hMe]; exact hn2) (by rw [← hMe]; exact zx_flat hzz2 (by omega)))⟩) hP hD hQ (Nat.le_of_ble_eq_true rfl) (Nat.le_of_ble_eq_true rfl) dX11_drop_241
                        · refine lv_aload_n hx hb dX11_drop_207 rfl (lv_at hl 0 rfl) ?_
                          refine va_get (D := D) (ci := 11) (v := .ref (q 0)) (C := RX11) (T := TX11) (N := 47) hx hb hts (by decide +kernel) hown hK.1 hP 0 rfl rfl 1 (by decide) (hts (.fieldLink RX11 8 "JugglingHallModel" "rows" "[I") (by decide +kernel)) (fun _ h9 => h9) rfl dX11_drop_208 ?_
                          refine lv_iload hx hb dX11_drop_211 (lv_at hl 5 rfl) ?_
                          refine lv_iconst (v := 1) hx hb dX11_drop_213 (by decide) ?_
                          refine a_iadd (u := r_71.toInt) (v := 1) hx hb dX11_drop_214 (rfl) (by decide) (by omega) (fun z_80 e_80 => ?_)
                          refine lv_iconst (v := 2) hx hb dX11_drop_215 (by decide) ?_
                          refine lv_iload hx hb dX11_drop_216 (lv_at hl 6 rfl) ?_
                          refine a_imul (u := 2) (v := kk.toInt) hx hb dX11_drop_218 (by decide) (rfl) (by omega) (fun z_81 e_81 => ?_)
                          refine a_iadd (u := (r_71.toInt + 1)) (v := (2 * kk.toInt)) hx hb dX11_drop_219 (e_80) (e_81) (by omega) (fun z_82 e_82 => ?_)
                          have hxe0 : ((r_71.toInt + 1) + (2 * kk.toInt)) = r_71.toInt + 1 + 2 * kk.toInt := by omega
                          have hxe1 : z_82.toInt = r_71.toInt + 1 + 2 * kk.toInt := by omega
                          have hc0 := hcx2 (2 * kk.toInt) (by omega) (by omega)
                          have hc1 := hcx2 (2 * kk.toInt + 1) (by omega) (by omega)
                          rw [show r_71.toInt + 1 + (2 * kk.toInt + 1) = r_71.toInt + 1 + 2 * kk.toInt + 1 by omega] at hc1
                          have hPc := hP.sub (ws' := [(q 0, .inl (cI, 73200, .inl gb))]) [1] (by with_unfolding_all rfl)
                          have hDc := hD.sub (ws' := [(q 0, .inl (cI, 73200, .inl gb))]) [1] (by decide) (by with_unfolding_all rfl)
                          refine call_g (wr := [(mm, .inr (11, mXF q jn z_70 x1 x2 x3 x4 x5 x6 x7 x8 x9 x10 x11 x12 x13 x14 y15_1 y16_1 y17_1 x18 x19 x20)), (q 1, .inl (cI, 488, .inl f1)), (q 2, .inl (cI, 300, .inl f2)), (q 3, .inl (cI, 2400, .inl f3)), (q 4, .inl (cI, 6, .inl f4)), (q 5, .inl (cI, 6, .inl f5)), (q 6, .inl (cI, 7, .inl f6)), (q 7, .inl (cI, 144, .inl f7)), (q 8, .inl (cI, 8, .inl f8)), (q 9, .inl (cI, 1152, .inl f9)), (q 10, .inl (cI, 8, .inl f10)), (q 11, .inl (cI, 8, .inl f11)), (q 12, .inl (cI, 72, .inl g12_1)), (q 13, .inl (cI, 144, .inl g13_1)), (q 14, .inl (cI, 144, .inl g14_1)), (q 15, .inl (cI, 144, .inl g15_1)), (q 16, .inl (cI, 6, .inl g16_1)), (q 17, .inl (cI, 512, .inl f17)), (q 18, .inl (cI, 512, .inl f18)), (q 19, .inl (cI, 11, .inl f19)), (q 20, .inl (cI, 11, .inl f20)), (q 21, .inl (cI, 300, .inl f21)), (q 22, .inl (cI, 300, .inl f22)), (q 23, .inl (cI, 8, .inl f23)), (q 24, .inl (cI, 8, .inl f24))]) (va_runS (As := [.ref (q 0), .int z_82]) (rest := []) ⟨hx, hb, hml, hown, hts⟩ (k_order l D cI cR cM _  (by first | assumption | omega) (by rw [hxe1]; exact ⟨hc0.1, hc0.2.2.2⟩) (by rw [hxe1]; exact ⟨hc1.1, hc1.2.2.2⟩) (by decide)) (va_cwS 2 hts gX11_drop_X11_order rfl rfl rfl (by decide +kernel) ⟨Nat.le_of_ble_eq_true rfl, Nat.le_of_ble_eq_true rfl⟩) (pre_S hK hPc hDc) rfl rfl hl.1 rfl (lv_room (Nat.le_of_ble_eq_true rfl)) dX11_drop_220 ⟨Nat.le_of_ble_eq_true rfl, Nat.le_of_ble_eq_true rfl⟩) hP hD hS hA [1] [0, 2, 3, 4, 5, 6, 7, 8, 9, 10, 11, 12, 13, 14, 15, 16, 17, 18, 19, 20, 21, 22, 23, 24, 25] (by with_unfolding_all rfl) (by with_unfolding_all rfl) (by decide) (by decide) (fun g_83 H locs hw hP hD hS => ?_)
                          have hP : va_P D vwCl (mX mm q jn cI z_70 x1 x2 x3 x4 x5 x6 x7 x8 x9 x10 x11 x12 x13 x14 y15_1 y16_1 y17_1 x18 x19 x20 g_83 f1 f2 f3 f4 f5 f6 f7 f8 f9 f10 f11 g12_1 g13_1 g14_1 g15_1 g16_1 f17 f18 f19 f20 f21 f22 f23 f24) H := hP.sub [0, 25, 1, 2, 3, 4, 5, 6, 7, 8, 9, 10, 11, 12, 13, 14, 15, 16, 17, 18, 19, 20, 21, 22, 23, 24] (by with_unfolding_all rfl)
                          have hD : va_D A (mX mm q jn cI z_70 x1 x2 x3 x4 x5 x6 x7 x8 x9 x10 x11 x12 x13 x14 y15_1 y16_1 y17_1 x18 x19 x20 g_83 f1 f2 f3 f4 f5 f6 f7 f8 f9 f10 f11 g12_1 g13_1 g14_1 g15_1 g16_1 f17 f18 f19 f20 f21 f22 f23 f24) := hD.sub [0, 25, 1, 2, 3, 4, 5, 6, 7, 8, 9, 10, 11, 12, 13, 14, 15, 16, 17, 18, 19, 20, 21, 22, 23, 24] (by decide) (by with_unfolding_all rfl)
                          obtain ⟨hu_83, hs_83, hz_83⟩ : (∀ i : Int, 0 ≤ i → i ≠ z_82.toInt → i ≠ z_82.toInt + 1 → g_83 i.toNat = gb i.toNat) ∧ ((g_83 z_82.toInt.toNat = gb z_82.toInt.toNat ∧ g_83 (z_82.toInt + 1).toNat = gb (z_82.toInt + 1).toNat) ∨ (g_83 z_82.toInt.toNat = gb (z_82.toInt + 1).toNat ∧ g_83 (z_82.toInt + 1).toNat = gb z_82.toInt.toNat)) ∧ ((g_83 z_82.toInt.toNat).toInt = 0 → (g_83 (z_82.toInt + 1).toNat).toInt = 0) := hw
                          rw [hxe1] at hu_83 hs_83 hz_83
                          have hp1 : CellX jn (g_83 (r_71.toInt + 1 + 2 * kk.toInt).toNat) := by
                            rcases hs_83 with q | q
                            · rw [q.1]; exact hc0
                            · rw [q.1]; exact hc1
                          have hp2 : CellX jn (g_83 (r_71.toInt + 1 + 2 * kk.toInt + 1).toNat) := by
                            rcases hs_83 with q | q
                            · rw [q.2]; exact hc1
                            · rw [q.2]; exact hc0
                          have hcx3 : ∀ i9 : Int, 0 ≤ i9 → i9 < 6 * (f0 r_1.toInt.toNat).toInt → CellX jn (g_83 (r_71.toInt + 1 + i9).toNat) := fun i9 h8 h9 => by
                            by_cases q1 : i9 = 2 * kk.toInt
                            · rw [q1]; exact hp1
                            · by_cases q2 : i9 = 2 * kk.toInt + 1
                              · rw [q2, show r_71.toInt + 1 + (2 * kk.toInt + 1) = r_71.toInt + 1 + 2 * kk.toInt + 1 by omega]; exact hp2
                              · rw [hu_83 _ (by omega) (by omega) (by omega)]; exact hcx2 i9 h8 h9
                          have hzz3 : ∀ i9 : Int, 0 ≤ i9 → i9 < 6 * (f0 r_1.toInt.toNat).toInt → 2 * (jn : Int) ≤ i9 % 6 → (g_83 (r_71.toInt + 1 + i9).toNat).toInt = 0 := fun i9 h7 h8 h9 => by
                            by_cases q1 : i9 = 2 * kk.toInt
                            · have e1 := hzz2 (2 * kk.toInt) (by omega) (by omega) (by omega)
                              have e2 := hzz2 (2 * kk.toInt + 1) (by omega) (by omega) (by omega)
                              rw [show r_71.toInt + 1 + (2 * kk.toInt + 1) = r_71.toInt + 1 + 2 * kk.toInt + 1 by omega] at e2
                              rw [q1]
                              rcases hs_83 with q | q
                              · rw [q.1]; exact e1
                              · rw [q.1]; exact e2
                            · by_cases q2 : i9 = 2 * kk.toInt + 1
                              · have e1 := hzz2 (2 * kk.toInt) (by omega) (by omega) (by omega)
                                have e2 := hzz2 (2 * kk.toInt + 1) (by omega) (by omega) (by omega)
                                rw [show r_71.toInt + 1 + (2 * kk.toInt + 1) = r_71.toInt + 1 + 2 * kk.toInt + 1 by omega] at e2
                                rw [q2, show r_71.toInt + 1 + (2 * kk.toInt + 1) = r_71.toInt + 1 + 2 * kk.toInt + 1 by omega]
                                rcases hs_83 with q | q
                                · rw [q.2]; exact e2
                                · rw [q.2]; exact e1
                              · rw [hu_83 _ (by omega) (by omega) (by omega)]; exact hzz2 i9 h7 h8 h9
                          have hpr3 : ∀ k9 : Int, 0 ≤ k9 → k9 < (kk.toInt + 1) → (g_83 (r_71.toInt + 1 + 2 * k9).toNat).toInt = 0 → (g_83 (r_71.toInt + 1 + 2 * k9 + 1).toNat).toInt = 0 := fun k9 h7 h8 h9 => by
                            by_cases q1 : k9 = kk.toInt
                            · rw [q1] at h9 ⊢; exact hz_83 h9
                            · rw [hu_83 _ (by omega) (by omega) (by omega)] at h9 ⊢; exact hpr2 k9 h7 (by omega) h9
                          obtain ⟨z_84, q_84, e_84⟩ := i_inc (a := kk.toInt) (1) (rfl) (by decide) (by omega) (by omega)
                          refine lv_iinc (v := z_84) (lv' := [(6, .int z_84), (0, .ref mm), (1, .int k), (2, .int c9), (3, .int d9), (4, .int r_1), (5, .int r_71)]) hx hb dX11_drop_223 hl (k := 6) rfl q_84 (by decide) rfl (fun ls hl => ?_)
                          refine lv_goto (tgt := 193) hx hb dX11_drop_226 (by decide) ?_
                          exact ih193 z_84 g_83 _ _ _ (by omega) (by first | assumption | omega) (fun i9 h8 h9 => by rw [hu_83 i9 h8 (by omega) (by omega)]; exact hu2 i9 h8 h9) (by rw [hu_83 _ (by omega) (by omega) (by omega)]; exact hn2) (hcx3) (hzz3) (fun k9 h7 h8 h9 => hpr3 k9 h7 (by omega) h9) hP hD hS (lv_sub hl [1, 2, 3, 4, 5, 6, 0] rfl)
                    have hz_85 : (0 : Int32).toInt = 0 := by decide
                    exact loop193 ((3 * (f0 r_1.toInt.toNat).toInt - (0 : Int32).toInt).toNat + 1) (0 : Int32) ga _ _ _ (by omega) (by first | assumption | omega) (hu) (hn) (fun i9 h8 h9 => hcx i9 h8 (by omega)) (fun i9 h7 h8 h9 => hzz i9 h7 (by omega) h9) (fun k9 h7 h8 h9 => absurd h8 (by omega)) hP hD hS (lv_sub hl [1, 2, 3, 4, 5, 6, 0] rfl)
                  · refine lv_aload_n hx hb dX11_drop_107 rfl (lv_at hl 0 rfl) ?_
                    refine va_get (D := D) (ci := 11) (v := .ref (q 15)) (C := RX11) (T := TX11) (N := 47) hx hb hts (by decide +kernel) hown hK.1 hP 0 rfl rfl 33 (by decide) (hts (.fieldLink RX11 63 "JugglingHallModel" "cycleAt" "[I") (by decide +kernel)) (fun _ h9 => h9) rfl dX11_drop_108 ?_
                    refine lv_iload hx hb dX11_drop_111 (lv_at hl 6 rfl) ?_
                    refine a_iald (f := g15_1) (u := t.toInt) hx hb hK.1 hP 16 0 rfl rfl dX11_drop_113 (rfl) (by omega) (fun z_86 q_86 e_86 => ?_)
                    refine a_if_lt (u := z_86.toInt) (tgt := 148) hx hb dX11_drop_114 (by decide) (rfl) (fun c_87 => ?_) (fun c_87 => ?_)
                    · refine lv_iconst (v := 0) hx hb dX11_drop_148 (by decide) ?_
                      refine lv_istore (lv' := [(7, .int 0), (0, .ref mm), (1, .int k), (2, .int c9), (3, .int d9), (4, .int r_1), (5, .int r_71), (6, .int t)]) hx hb dX11_drop_149 hl (by decide) rfl (fun ls hl => ?_)
                      refine lv_aload_n hx hb dX11_drop_151 rfl (lv_at hl 1 rfl) ?_
                      refine va_get (D := D) (ci := 11) (v := .ref (q 0)) (C := RX11) (T := TX11) (N := 47) hx hb hts (by decide +kernel) hown hK.1 hP 0 rfl rfl 1 (by decide) (hts (.fieldLink RX11 8 "JugglingHallModel" "rows" "[I") (by decide +kernel)) (fun _ h9 => h9) rfl dX11_drop_152 ?_
                      refine lv_iload hx hb dX11_drop_155 (lv_at hl 6 rfl) ?_
                      refine lv_iconst (v := 1) hx hb dX11_drop_157 (by decide) ?_
                      refine a_iadd (u := r_71.toInt) (v := 1) hx hb dX11_drop_158 (rfl) (by decide) (by omega) (fun z_88 e_88 => ?_)
                      refine lv_iload hx hb dX11_drop_159 (lv_at hl 7 rfl) ?_
                      refine a_iadd (u := (r_71.toInt + 1)) (v := t.toInt) hx hb dX11_drop_161 (e_88) (rfl) (by omega) (fun z_89 e_89 => ?_)
                      refine lv_iload hx hb dX11_drop_162 (lv_at hl 0 rfl) ?_
                      refine a_if_eq (u := 0) (tgt := 171) hx hb dX11_drop_164 (by decide) (by decide) (fun c_90 => ?_) (fun c_90 => absurd c_90 (by omega))
                      refine lv_aload_n hx hb dX11_drop_171 rfl (lv_at hl 1 rfl) ?_
                      refine va_get (D := D) (ci := 11) (v := .ref (q 0)) (C := RX11) (T := TX11) (N := 47) hx hb hts (by decide +kernel) hown hK.1 hP 0 rfl rfl 1 (by decide) (hts (.fieldLink RX11 8 "JugglingHallModel" "rows" "[I") (by decide +kernel)) (fun _ h9 => h9) rfl dX11_drop_172 ?_
                      refine lv_iload hx hb dX11_drop_175 (lv_at hl 5 rfl) ?_
                      refine lv_iconst (v := 1) hx hb dX11_drop_177 (by decide) ?_
                      refine a_iadd (u := r_1.toInt) (v := 1) hx hb dX11_drop_178 (rfl) (by decide) (by omega) (fun z_91 e_91 => ?_)
                      refine lv_iload hx hb dX11_drop_179 (lv_at hl 7 rfl) ?_
                      refine a_iadd (u := (r_1.toInt + 1)) (v := t.toInt) hx hb dX11_drop_181 (e_91) (rfl) (by omega) (fun z_92 e_92 => ?_)
                      refine a_iald (f := ga) (u := ((r_1.toInt + 1) + t.toInt)) hx hb hK.1 hP 1 0 rfl rfl dX11_drop_182 (e_92) (by omega) (fun z_93 q_93 e_93 => ?_)
                      have hcq : z_93 = f0 (r_1.toInt + 1 + t.toInt).toNat := by rw [q_93, show ((r_1.toInt + 1) + t.toInt) = r_1.toInt + 1 + t.toInt by omega]; exact hu _ (by omega) (by omega)
                      have hcell : CellX jn z_93 := by rw [hcq]; exact hr6.1 _ (by omega) (by omega)
                      have hcellz : 2 * (jn : Int) ≤ t.toInt % 6 → z_93.toInt = 0 := fun q => by
                        have h9 := hZ9 (t.toInt / 6) (t.toInt % 6) (by omega) (by omega) q (by omega)
                        rw [show r_1.toInt + 1 + 6 * (t.toInt / 6) + t.toInt % 6 = r_1.toInt + 1 + t.toInt by omega] at h9
                        rw [hcq]; exact h9
                      refine ma_0 (u := ((r_71.toInt + 1) + t.toInt)) hx hb hK hP hD hS dX11_drop_183 (e_89) (by omega) (fun g_94 H locs eg_94 hP hD hS => ?_)
                      obtain ⟨z_95, q_95, e_95⟩ := i_inc (a := t.toInt) (1) (rfl) (by decide) (by omega) (by omega)
                      refine lv_iinc (v := z_95) (lv' := [(6, .int z_95), (7, .int 0), (0, .ref mm), (1, .int k), (2, .int c9), (3, .int d9), (4, .int r_1), (5, .int r_71)]) hx hb dX11_drop_184 hl (k := 7) rfl q_95 (by decide) rfl (fun ls hl => ?_)
                      refine lv_goto (tgt := 92) hx hb dX11_drop_187 (by decide) ?_
                      exact ih92 z_95 g_94 _ _ _ (by omega) (by first | assumption | omega) (fun i9 h8 h9 => by rw [eg_94, un_i h8 (by omega) (by omega)]; exact hu i9 h8 h9) (by rw [eg_94, un_i (by omega) (by omega) (by omega)]; exact hn) (fun i9 h8 h9 => by
                        by_cases q : i9 = t.toInt
                        · rw [eg_94, q, show r_71.toInt + 1 + t.toInt = ((r_71.toInt + 1) + t.toInt) by omega, pk_us]; exact hcell
                        · rw [eg_94, un_i (by omega) (by omega) (by omega)]; exact hcx i9 h8 (by omega)) (fun i9 h7 h8 h9 => by
                        by_cases q : i9 = t.toInt
                        · rw [eg_94, q, show r_71.toInt + 1 + t.toInt = ((r_71.toInt + 1) + t.toInt) by omega, pk_us]; exact hcellz (by omega)
                        · rw [eg_94, un_i (by omega) (by omega) (by omega)]; exact hzz i9 h7 (by omega) h9) hP hD hS (lv_sub hl [2, 3, 4, 5, 6, 7, 0] rfl)
                    · refine lv_aload_n hx hb dX11_drop_117 rfl (lv_at hl 0 rfl) ?_
                      refine va_get (D := D) (ci := 11) (v := .ref (q 15)) (C := RX11) (T := TX11) (N := 47) hx hb hts (by decide +kernel) hown hK.1 hP 0 rfl rfl 33 (by decide) (hts (.fieldLink RX11 63 "JugglingHallModel" "cycleAt" "[I") (by decide +kernel)) (fun _ h9 => h9) rfl dX11_drop_118 ?_
                      refine lv_iload hx hb dX11_drop_121 (lv_at hl 6 rfl) ?_
                      refine a_iald (f := g15_1) (u := t.toInt) hx hb hK.1 hP 16 0 rfl rfl dX11_drop_123 (rfl) (by omega) (fun z_96 q_96 e_96 => ?_)
                      refine lv_bipush (v := 31) hx hb dX11_drop_124 (by decide) ?_
                      refine a_icmp_ge (u := z_96.toInt) (v := 31) (tgt := 148) hx hb dX11_drop_126 (by decide) (rfl) (by decide) (fun c_97 => ?_) (fun c_97 => ?_)
                      · refine lv_iconst (v := 0) hx hb dX11_drop_148 (by decide) ?_
                        refine lv_istore (lv' := [(7, .int 0), (0, .ref mm), (1, .int k), (2, .int c9), (3, .int d9), (4, .int r_1), (5, .int r_71), (6, .int t)]) hx hb dX11_drop_149 hl (by decide) rfl (fun ls hl => ?_)
                        refine lv_aload_n hx hb dX11_drop_151 rfl (lv_at hl 1 rfl) ?_
                        refine va_get (D := D) (ci := 11) (v := .ref (q 0)) (C := RX11) (T := TX11) (N := 47) hx hb hts (by decide +kernel) hown hK.1 hP 0 rfl rfl 1 (by decide) (hts (.fieldLink RX11 8 "JugglingHallModel" "rows" "[I") (by decide +kernel)) (fun _ h9 => h9) rfl dX11_drop_152 ?_
                        refine lv_iload hx hb dX11_drop_155 (lv_at hl 6 rfl) ?_
                        refine lv_iconst (v := 1) hx hb dX11_drop_157 (by decide) ?_
                        refine a_iadd (u := r_71.toInt) (v := 1) hx hb dX11_drop_158 (rfl) (by decide) (by omega) (fun z_98 e_98 => ?_)
                        refine lv_iload hx hb dX11_drop_159 (lv_at hl 7 rfl) ?_
                        refine a_iadd (u := (r_71.toInt + 1)) (v := t.toInt) hx hb dX11_drop_161 (e_98) (rfl) (by omega) (fun z_99 e_99 => ?_)
                        refine lv_iload hx hb dX11_drop_162 (lv_at hl 0 rfl) ?_
                        refine a_if_eq (u := 0) (tgt := 171) hx hb dX11_drop_164 (by decide) (by decide) (fun c_100 => ?_) (fun c_100 => absurd c_100 (by omega))
                        refine lv_aload_n hx hb dX11_drop_171 rfl (lv_at hl 1 rfl) ?_
                        refine va_get (D := D) (ci := 11) (v := .ref (q 0)) (C := RX11) (T := TX11) (N := 47) hx hb hts (by decide +kernel) hown hK.1 hP 0 rfl rfl 1 (by decide) (hts (.fieldLink RX11 8 "JugglingHallModel" "rows" "[I") (by decide +kernel)) (fun _ h9 => h9) rfl dX11_drop_172 ?_
                        refine lv_iload hx hb dX11_drop_175 (lv_at hl 5 rfl) ?_
                        refine lv_iconst (v := 1) hx hb dX11_drop_177 (by decide) ?_
                        refine a_iadd (u := r_1.toInt) (v := 1) hx hb dX11_drop_178 (rfl) (by decide) (by omega) (fun z_101 e_101 => ?_)
                        refine lv_iload hx hb dX11_drop_179 (lv_at hl 7 rfl) ?_
                        refine a_iadd (u := (r_1.toInt + 1)) (v := t.toInt) hx hb dX11_drop_181 (e_101) (rfl) (by omega) (fun z_102 e_102 => ?_)
                        refine a_iald (f := ga) (u := ((r_1.toInt + 1) + t.toInt)) hx hb hK.1 hP 1 0 rfl rfl dX11_drop_182 (e_102) (by omega) (fun z_103 q_103 e_103 => ?_)
                        have hcq : z_103 = f0 (r_1.toInt + 1 + t.toInt).toNat := by rw [q_103, show ((r_1.toInt + 1) + t.toInt) = r_1.toInt + 1 + t.toInt by omega]; exact hu _ (by omega) (by omega)
                        have hcell : CellX jn z_103 := by rw [hcq]; exact hr6.1 _ (by omega) (by omega)
                        have hcellz : 2 * (jn : Int) ≤ t.toInt % 6 → z_103.toInt = 0 := fun q => by
                          have h9 := hZ9 (t.toInt / 6) (t.toInt % 6) (by omega) (by omega) q (by omega)
                          rw [show r_1.toInt + 1 + 6 * (t.toInt / 6) + t.toInt % 6 = r_1.toInt + 1 + t.toInt by omega] at h9
                          rw [hcq]; exact h9
                        refine ma_0 (u := ((r_71.toInt + 1) + t.toInt)) hx hb hK hP hD hS dX11_drop_183 (e_99) (by omega) (fun g_104 H locs eg_104 hP hD hS => ?_)
                        obtain ⟨z_105, q_105, e_105⟩ := i_inc (a := t.toInt) (1) (rfl) (by decide) (by omega) (by omega)
                        refine lv_iinc (v := z_105) (lv' := [(6, .int z_105), (7, .int 0), (0, .ref mm), (1, .int k), (2, .int c9), (3, .int d9), (4, .int r_1), (5, .int r_71)]) hx hb dX11_drop_184 hl (k := 7) rfl q_105 (by decide) rfl (fun ls hl => ?_)
                        refine lv_goto (tgt := 92) hx hb dX11_drop_187 (by decide) ?_
                        exact ih92 z_105 g_104 _ _ _ (by omega) (by first | assumption | omega) (fun i9 h8 h9 => by rw [eg_104, un_i h8 (by omega) (by omega)]; exact hu i9 h8 h9) (by rw [eg_104, un_i (by omega) (by omega) (by omega)]; exact hn) (fun i9 h8 h9 => by
                          by_cases q : i9 = t.toInt
                          · rw [eg_104, q, show r_71.toInt + 1 + t.toInt = ((r_71.toInt + 1) + t.toInt) by omega, pk_us]; exact hcell
                          · rw [eg_104, un_i (by omega) (by omega) (by omega)]; exact hcx i9 h8 (by omega)) (fun i9 h7 h8 h9 => by
                          by_cases q : i9 = t.toInt
                          · rw [eg_104, q, show r_71.toInt + 1 + t.toInt = ((r_71.toInt + 1) + t.toInt) by omega, pk_us]; exact hcellz (by omega)
                          · rw [eg_104, un_i (by omega) (by omega) (by omega)]; exact hzz i9 h7 (by omega) h9) hP hD hS (lv_sub hl [2, 3, 4, 5, 6, 7, 0] rfl)
                      · refine lv_iload_n hx hb dX11_drop_129 rfl (lv_at hl 2 rfl) ?_
                        refine lv_aload_n hx hb dX11_drop_130 rfl (lv_at hl 0 rfl) ?_
                        refine va_get (D := D) (ci := 11) (v := .ref (q 15)) (C := RX11) (T := TX11) (N := 47) hx hb hts (by decide +kernel) hown hK.1 hP 0 rfl rfl 33 (by decide) (hts (.fieldLink RX11 63 "JugglingHallModel" "cycleAt" "[I") (by decide +kernel)) (fun _ h9 => h9) rfl dX11_drop_131 ?_
                        refine lv_iload hx hb dX11_drop_134 (lv_at hl 6 rfl) ?_
                        refine a_iald (f := g15_1) (u := t.toInt) hx hb hK.1 hP 16 0 rfl rfl dX11_drop_136 (rfl) (by omega) (fun z_106 q_106 e_106 => ?_)
                        refine lv_ishr hx hb dX11_drop_137 ?_
                        refine lv_topi (fun z_107 q_107 => ?_)
                        refine lv_iconst (v := 1) hx hb dX11_drop_138 (by decide) ?_
                        refine lv_iand hx hb dX11_drop_139 ?_
                        refine lv_topi (fun z_108 q_108 => ?_)
                        refine lv_iconst (v := 1) hx hb dX11_drop_140 (by decide) ?_
                        refine a_icmp_ne (u := z_108.toInt) (v := 1) (tgt := 148) hx hb dX11_drop_141 (by decide) (rfl) (by decide) (fun c_109 => ?_) (fun c_109 => ?_)
                        · refine lv_iconst (v := 0) hx hb dX11_drop_148 (by decide) ?_
                          refine lv_istore (lv' := [(7, .int 0), (0, .ref mm), (1, .int k), (2, .int c9), (3, .int d9), (4, .int r_1), (5, .int r_71), (6, .int t)]) hx hb dX11_drop_149 hl (by decide) rfl (fun ls hl => ?_)
                          refine lv_aload_n hx hb dX11_drop_151 rfl (lv_at hl 1 rfl) ?_
                          refine va_get (D := D) (ci := 11) (v := .ref (q 0)) (C := RX11) (T := TX11) (N := 47) hx hb hts (by decide +kernel) hown hK.1 hP 0 rfl rfl 1 (by decide) (hts (.fieldLink RX11 8 "JugglingHallModel" "rows" "[I") (by decide +kernel)) (fun _ h9 => h9) rfl dX11_drop_152 ?_
                          refine lv_iload hx hb dX11_drop_155 (lv_at hl 6 rfl) ?_
                          refine lv_iconst (v := 1) hx hb dX11_drop_157 (by decide) ?_
                          refine a_iadd (u := r_71.toInt) (v := 1) hx hb dX11_drop_158 (rfl) (by decide) (by omega) (fun z_110 e_110 => ?_)
                          refine lv_iload hx hb dX11_drop_159 (lv_at hl 7 rfl) ?_
                          refine a_iadd (u := (r_71.toInt + 1)) (v := t.toInt) hx hb dX11_drop_161 (e_110) (rfl) (by omega) (fun z_111 e_111 => ?_)
                          refine lv_iload hx hb dX11_drop_162 (lv_at hl 0 rfl) ?_
                          refine a_if_eq (u := 0) (tgt := 171) hx hb dX11_drop_164 (by decide) (by decide) (fun c_112 => ?_) (fun c_112 => absurd c_112 (by omega))
                          refine lv_aload_n hx hb dX11_drop_171 rfl (lv_at hl 1 rfl) ?_
                          refine va_get (D := D) (ci := 11) (v := .ref (q 0)) (C := RX11) (T := TX11) (N := 47) hx hb hts (by decide +kernel) hown hK.1 hP 0 rfl rfl 1 (by decide) (hts (.fieldLink RX11 8 "JugglingHallModel" "rows" "[I") (by decide +kernel)) (fun _ h9 => h9) rfl dX11_drop_172 ?_
                          refine lv_iload hx hb dX11_drop_175 (lv_at hl 5 rfl) ?_
                          refine lv_iconst (v := 1) hx hb dX11_drop_177 (by decide) ?_
                          refine a_iadd (u := r_1.toInt) (v := 1) hx hb dX11_drop_178 (rfl) (by decide) (by omega) (fun z_113 e_113 => ?_)
                          refine lv_iload hx hb dX11_drop_179 (lv_at hl 7 rfl) ?_
                          refine a_iadd (u := (r_1.toInt + 1)) (v := t.toInt) hx hb dX11_drop_181 (e_113) (rfl) (by omega) (fun z_114 e_114 => ?_)
                          refine a_iald (f := ga) (u := ((r_1.toInt + 1) + t.toInt)) hx hb hK.1 hP 1 0 rfl rfl dX11_drop_182 (e_114) (by omega) (fun z_115 q_115 e_115 => ?_)
                          have hcq : z_115 = f0 (r_1.toInt + 1 + t.toInt).toNat := by rw [q_115, show ((r_1.toInt + 1) + t.toInt) = r_1.toInt + 1 + t.toInt by omega]; exact hu _ (by omega) (by omega)
                          have hcell : CellX jn z_115 := by rw [hcq]; exact hr6.1 _ (by omega) (by omega)
                          have hcellz : 2 * (jn : Int) ≤ t.toInt % 6 → z_115.toInt = 0 := fun q => by
                            have h9 := hZ9 (t.toInt / 6) (t.toInt % 6) (by omega) (by omega) q (by omega)
                            rw [show r_1.toInt + 1 + 6 * (t.toInt / 6) + t.toInt % 6 = r_1.toInt + 1 + t.toInt by omega] at h9
                            rw [hcq]; exact h9
                          refine ma_0 (u := ((r_71.toInt + 1) + t.toInt)) hx hb hK hP hD hS dX11_drop_183 (e_111) (by omega) (fun g_116 H locs eg_116 hP hD hS => ?_)
                          obtain ⟨z_117, q_117, e_117⟩ := i_inc (a := t.toInt) (1) (rfl) (by decide) (by omega) (by omega)
                          refine lv_iinc (v := z_117) (lv' := [(6, .int z_117), (7, .int 0), (0, .ref mm), (1, .int k), (2, .int c9), (3, .int d9), (4, .int r_1), (5, .int r_71)]) hx hb dX11_drop_184 hl (k := 7) rfl q_117 (by decide) rfl (fun ls hl => ?_)
                          refine lv_goto (tgt := 92) hx hb dX11_drop_187 (by decide) ?_
                          exact ih92 z_117 g_116 _ _ _ (by omega) (by first | assumption | omega) (fun i9 h8 h9 => by rw [eg_116, un_i h8 (by omega) (by omega)]; exact hu i9 h8 h9) (by rw [eg_116, un_i (by omega) (by omega) (by omega)]; exact hn) (fun i9 h8 h9 => by
                            by_cases q : i9 = t.toInt
                            · rw [eg_116, q, show r_71.toInt + 1 + t.toInt = ((r_71.toInt + 1) + t.toInt) by omega, pk_us]; exact hcell
                            · rw [eg_116, un_i (by omega) (by omega) (by omega)]; exact hcx i9 h8 (by omega)) (fun i9 h7 h8 h9 => by
                            by_cases q : i9 = t.toInt
                            · rw [eg_116, q, show r_71.toInt + 1 + t.toInt = ((r_71.toInt + 1) + t.toInt) by omega, pk_us]; exact hcellz (by omega)
                            · rw [eg_116, un_i (by omega) (by omega) (by omega)]; exact hzz i9 h7 (by omega) h9) hP hD hS (lv_sub hl [2, 3, 4, 5, 6, 7, 0] rfl)
                        · refine lv_iconst (v := 1) hx hb dX11_drop_144 (by decide) ?_
                          refine lv_goto (tgt := 149) hx hb dX11_drop_145 (by decide) ?_
                          refine lv_istore (lv' := [(7, .int 1), (0, .ref mm), (1, .int k), (2, .int c9), (3, .int d9), (4, .int r_1), (5, .int r_71), (6, .int t)]) hx hb dX11_drop_149 hl (by decide) rfl (fun ls hl => ?_)
                          refine lv_aload_n hx hb dX11_drop_151 rfl (lv_at hl 1 rfl) ?_
                          refine va_get (D := D) (ci := 11) (v := .ref (q 0)) (C := RX11) (T := TX11) (N := 47) hx hb hts (by decide +kernel) hown hK.1 hP 0 rfl rfl 1 (by decide) (hts (.fieldLink RX11 8 "JugglingHallModel" "rows" "[I") (by decide +kernel)) (fun _ h9 => h9) rfl dX11_drop_152 ?_
                          refine lv_iload hx hb dX11_drop_155 (lv_at hl 6 rfl) ?_
                          refine lv_iconst (v := 1) hx hb dX11_drop_157 (by decide) ?_
                          refine a_iadd (u := r_71.toInt) (v := 1) hx hb dX11_drop_158 (rfl) (by decide) (by omega) (fun z_118 e_118 => ?_)
                          refine lv_iload hx hb dX11_drop_159 (lv_at hl 7 rfl) ?_
                          refine a_iadd (u := (r_71.toInt + 1)) (v := t.toInt) hx hb dX11_drop_161 (e_118) (rfl) (by omega) (fun z_119 e_119 => ?_)
                          refine lv_iload hx hb dX11_drop_162 (lv_at hl 0 rfl) ?_
                          refine a_if_eq (u := 1) (tgt := 171) hx hb dX11_drop_164 (by decide) (by decide) (fun c_120 => absurd c_120 (by omega)) (fun c_120 => ?_)
                          refine lv_iconst (v := 0) hx hb dX11_drop_167 (by decide) ?_
                          refine lv_goto (tgt := 183) hx hb dX11_drop_168 (by decide) ?_
                          refine ma_0 (u := ((r_71.toInt + 1) + t.toInt)) hx hb hK hP hD hS dX11_drop_183 (e_119) (by omega) (fun g_121 H locs eg_121 hP hD hS => ?_)
                          obtain ⟨z_122, q_122, e_122⟩ := i_inc (a := t.toInt) (1) (rfl) (by decide) (by omega) (by omega)
                          refine lv_iinc (v := z_122) (lv' := [(6, .int z_122), (7, .int 1), (0, .ref mm), (1, .int k), (2, .int c9), (3, .int d9), (4, .int r_1), (5, .int r_71)]) hx hb dX11_drop_184 hl (k := 7) rfl q_122 (by decide) rfl (fun ls hl => ?_)
                          refine lv_goto (tgt := 92) hx hb dX11_drop_187 (by decide) ?_
                          exact ih92 z_122 g_121 _ _ _ (by omega) (by first | assumption | omega) (fun i9 h8 h9 => by rw [eg_121, un_i h8 (by omega) (by omega)]; exact hu i9 h8 h9) (by rw [eg_121, un_i (by omega) (by omega) (by omega)]; exact hn) (fun i9 h8 h9 => by
                            by_cases q : i9 = t.toInt
                            · rw [eg_121, q, show r_71.toInt + 1 + t.toInt = ((r_71.toInt + 1) + t.toInt) by omega, pk_us]; exact cx_0 hj.1 (by decide)
                            · rw [eg_121, un_i (by omega) (by omega) (by omega)]; exact hcx i9 h8 (by omega)) (fun i9 h7 h8 h9 => by
                            by_cases q : i9 = t.toInt
                            · rw [eg_121, q, show r_71.toInt + 1 + t.toInt = ((r_71.toInt + 1) + t.toInt) by omega, pk_us]; decide
                            · rw [eg_121, un_i (by omega) (by omega) (by omega)]; exact hzz i9 h7 (by omega) h9) hP hD hS (lv_sub hl [2, 3, 4, 5, 6, 7, 0] rfl)
              have hz_123 : (0 : Int32).toInt = 0 := by decide
              exact loop92 ((6 * (f0 r_1.toInt.toNat).toInt - (0 : Int32).toInt).toNat + 1) (0 : Int32) g_73 _ _ _ (by omega) (by first | assumption | omega) (hu0) (hn0) (fun i9 h8 h9 => absurd h9 (by omega)) (fun i9 h8 h9 => absurd h9 (by omega)) hP hD hS (lv_sub hl [3, 4, 5, 6, 2, 1, 0] rfl)
            · refine lv_iconst (v := (-1)) hx hb dX11_drop_53 (by decide) ?_
              have hz_124 : (-1 : Int32).toInt = (-1) := by decide
              exact g_iret ((-1 : Int32), x0, x1, y15_1, y16_1, y17_1, f0, g12_1, g13_1, g14_1, g15_1, g16_1) hx hb hr hlocks hS rfl (⟨show 0 ≤ x0.toInt ∧ x0.toInt ≤ 60 from (by first | assumption | omega), show 0 ≤ x1.toInt ∧ x1.toInt ≤ x0.toInt from (by first | assumption | omega), show RowsX jn f0 from (hR), show RowsZ jn f0 from (hRZ)⟩) hP hD hQ (Nat.le_of_ble_eq_true rfl) (Nat.le_of_ble_eq_true rfl) dX11_drop_54
set_option maxRecDepth 100000 in
set_option maxHeartbeats 4000000 in
theorem k_text2 (l : Launch) (D : va_G) (cI cR cM : ClassId) (sz : Nat) {jn mm : Nat} {q : Nat → Nat} {x0 x1 x2 x3 x4 x5 x6 x7 x8 x9 x10 x11 x12 x13 x14 x15 x16 x17 x18 x19 x20 : Int32} {f0 f1 f2 f3 f4 f5 f6 f7 f8 f9 f10 f11 f12 f13 f14 f15 f16 f17 f18 f19 f20 f21 f22 f23 f24 : Nat → Int32}  (ht : 0 ≤ x2.toInt ∧ x2.toInt ≤ 300) (hj : 1 ≤ jn ∧ jn ≤ 3) (h0 : 0 ≤ x0.toInt ∧ x0.toInt ≤ 60) (hR : RowsX jn f0) (hRZ : RowsZ jn f0) (hSe : SeenX f1) (hM : MK f11) (hFm : FM f10) (h1 : 0 ≤ x1.toInt ∧ x1.toInt ≤ x0.toInt) : Met l yX11_text wsX11_text ({ frames := 10, cells := 0, slots := 0, locals := 224 }) (P0 D cI cR cM [.ref mm] sz (mX mm q jn cI x0 x1 x2 x3 x4 x5 x6 x7 x8 x9 x10 x11 x12 x13 x14 x15 x16 x17 x18 x19 x20 f0 f1 f2 f3 f4 f5 f6 f7 f8 f9 f10 f11 f12 f13 f14 f15 f16 f17 f18 f19 f20 f21 f22 f23 f24)) (QG (S := Int32 × Int32 × Int32 × Int32 × Int32 × Int32 × Int32 × Int32 × Int32 × Int32 × Int32 × Int32 × Int32 × Int32 × Int32 × Int32 × (Nat → Int32) × (Nat → Int32) × (Nat → Int32) × (Nat → Int32) × (Nat → Int32) × (Nat → Int32) × (Nat → Int32) × (Nat → Int32) × (Nat → Int32) × (Nat → Int32) × (Nat → Int32)) (fun u => some (.int u.1)) (fun u => mX mm q jn cI (u.2.1) (u.2.2.1) (u.2.2.2.1) (u.2.2.2.2.1) (u.2.2.2.2.2.1) (u.2.2.2.2.2.2.1) (u.2.2.2.2.2.2.2.1) (u.2.2.2.2.2.2.2.2.1) (u.2.2.2.2.2.2.2.2.2.1) (u.2.2.2.2.2.2.2.2.2.2.1) (u.2.2.2.2.2.2.2.2.2.2.2.1) (u.2.2.2.2.2.2.2.2.2.2.2.2.1) (u.2.2.2.2.2.2.2.2.2.2.2.2.2.1) (u.2.2.2.2.2.2.2.2.2.2.2.2.2.2.1) (u.2.2.2.2.2.2.2.2.2.2.2.2.2.2.2.1) x15 x16 x17 x18 x19 x20 (u.2.2.2.2.2.2.2.2.2.2.2.2.2.2.2.2.1) (u.2.2.2.2.2.2.2.2.2.2.2.2.2.2.2.2.2.1) f2 (u.2.2.2.2.2.2.2.2.2.2.2.2.2.2.2.2.2.2.1) (u.2.2.2.2.2.2.2.2.2.2.2.2.2.2.2.2.2.2.2.1) (u.2.2.2.2.2.2.2.2.2.2.2.2.2.2.2.2.2.2.2.2.1) (u.2.2.2.2.2.2.2.2.2.2.2.2.2.2.2.2.2.2.2.2.2.1) (u.2.2.2.2.2.2.2.2.2.2.2.2.2.2.2.2.2.2.2.2.2.2.1) (u.2.2.2.2.2.2.2.2.2.2.2.2.2.2.2.2.2.2.2.2.2.2.2.1) (u.2.2.2.2.2.2.2.2.2.2.2.2.2.2.2.2.2.2.2.2.2.2.2.2.1) (u.2.2.2.2.2.2.2.2.2.2.2.2.2.2.2.2.2.2.2.2.2.2.2.2.2.1) (u.2.2.2.2.2.2.2.2.2.2.2.2.2.2.2.2.2.2.2.2.2.2.2.2.2.2) f12 f13 f14 f15 f16 f17 f18 f19 f20 f21 f22 f23 f24) (fun u => (0 ≤ u.2.1.toInt ∧ u.2.1.toInt ≤ 60) ∧ (0 ≤ u.2.2.2.1.toInt ∧ u.2.2.2.1.toInt ≤ 300) ∧ (RowsX jn u.2.2.2.2.2.2.2.2.2.2.2.2.2.2.2.2.1) ∧ (RowsZ jn u.2.2.2.2.2.2.2.2.2.2.2.2.2.2.2.2.1) ∧ (SeenX u.2.2.2.2.2.2.2.2.2.2.2.2.2.2.2.2.2.1) ∧ (MK u.2.2.2.2.2.2.2.2.2.2.2.2.2.2.2.2.2.2.2.2.2.2.2.2.2.2) ∧ (FM u.2.2.2.2.2.2.2.2.2.2.2.2.2.2.2.2.2.2.2.2.2.2.2.2.2.1) ∧ (0 ≤ u.2.2.1.toInt ∧ u.2.2.1.toInt ≤ u.2.1.toInt)) D (va_A (mX mm q jn cI x0 x1 x2 x3 x4 x5 x6 x7 x8 x9 x10 x11 x12 x13 x14 x15 x16 x17 x18 x19 x20 f0 f1 f2 f3 f4 f5 f6 f7 f8 f9 f10 f11 f12 f13 f14 f15 f16 f17 f18 f19 f20 f21 f22 f23 f24) sz)) 0 0 (va_A (mX mm q jn cI x0 x1 x2 x3 x4 x5 x6 x7 x8 x9 x10 x11 x12 x13 x14 x15 x16 x17 x18 x19 x20 f0 f1 f2 f3 f4 f5 f6 f7 f8 f9 f10 f11 f12 f13 f14 f15 f16 f17 f18 f19 f20 f21 f22 f23 f24) sz) := by
  refine go (cc := cX11_text) (maxL := 4) (ret := (some .int)) (by decide) rfl (Nat.le_of_ble_eq_true rfl) ?_
  intro p e s m below meth c ls args Q hQ hsz hx hb hr hml hts hown hlocks hnm hP hK hD hl
  subst hsz
  have hD := hD.self (sz := s.heap.size)
  generalize hAe : va_A (mX mm q jn cI x0 x1 x2 x3 x4 x5 x6 x7 x8 x9 x10 x11 x12 x13 x14 x15 x16 x17 x18 x19 x20 f0 f1 f2 f3 f4 f5 f6 f7 f8 f9 f10 f11 f12 f13 f14 f15 f16 f17 f18 f19 f20 f21 f22 f23 f24) s.heap.size = A at hD hQ
  have hA : ∀ q, s.heap.size ≤ q → A q := fun q h => by rw [← hAe]; exact Or.inr h
  have hS : va_S A s.heap s.heap [] := va_S.rf
  have hl : lv_has ls 4 [(0, .ref mm)] := hl
  refine lv_aload_n hx hb dX11_text_0 rfl (lv_at hl 0 rfl) ?_
  refine va_get (D := D) (ci := 11) (v := .int x0) (C := RX11) (T := TX11) (N := 47) hx hb hts (by decide +kernel) hown hK.1 hP 0 rfl rfl 3 (by decide) (hts (.fieldLink RX11 185 "JugglingHallModel" "time" "I") (by decide +kernel)) (fun _ h9 => h9) rfl dX11_text_1 ?_
  refine lv_bipush (v := 60) hx hb dX11_text_4 (by decide) ?_
  refine a_icmp_ne (u := x0.toInt) (v := 60) (tgt := 11) hx hb dX11_text_6 (by decide) (rfl) (by decide) (fun c_1 => ?_) (fun c_1 => ?_)
  · refine lv_aload_n hx hb dX11_text_11 rfl (lv_at hl 0 rfl) ?_
    refine lv_aload_n hx hb dX11_text_12 rfl (lv_at hl 0 rfl) ?_
    refine call_g (wr := []) (va_runV (As := []) (rest := [.ref mm]) ⟨hx, hb, hml, hown, hts⟩ (k_readText l D cI cR cM _  (by first | assumption | omega) (by first | assumption | omega) (by first | assumption | omega) (by first | assumption | omega) (by first | assumption | omega) (by first | assumption | omega) (by first | assumption | omega)) (cwV 0 hts gX11_text_X11_readText rfl rfl rfl (by decide +kernel) ⟨Nat.le_of_ble_eq_true rfl, Nat.le_of_ble_eq_true rfl⟩) (pre_V hK hP hD 0 11 rfl rfl) rfl rfl hl.1 rfl (lv_room (Nat.le_of_ble_eq_true rfl)) dX11_text_13 ⟨Nat.le_of_ble_eq_true rfl, Nat.le_of_ble_eq_true rfl⟩) hP hD hS hA [0, 1, 2, 3, 4, 5, 6, 7, 8, 9, 10, 11, 12, 13, 14, 15, 16, 17, 18, 19, 20, 21, 22, 23, 24, 25] [] (by with_unfolding_all rfl) rfl (by decide) (by decide) (fun u_2 H locs hw hP hD hS => ?_)
    obtain ⟨r_2, y5_2, y6_2, y7_2, y8_2, y9_2, y10_2, y11_2, y12_2, y13_2, y14_2, g3_2, g4_2, g5_2, g6_2, g7_2, g8_2, g9_2, g10_2, g11_2⟩ := u_2
    have hP : va_P D vwCl (mX mm q jn cI x0 x1 x2 x3 x4 y5_2 y6_2 y7_2 y8_2 y9_2 y10_2 y11_2 y12_2 y13_2 y14_2 x15 x16 x17 x18 x19 x20 f0 f1 f2 g3_2 g4_2 g5_2 g6_2 g7_2 g8_2 g9_2 g10_2 g11_2 f12 f13 f14 f15 f16 f17 f18 f19 f20 f21 f22 f23 f24) H := hP
    have hD : va_D A (mX mm q jn cI x0 x1 x2 x3 x4 y5_2 y6_2 y7_2 y8_2 y9_2 y10_2 y11_2 y12_2 y13_2 y14_2 x15 x16 x17 x18 x19 x20 f0 f1 f2 g3_2 g4_2 g5_2 g6_2 g7_2 g8_2 g9_2 g10_2 g11_2 f12 f13 f14 f15 f16 f17 f18 f19 f20 f21 f22 f23 f24) := hD
    obtain ⟨hFr_2, hFZ_2, hM_2, hFm_2⟩ : (FreshX jn g8_2 g9_2) ∧ (FreshZ jn g8_2 g9_2) ∧ (MK g11_2) ∧ (FM g10_2) := hw
    refine mp_3 hx hb hts (by decide +kernel) hown hK hP hD hS (hts (.fieldLink RX11 20 "JugglingHallModel" "fault" "I") (by decide +kernel)) dX11_text_16 (fun H locs hP hD hS => ?_)
    refine lv_aload_n hx hb dX11_text_19 rfl (lv_at hl 0 rfl) ?_
    refine lv_aload_n hx hb dX11_text_20 rfl (lv_at hl 0 rfl) ?_
    refine va_get (D := D) (ci := 11) (v := .int r_2) (C := RX11) (T := TX11) (N := 47) hx hb hts (by decide +kernel) hown hK.1 hP 0 rfl rfl 7 (by decide) (hts (.fieldLink RX11 20 "JugglingHallModel" "fault" "I") (by decide +kernel)) (fun _ h9 => h9) rfl dX11_text_21 ?_
    refine a_if_ne (u := r_2.toInt) (tgt := 31) hx hb dX11_text_24 (by decide) (rfl) (fun c_3 => ?_) (fun c_3 => ?_)
    · refine lv_aload_n hx hb dX11_text_31 rfl (lv_at hl 0 rfl) ?_
      refine va_get (D := D) (ci := 11) (v := .int y9_2) (C := RX11) (T := TX11) (N := 47) hx hb hts (by decide +kernel) hown hK.1 hP 0 rfl rfl 13 (by decide) (hts (.fieldLink RX11 148 "JugglingHallModel" "errorAt" "I") (by decide +kernel)) (fun _ h9 => h9) rfl dX11_text_32 ?_
      refine mp_4 hx hb hts (by decide +kernel) hown hK hP hD hS (hts (.fieldLink RX11 24 "JugglingHallModel" "faultPlace" "I") (by decide +kernel)) dX11_text_35 (fun H locs hP hD hS => ?_)
      refine lv_aload_n hx hb dX11_text_38 rfl (lv_at hl 0 rfl) ?_
      refine lv_iconst (v := 0) hx hb dX11_text_39 (by decide) ?_
      refine mp_2 hx hb hts (by decide +kernel) hown hK hP hD hS (hts (.fieldLink RX11 110 "JugglingHallModel" "taped" "I") (by decide +kernel)) dX11_text_40 (fun H locs hP hD hS => ?_)
      refine lv_aload_n hx hb dX11_text_43 rfl (lv_at hl 0 rfl) ?_
      refine va_get (D := D) (ci := 11) (v := .int r_2) (C := RX11) (T := TX11) (N := 47) hx hb hts (by decide +kernel) hown hK.1 hP 0 rfl rfl 7 (by decide) (hts (.fieldLink RX11 20 "JugglingHallModel" "fault" "I") (by decide +kernel)) (fun _ h9 => h9) rfl dX11_text_44 ?_
      refine a_if_eq (u := r_2.toInt) (tgt := 52) hx hb dX11_text_47 (by decide) (rfl) (fun c_4 => absurd c_4 (by omega)) (fun c_4 => ?_)
      refine lv_iconst (v := (-1)) hx hb dX11_text_50 (by decide) ?_
      have hz_5 : (-1 : Int32).toInt = (-1) := by decide
      have hz_6 : (0 : Int32).toInt = 0 := by decide
      exact g_iret ((-1 : Int32), x0, x1, (0 : Int32), r_2, y9_2, y5_2, y6_2, y7_2, y8_2, y9_2, y10_2, y11_2, y12_2, y13_2, y14_2, f0, f1, g3_2, g4_2, g5_2, g6_2, g7_2, g8_2, g9_2, g10_2, g11_2) hx hb hr hlocks hS rfl (⟨show 0 ≤ x0.toInt ∧ x0.toInt ≤ 60 from (by first | assumption | omega), show 0 ≤ (0 : Int32).toInt ∧ (0 : Int32).toInt ≤ 300 from (by first | assumption | omega), show RowsX jn f0 from (by first | assumption | omega), show RowsZ jn f0 from (by first | assumption | omega), show SeenX f1 from (by first | assumption | omega), show MK g11_2 from (by first | assumption | omega), show FM g10_2 from (by first | assumption | omega), show 0 ≤ x1.toInt ∧ x1.toInt ≤ x0.toInt from (by first | assumption | omega)⟩) hP hD hQ (Nat.le_of_ble_eq_true rfl) (Nat.le_of_ble_eq_true rfl) dX11_text_51
    · refine lv_iconst (v := (-1)) hx hb dX11_text_27 (by decide) ?_
      refine lv_goto (tgt := 35) hx hb dX11_text_28 (by decide) ?_
      refine mp_4 hx hb hts (by decide +kernel) hown hK hP hD hS (hts (.fieldLink RX11 24 "JugglingHallModel" "faultPlace" "I") (by decide +kernel)) dX11_text_35 (fun H locs hP hD hS => ?_)
      refine lv_aload_n hx hb dX11_text_38 rfl (lv_at hl 0 rfl) ?_
      refine lv_iconst (v := 0) hx hb dX11_text_39 (by decide) ?_
      refine mp_2 hx hb hts (by decide +kernel) hown hK hP hD hS (hts (.fieldLink RX11 110 "JugglingHallModel" "taped" "I") (by decide +kernel)) dX11_text_40 (fun H locs hP hD hS => ?_)
      refine lv_aload_n hx hb dX11_text_43 rfl (lv_at hl 0 rfl) ?_
      refine va_get (D := D) (ci := 11) (v := .int r_2) (C := RX11) (T := TX11) (N := 47) hx hb hts (by decide +kernel) hown hK.1 hP 0 rfl rfl 7 (by decide) (hts (.fieldLink RX11 20 "JugglingHallModel" "fault" "I") (by decide +kernel)) (fun _ h9 => h9) rfl dX11_text_44 ?_
      refine a_if_eq (u := r_2.toInt) (tgt := 52) hx hb dX11_text_47 (by decide) (rfl) (fun c_7 => ?_) (fun c_7 => absurd c_7 (by omega))
      refine lv_aload_n hx hb dX11_text_52 rfl (lv_at hl 0 rfl) ?_
      refine lv_dup hx hb dX11_text_53 rfl ?_
      refine va_get (D := D) (ci := 11) (v := .int x0) (C := RX11) (T := TX11) (N := 47) hx hb hts (by decide +kernel) hown hK.1 hP 0 rfl rfl 3 (by decide) (hts (.fieldLink RX11 185 "JugglingHallModel" "time" "I") (by decide +kernel)) (fun _ h9 => h9) rfl dX11_text_54 ?_
      refine lv_iconst (v := 1) hx hb dX11_text_57 (by decide) ?_
      refine a_iadd (u := x0.toInt) (v := 1) hx hb dX11_text_58 (rfl) (by decide) (by omega) (fun z_8 e_8 => ?_)
      refine mp_0 hx hb hts (by decide +kernel) hown hK hP hD hS (hts (.fieldLink RX11 185 "JugglingHallModel" "time" "I") (by decide +kernel)) dX11_text_59 (fun H locs hP hD hS => ?_)
      refine lv_aload_n hx hb dX11_text_62 rfl (lv_at hl 0 rfl) ?_
      refine lv_aload_n hx hb dX11_text_63 rfl (lv_at hl 0 rfl) ?_
      refine va_get (D := D) (ci := 11) (v := .int z_8) (C := RX11) (T := TX11) (N := 47) hx hb hts (by decide +kernel) hown hK.1 hP 0 rfl rfl 3 (by decide) (hts (.fieldLink RX11 185 "JugglingHallModel" "time" "I") (by decide +kernel)) (fun _ h9 => h9) rfl dX11_text_64 ?_
      refine mp_1 hx hb hts (by decide +kernel) hown hK hP hD hS (hts (.fieldLink RX11 104 "JugglingHallModel" "looked" "I") (by decide +kernel)) dX11_text_67 (fun H locs hP hD hS => ?_)
      refine lv_iconst (v := 0) hx hb dX11_text_70 (by decide) ?_
      refine lv_istore_n (lv' := [(1, .int 0), (0, .ref mm)]) hx hb dX11_text_71 rfl hl (by decide) rfl (fun ls hl => ?_)
      have loop72 : ∀ (ddloop72 : Nat) (lx : Int32) (ga : (Nat → Int32)) (H : Heap) (locs : List Loc) (ls : Array Slot), (8 - lx.toInt).toNat < ddloop72 → (0 ≤ lx.toInt ∧ lx.toInt ≤ 8) → (RowsX jn ga) → (RowsZ jn ga) → va_P D vwCl (mX mm q jn cI z_8 z_8 (0 : Int32) r_2 (-1 : Int32) y5_2 y6_2 y7_2 y8_2 y9_2 y10_2 y11_2 y12_2 y13_2 y14_2 x15 x16 x17 x18 x19 x20 ga f1 f2 g3_2 g4_2 g5_2 g6_2 g7_2 g8_2 g9_2 g10_2 g11_2 f12 f13 f14 f15 f16 f17 f18 f19 f20 f21 f22 f23 f24) H → va_D A (mX mm q jn cI z_8 z_8 (0 : Int32) r_2 (-1 : Int32) y5_2 y6_2 y7_2 y8_2 y9_2 y10_2 y11_2 y12_2 y13_2 y14_2 x15 x16 x17 x18 x19 x20 ga f1 f2 g3_2 g4_2 g5_2 g6_2 g7_2 g8_2 g9_2 g10_2 g11_2 f12 f13 f14 f15 f16 f17 f18 f19 f20 f21 f22 f23 f24) → va_S A s.heap H locs → lv_has ls 4 [(0, .ref mm), (1, .int lx)] → W p l e ({ frames := 10, cells := 0, slots := 0, locals := 224 }) s m args below meth c H locs 0 0 Q (F0 m 72 ls []) := by
        intro ddloop72
        induction ddloop72 with
        | zero =>
          intro lx ga H locs ls hdd
          exact absurd hdd (Nat.not_lt_zero _)
        | succ ddloop72 ih72 =>
          intro lx ga H locs ls hdd hlx hRa hZa hP hD hS hl
          refine lv_iload_n hx hb dX11_text_72 rfl (lv_at hl 1 rfl) ?_
          refine lv_bipush (v := 8) hx hb dX11_text_73 (by decide) ?_
          refine a_icmp_ge (u := lx.toInt) (v := 8) (tgt := 148) hx hb dX11_text_75 (by decide) (rfl) (by decide) (fun c_9 => ?_) (fun c_9 => ?_)
          · refine lv_iconst (v := 0) hx hb dX11_text_148 (by decide) ?_
            refine lv_istore_n (lv' := [(1, .int 0), (0, .ref mm)]) hx hb dX11_text_149 rfl hl (by decide) rfl (fun ls hl => ?_)
            have loop150 : ∀ (ddloop150 : Nat) (k : Int32) (gc : (Nat → Int32)) (H : Heap) (locs : List Loc) (ls : Array Slot), (8 - k.toInt).toNat < ddloop150 → (0 ≤ k.toInt ∧ k.toInt ≤ 8) → (SeenX gc) → va_P D vwCl (mX mm q jn cI z_8 z_8 (0 : Int32) r_2 (-1 : Int32) y5_2 y6_2 y7_2 y8_2 y9_2 y10_2 y11_2 y12_2 y13_2 y14_2 x15 x16 x17 x18 x19 x20 ga gc f2 g3_2 g4_2 g5_2 g6_2 g7_2 g8_2 g9_2 g10_2 g11_2 f12 f13 f14 f15 f16 f17 f18 f19 f20 f21 f22 f23 f24) H → va_D A (mX mm q jn cI z_8 z_8 (0 : Int32) r_2 (-1 : Int32) y5_2 y6_2 y7_2 y8_2 y9_2 y10_2 y11_2 y12_2 y13_2 y14_2 x15 x16 x17 x18 x19 x20 ga gc f2 g3_2 g4_2 g5_2 g6_2 g7_2 g8_2 g9_2 g10_2 g11_2 f12 f13 f14 f15 f16 f17 f18 f19 f20 f21 f22 f23 f24) → va_S A s.heap H locs → lv_has ls 4 [(0, .ref mm), (1, .int k)] → W p l e ({ frames := 10, cells := 0, slots := 0, locals := 224 }) s m args below meth c H locs 0 0 Q (F0 m 150 ls []) := by
              intro ddloop150
              induction ddloop150 with
              | zero =>
                intro k gc H locs ls hdd
                exact absurd hdd (Nat.not_lt_zero _)
              | succ ddloop150 ih150 =>
                intro k gc H locs ls hdd hk hSe hP hD hS hl
                refine lv_iload_n hx hb dX11_text_150 rfl (lv_at hl 1 rfl) ?_
                refine lv_bipush (v := 8) hx hb dX11_text_151 (by decide) ?_
                refine a_icmp_ge (u := k.toInt) (v := 8) (tgt := 182) hx hb dX11_text_153 (by decide) (rfl) (by decide) (fun c_10 => ?_) (fun c_10 => ?_)
                · refine lv_aload_n hx hb dX11_text_182 rfl (lv_at hl 0 rfl) ?_
                  refine va_get (D := D) (ci := 11) (v := .int z_8) (C := RX11) (T := TX11) (N := 47) hx hb hts (by decide +kernel) hown hK.1 hP 0 rfl rfl 3 (by decide) (hts (.fieldLink RX11 185 "JugglingHallModel" "time" "I") (by decide +kernel)) (fun _ h9 => h9) rfl dX11_text_183 ?_
                  have hz_11 : (0 : Int32).toInt = 0 := by decide
                  have hz_12 : (-1 : Int32).toInt = (-1) := by decide
                  exact g_iret (z_8, z_8, z_8, (0 : Int32), r_2, (-1 : Int32), y5_2, y6_2, y7_2, y8_2, y9_2, y10_2, y11_2, y12_2, y13_2, y14_2, ga, gc, g3_2, g4_2, g5_2, g6_2, g7_2, g8_2, g9_2, g10_2, g11_2) hx hb hr hlocks hS rfl (⟨show 0 ≤ z_8.toInt ∧ z_8.toInt ≤ 60 from (by first | assumption | omega), show 0 ≤ (0 : Int32).toInt ∧ (0 : Int32).toInt ≤ 300 from (by first | assumption | omega), show RowsX jn ga from (by first | assumption | omega), show RowsZ jn ga from (by first | assumption | omega), show SeenX gc from (by first | assumption | omega), show MK g11_2 from (by first | assumption | omega), show FM g10_2 from (by first | assumption | omega), show 0 ≤ z_8.toInt ∧ z_8.toInt ≤ z_8.toInt from (by first | assumption | omega)⟩) hP hD hQ (Nat.le_of_ble_eq_true rfl) (Nat.le_of_ble_eq_true rfl) dX11_text_186
                · refine lv_aload_n hx hb dX11_text_156 rfl (lv_at hl 0 rfl) ?_
                  refine va_get (D := D) (ci := 11) (v := .ref (q 1)) (C := RX11) (T := TX11) (N := 47) hx hb hts (by decide +kernel) hown hK.1 hP 0 rfl rfl 2 (by decide) (hts (.fieldLink RX11 14 "JugglingHallModel" "seenRows" "[I") (by decide +kernel)) (fun _ h9 => h9) rfl dX11_text_157 ?_
                  refine lv_bipush (v := 8) hx hb dX11_text_160 (by decide) ?_
                  refine lv_aload_n hx hb dX11_text_162 rfl (lv_at hl 0 rfl) ?_
                  refine va_get (D := D) (ci := 11) (v := .int z_8) (C := RX11) (T := TX11) (N := 47) hx hb hts (by decide +kernel) hown hK.1 hP 0 rfl rfl 3 (by decide) (hts (.fieldLink RX11 185 "JugglingHallModel" "time" "I") (by decide +kernel)) (fun _ h9 => h9) rfl dX11_text_163 ?_
                  refine a_imul (u := 8) (v := (x0.toInt + 1)) hx hb dX11_text_166 (by decide) (e_8) (by omega) (fun z_13 e_13 => ?_)
                  refine lv_iload_n hx hb dX11_text_167 rfl (lv_at hl 1 rfl) ?_
                  refine a_iadd (u := (8 * (x0.toInt + 1))) (v := k.toInt) hx hb dX11_text_168 (e_13) (rfl) (by omega) (fun z_14 e_14 => ?_)
                  refine lv_aload_n hx hb dX11_text_169 rfl (lv_at hl 0 rfl) ?_
                  refine va_get (D := D) (ci := 11) (v := .ref (q 10)) (C := RX11) (T := TX11) (N := 47) hx hb hts (by decide +kernel) hown hK.1 hP 0 rfl rfl 24 (by decide) (hts (.fieldLink RX11 48 "JugglingHallModel" "freshMarks" "[I") (by decide +kernel)) (fun _ h9 => h9) rfl dX11_text_170 ?_
                  refine lv_iload_n hx hb dX11_text_173 rfl (lv_at hl 1 rfl) ?_
                  refine a_iald (f := g10_2) (u := k.toInt) hx hb hK.1 hP 11 0 rfl rfl dX11_text_174 (rfl) (by omega) (fun z_15 q_15 e_15 => ?_)
                  refine ma_1 (u := ((8 * (x0.toInt + 1)) + k.toInt)) hx hb hK hP hD hS dX11_text_175 (e_14) (by omega) (fun g_16 H locs eg_16 hP hD hS => ?_)
                  obtain ⟨z_17, q_17, e_17⟩ := i_inc (a := k.toInt) (1) (rfl) (by decide) (by omega) (by omega)
                  refine lv_iinc (v := z_17) (lv' := [(1, .int z_17), (0, .ref mm)]) hx hb dX11_text_176 hl (k := 1) rfl q_17 (by decide) rfl (fun ls hl => ?_)
                  refine lv_goto (tgt := 150) hx hb dX11_text_179 (by decide) ?_
                  exact ih150 z_17 g_16 _ _ _ (by omega) (by first | assumption | omega) (seen_set (t := z_8.toInt) (k := k.toInt) hSe (by omega) (fun i i0 i1 => by rw [eg_16, un_i i0 (by omega) (by omega)]) (fun e => by rw [eg_16, show 8 * z_8.toInt + k.toInt = ((8 * (x0.toInt + 1)) + k.toInt) by omega, pk_us, q_15, show k.toInt = 0 by omega]; exact hFm_2.1) (fun e => by rw [eg_16, show 8 * z_8.toInt + k.toInt = ((8 * (x0.toInt + 1)) + k.toInt) by omega, pk_us, q_15]; exact hFm_2.2 _ (by omega) (by omega))) hP hD hS (lv_sub hl [1, 0] rfl)
            have hz_18 : (0 : Int32).toInt = 0 := by decide
            exact loop150 ((8 - (0 : Int32).toInt).toNat + 1) (0 : Int32) f1 _ _ _ (by omega) (by first | assumption | omega) (hSe) hP hD hS (lv_sub hl [1, 0] rfl)
          · refine lv_aload_n hx hb dX11_text_78 rfl (lv_at hl 0 rfl) ?_
            refine va_get (D := D) (ci := 11) (v := .int z_8) (C := RX11) (T := TX11) (N := 47) hx hb hts (by decide +kernel) hown hK.1 hP 0 rfl rfl 3 (by decide) (hts (.fieldLink RX11 185 "JugglingHallModel" "time" "I") (by decide +kernel)) (fun _ h9 => h9) rfl dX11_text_79 ?_
            refine lv_iload_n hx hb dX11_text_82 rfl (lv_at hl 1 rfl) ?_
            refine roP (va_runS (As := [.int z_8, .int lx]) (rest := []) ⟨hx, hb, hml, hown, hts⟩ (k_rowAt l D cI cR cM _  (by first | assumption | omega) (by first | assumption | omega)) (va_cwS 2 hts gX11_text_X11_rowAt rfl rfl rfl (by decide +kernel) ⟨Nat.le_of_ble_eq_true rfl, Nat.le_of_ble_eq_true rfl⟩) (pre_S hK va_P_nil (va_D_nil (A := fun _ => True))) rfl rfl hl.1 rfl (lv_room (Nat.le_of_ble_eq_true rfl)) dX11_text_83 ⟨Nat.le_of_ble_eq_true rfl, Nat.le_of_ble_eq_true rfl⟩) hS hA hP (fun r_19 H locs hw hP hS => ?_)
            have h_19 : (r_19.toInt = 150 * (8 * z_8.toInt + lx.toInt)) := hw
            refine lv_istore_n (lv' := [(2, .int r_19), (0, .ref mm), (1, .int lx)]) hx hb dX11_text_86 rfl hl (by decide) rfl (fun ls hl => ?_)
            refine lv_aload_n hx hb dX11_text_87 rfl (lv_at hl 1 rfl) ?_
            refine va_get (D := D) (ci := 11) (v := .ref (q 0)) (C := RX11) (T := TX11) (N := 47) hx hb hts (by decide +kernel) hown hK.1 hP 0 rfl rfl 1 (by decide) (hts (.fieldLink RX11 8 "JugglingHallModel" "rows" "[I") (by decide +kernel)) (fun _ h9 => h9) rfl dX11_text_88 ?_
            refine lv_iload_n hx hb dX11_text_91 rfl (lv_at hl 0 rfl) ?_
            refine lv_aload_n hx hb dX11_text_92 rfl (lv_at hl 1 rfl) ?_
            refine va_get (D := D) (ci := 11) (v := .ref (q 8)) (C := RX11) (T := TX11) (N := 47) hx hb hts (by decide +kernel) hown hK.1 hP 0 rfl rfl 22 (by decide) (hts (.fieldLink RX11 42 "JugglingHallModel" "freshMany" "[I") (by decide +kernel)) (fun _ h9 => h9) rfl dX11_text_93 ?_
            refine lv_iload_n hx hb dX11_text_96 rfl (lv_at hl 2 rfl) ?_
            refine a_iald (f := g8_2) (u := lx.toInt) hx hb hK.1 hP 9 0 rfl rfl dX11_text_97 (rfl) (by omega) (fun z_20 q_20 e_20 => ?_)
            refine ma_0 (u := r_19.toInt) hx hb hK hP hD hS dX11_text_98 (rfl) (by omega) (fun g_21 H locs eg_21 hP hD hS => ?_)
            have hro0 : ∀ i : Int, 0 ≤ i → (i < (150 * (8 * z_8.toInt + lx.toInt)) ∨ (150 * (8 * z_8.toInt + lx.toInt)) + 150 ≤ i) → g_21 i.toNat = ga i.toNat := fun i i0 i1 => by rw [eg_21, un_i i0 (by omega) (by omega)]
            have hrw0 : g_21 (150 * (8 * z_8.toInt + lx.toInt)).toNat = g8_2 lx.toInt.toNat := by rw [eg_21, show (150 * (8 * z_8.toInt + lx.toInt)) = r_19.toInt by omega, pk_us, q_20]
            obtain ⟨hf1, hf2, hf3⟩ := hFr_2 lx.toInt (by omega) (by omega)
            refine lv_iconst (v := 0) hx hb dX11_text_99 (by decide) ?_
            refine lv_istore_n (lv' := [(3, .int 0), (2, .int r_19), (0, .ref mm), (1, .int lx)]) hx hb dX11_text_100 rfl hl (by decide) rfl (fun ls hl => ?_)
            have loop101 : ∀ (ddloop101 : Nat) (k : Int32) (gb : (Nat → Int32)) (H : Heap) (locs : List Loc) (ls : Array Slot), (6 * (g8_2 lx.toInt.toNat).toInt - k.toInt).toNat < ddloop101 → (0 ≤ k.toInt ∧ k.toInt ≤ 6 * (g8_2 lx.toInt.toNat).toInt) → (∀ i : Int, 0 ≤ i → (i < (150 * (8 * z_8.toInt + lx.toInt)) ∨ (150 * (8 * z_8.toInt + lx.toInt)) + 150 ≤ i) → gb i.toNat = ga i.toNat) → (gb (150 * (8 * z_8.toInt + lx.toInt)).toNat = g8_2 lx.toInt.toNat) → (∀ i : Int, 0 ≤ i → i < k.toInt → gb ((150 * (8 * z_8.toInt + lx.toInt)) + 1 + i).toNat = g9_2 (144 * lx.toInt + i).toNat) → va_P D vwCl (mX mm q jn cI z_8 z_8 (0 : Int32) r_2 (-1 : Int32) y5_2 y6_2 y7_2 y8_2 y9_2 y10_2 y11_2 y12_2 y13_2 y14_2 x15 x16 x17 x18 x19 x20 gb f1 f2 g3_2 g4_2 g5_2 g6_2 g7_2 g8_2 g9_2 g10_2 g11_2 f12 f13 f14 f15 f16 f17 f18 f19 f20 f21 f22 f23 f24) H → va_D A (mX mm q jn cI z_8 z_8 (0 : Int32) r_2 (-1 : Int32) y5_2 y6_2 y7_2 y8_2 y9_2 y10_2 y11_2 y12_2 y13_2 y14_2 x15 x16 x17 x18 x19 x20 gb f1 f2 g3_2 g4_2 g5_2 g6_2 g7_2 g8_2 g9_2 g10_2 g11_2 f12 f13 f14 f15 f16 f17 f18 f19 f20 f21 f22 f23 f24) → va_S A s.heap H locs → lv_has ls 4 [(0, .ref mm), (1, .int lx), (2, .int r_19), (3, .int k)] → W p l e ({ frames := 10, cells := 0, slots := 0, locals := 224 }) s m args below meth c H locs 0 0 Q (F0 m 101 ls []) := by
              intro ddloop101
              induction ddloop101 with
              | zero =>
                intro k gb H locs ls hdd
                exact absurd hdd (Nat.not_lt_zero _)
              | succ ddloop101 ih101 =>
                intro k gb H locs ls hdd hk hro hrw hrc hP hD hS hl
                refine lv_iload_n hx hb dX11_text_101 rfl (lv_at hl 3 rfl) ?_
                refine lv_bipush (v := 6) hx hb dX11_text_102 (by decide) ?_
                refine lv_aload_n hx hb dX11_text_104 rfl (lv_at hl 0 rfl) ?_
                refine va_get (D := D) (ci := 11) (v := .ref (q 8)) (C := RX11) (T := TX11) (N := 47) hx hb hts (by decide +kernel) hown hK.1 hP 0 rfl rfl 22 (by decide) (hts (.fieldLink RX11 42 "JugglingHallModel" "freshMany" "[I") (by decide +kernel)) (fun _ h9 => h9) rfl dX11_text_105 ?_
                refine lv_iload_n hx hb dX11_text_108 rfl (lv_at hl 1 rfl) ?_
                refine a_iald (f := g8_2) (u := lx.toInt) hx hb hK.1 hP 9 0 rfl rfl dX11_text_109 (rfl) (by omega) (fun z_22 q_22 e_22 => ?_)
                have hz9_22 : z_22.toInt = (g8_2 lx.toInt.toNat).toInt := by rw [q_22]
                refine a_imul (u := 6) (v := z_22.toInt) hx hb dX11_text_110 (by decide) (rfl) (by omega) (fun z_23 e_23 => ?_)
                refine a_icmp_ge (u := k.toInt) (v := (6 * z_22.toInt)) (tgt := 142) hx hb dX11_text_111 (by decide) (rfl) (e_23) (fun c_24 => ?_) (fun c_24 => ?_)
                · have hR9 : RowsX jn gb := rows_set (t := z_8.toInt) (k := lx.toInt) hRa (by omega) (by omega) hro hrw (fun i i0 i1 => hrc i i0 (by omega)) hFr_2
                  have hZ9 : RowsZ jn gb := rowz_set (t := z_8.toInt) (k := lx.toInt) hRa hZa (by omega) (by omega) hro hrw (fun i i0 i1 => hrc i i0 (by omega)) hFZ_2
                  obtain ⟨z_25, q_25, e_25⟩ := i_inc (a := lx.toInt) (1) (rfl) (by decide) (by omega) (by omega)
                  refine lv_iinc (v := z_25) (lv' := [(1, .int z_25), (0, .ref mm), (2, .int r_19), (3, .int k)]) hx hb dX11_text_142 hl (k := 1) rfl q_25 (by decide) rfl (fun ls hl => ?_)
                  refine lv_goto (tgt := 72) hx hb dX11_text_145 (by decide) ?_
                  exact ih72 z_25 gb _ _ _ (by omega) (by first | assumption | omega) (by first | assumption | omega) (by first | assumption | omega) hP hD hS (lv_sub hl [1, 0] rfl)
                · refine lv_aload_n hx hb dX11_text_114 rfl (lv_at hl 0 rfl) ?_
                  refine va_get (D := D) (ci := 11) (v := .ref (q 0)) (C := RX11) (T := TX11) (N := 47) hx hb hts (by decide +kernel) hown hK.1 hP 0 rfl rfl 1 (by decide) (hts (.fieldLink RX11 8 "JugglingHallModel" "rows" "[I") (by decide +kernel)) (fun _ h9 => h9) rfl dX11_text_115 ?_
                  refine lv_iload_n hx hb dX11_text_118 rfl (lv_at hl 2 rfl) ?_
                  refine lv_iconst (v := 1) hx hb dX11_text_119 (by decide) ?_
                  refine a_iadd (u := r_19.toInt) (v := 1) hx hb dX11_text_120 (rfl) (by decide) (by omega) (fun z_26 e_26 => ?_)
                  refine lv_iload_n hx hb dX11_text_121 rfl (lv_at hl 3 rfl) ?_
                  refine a_iadd (u := (r_19.toInt + 1)) (v := k.toInt) hx hb dX11_text_122 (e_26) (rfl) (by omega) (fun z_27 e_27 => ?_)
                  refine lv_aload_n hx hb dX11_text_123 rfl (lv_at hl 0 rfl) ?_
                  refine va_get (D := D) (ci := 11) (v := .ref (q 9)) (C := RX11) (T := TX11) (N := 47) hx hb hts (by decide +kernel) hown hK.1 hP 0 rfl rfl 23 (by decide) (hts (.fieldLink RX11 45 "JugglingHallModel" "fresh" "[I") (by decide +kernel)) (fun _ h9 => h9) rfl dX11_text_124 ?_
                  refine lv_sipush (v := 144) hx hb dX11_text_127 (by decide) ?_
                  refine lv_iload_n hx hb dX11_text_130 rfl (lv_at hl 1 rfl) ?_
                  refine a_imul (u := 144) (v := lx.toInt) hx hb dX11_text_131 (by decide) (rfl) (by omega) (fun z_28 e_28 => ?_)
                  refine lv_iload_n hx hb dX11_text_132 rfl (lv_at hl 3 rfl) ?_
                  refine a_iadd (u := (144 * lx.toInt)) (v := k.toInt) hx hb dX11_text_133 (e_28) (rfl) (by omega) (fun z_29 e_29 => ?_)
                  refine a_iald (f := g9_2) (u := ((144 * lx.toInt) + k.toInt)) hx hb hK.1 hP 10 0 rfl rfl dX11_text_134 (e_29) (by omega) (fun z_30 q_30 e_30 => ?_)
                  refine ma_0 (u := ((r_19.toInt + 1) + k.toInt)) hx hb hK hP hD hS dX11_text_135 (e_27) (by omega) (fun g_31 H locs eg_31 hP hD hS => ?_)
                  obtain ⟨z_32, q_32, e_32⟩ := i_inc (a := k.toInt) (1) (rfl) (by decide) (by omega) (by omega)
                  refine lv_iinc (v := z_32) (lv' := [(3, .int z_32), (0, .ref mm), (1, .int lx), (2, .int r_19)]) hx hb dX11_text_136 hl (k := 3) rfl q_32 (by decide) rfl (fun ls hl => ?_)
                  refine lv_goto (tgt := 101) hx hb dX11_text_139 (by decide) ?_
                  exact ih101 z_32 g_31 _ _ _ (by omega) (by first | assumption | omega) (fun i i0 i1 => by rw [eg_31, un_i i0 (by omega) (by omega)]; exact hro i i0 i1) (by rw [eg_31, un_i (by omega) (by omega) (by omega)]; exact hrw) (fun i i0 i1 => by
                    by_cases q : i = k.toInt
                    · rw [eg_31, q, show (150 * (8 * z_8.toInt + lx.toInt)) + 1 + k.toInt = ((r_19.toInt + 1) + k.toInt) by omega, pk_us, q_30, show ((144 * lx.toInt) + k.toInt) = 144 * lx.toInt + k.toInt by omega]
                    · rw [eg_31, un_i (by omega) (by omega) (by omega)]; exact hrc i i0 (by omega)) hP hD hS (lv_sub hl [1, 2, 3, 0] rfl)
            have hz_33 : (0 : Int32).toInt = 0 := by decide
            exact loop101 ((6 * (g8_2 lx.toInt.toNat).toInt - (0 : Int32).toInt).toNat + 1) (0 : Int32) g_21 _ _ _ (by omega) (by first | assumption | omega) (hro0) (hrw0) (fun i i0 i1 => absurd i1 (by omega)) hP hD hS (lv_sub hl [2, 3, 1, 0] rfl)
      have hz_34 : (0 : Int32).toInt = 0 := by decide
      exact loop72 ((8 - (0 : Int32).toInt).toNat + 1) (0 : Int32) f0 _ _ _ (by omega) (by first | assumption | omega) (by first | assumption | omega) (by first | assumption | omega) hP hD hS (lv_sub hl [1, 0] rfl)
  · refine lv_iconst (v := (-1)) hx hb dX11_text_9 (by decide) ?_
    have hz_35 : (-1 : Int32).toInt = (-1) := by decide
    exact g_iret ((-1 : Int32), x0, x1, x2, x3, x4, x5, x6, x7, x8, x9, x10, x11, x12, x13, x14, f0, f1, f3, f4, f5, f6, f7, f8, f9, f10, f11) hx hb hr hlocks hS rfl (⟨show 0 ≤ x0.toInt ∧ x0.toInt ≤ 60 from (by first | assumption | omega), show 0 ≤ x2.toInt ∧ x2.toInt ≤ 300 from (by first | assumption | omega), show RowsX jn f0 from (by first | assumption | omega), show RowsZ jn f0 from (by first | assumption | omega), show SeenX f1 from (by first | assumption | omega), show MK f11 from (by first | assumption | omega), show FM f10 from (by first | assumption | omega), show 0 ≤ x1.toInt ∧ x1.toInt ≤ x0.toInt from (by first | assumption | omega)⟩) hP hD hQ (Nat.le_of_ble_eq_true rfl) (Nat.le_of_ble_eq_true rfl) dX11_text_10
