theorem dX11_turns_0 : decode cX11_turns 0 = .ok (.iconst 0, 1) := by decide +kernel
theorem dX11_turns_1 : decode cX11_turns 1 = .ok (.istore 5, 2) := by decide +kernel
theorem dX11_turns_3 : decode cX11_turns 3 = .ok (.iload 5, 2) := by decide +kernel
theorem dX11_turns_5 : decode cX11_turns 5 = .ok (.bipush 6, 2) := by decide +kernel
theorem dX11_turns_7 : decode cX11_turns 7 = .ok (.iload 4, 2) := by decide +kernel
theorem dX11_turns_9 : decode cX11_turns 9 = .ok (.imul, 1) := by decide +kernel
theorem dX11_turns_10 : decode cX11_turns 10 = .ok (.if_icmp .ge 17, 3) := by decide +kernel
theorem dX11_turns_13 : decode cX11_turns 13 = .ok (.aload_n 0, 1) := by decide +kernel
theorem dX11_turns_14 : decode cX11_turns 14 = .ok (.getfield 39, 3) := by decide +kernel
theorem dX11_turns_17 : decode cX11_turns 17 = .ok (.iload 5, 2) := by decide +kernel
theorem dX11_turns_19 : decode cX11_turns 19 = .ok (.iconst 0, 1) := by decide +kernel
theorem dX11_turns_20 : decode cX11_turns 20 = .ok (.iastore, 1) := by decide +kernel
theorem dX11_turns_21 : decode cX11_turns 21 = .ok (.iinc 5 1, 3) := by decide +kernel
theorem dX11_turns_24 : decode cX11_turns 24 = .ok (.goto (-21), 3) := by decide +kernel
theorem dX11_turns_27 : decode cX11_turns 27 = .ok (.iconst 1, 1) := by decide +kernel
theorem dX11_turns_28 : decode cX11_turns 28 = .ok (.istore 5, 2) := by decide +kernel
theorem dX11_turns_30 : decode cX11_turns 30 = .ok (.iconst 0, 1) := by decide +kernel
theorem dX11_turns_31 : decode cX11_turns 31 = .ok (.istore 6, 2) := by decide +kernel
theorem dX11_turns_33 : decode cX11_turns 33 = .ok (.iload 6, 2) := by decide +kernel
theorem dX11_turns_35 : decode cX11_turns 35 = .ok (.iload 4, 2) := by decide +kernel
theorem dX11_turns_37 : decode cX11_turns 37 = .ok (.if_icmp .ge 271, 3) := by decide +kernel
theorem dX11_turns_40 : decode cX11_turns 40 = .ok (.iconst 0, 1) := by decide +kernel
theorem dX11_turns_41 : decode cX11_turns 41 = .ok (.istore 7, 2) := by decide +kernel
theorem dX11_turns_43 : decode cX11_turns 43 = .ok (.iload 7, 2) := by decide +kernel
theorem dX11_turns_45 : decode cX11_turns 45 = .ok (.bipush 6, 2) := by decide +kernel
theorem dX11_turns_47 : decode cX11_turns 47 = .ok (.if_icmp .ge 255, 3) := by decide +kernel
theorem dX11_turns_50 : decode cX11_turns 50 = .ok (.aload_n 0, 1) := by decide +kernel
theorem dX11_turns_51 : decode cX11_turns 51 = .ok (.getfield 27, 3) := by decide +kernel
theorem dX11_turns_54 : decode cX11_turns 54 = .ok (.bipush 6, 2) := by decide +kernel
theorem dX11_turns_56 : decode cX11_turns 56 = .ok (.iload_n 3, 1) := by decide +kernel
theorem dX11_turns_57 : decode cX11_turns 57 = .ok (.iload 6, 2) := by decide +kernel
theorem dX11_turns_59 : decode cX11_turns 59 = .ok (.iadd, 1) := by decide +kernel
theorem dX11_turns_60 : decode cX11_turns 60 = .ok (.imul, 1) := by decide +kernel
theorem dX11_turns_61 : decode cX11_turns 61 = .ok (.iload 7, 2) := by decide +kernel
theorem dX11_turns_63 : decode cX11_turns 63 = .ok (.iadd, 1) := by decide +kernel
theorem dX11_turns_64 : decode cX11_turns 64 = .ok (.iaload, 1) := by decide +kernel
theorem dX11_turns_65 : decode cX11_turns 65 = .ok (.istore 8, 2) := by decide +kernel
theorem dX11_turns_67 : decode cX11_turns 67 = .ok (.iload 7, 2) := by decide +kernel
theorem dX11_turns_69 : decode cX11_turns 69 = .ok (.iconst 2, 1) := by decide +kernel
theorem dX11_turns_70 : decode cX11_turns 70 = .ok (.idiv, 1) := by decide +kernel
theorem dX11_turns_71 : decode cX11_turns 71 = .ok (.istore 9, 2) := by decide +kernel
theorem dX11_turns_73 : decode cX11_turns 73 = .ok (.iload_n 1, 1) := by decide +kernel
theorem dX11_turns_74 : decode cX11_turns 74 = .ok (.bipush 9, 2) := by decide +kernel
theorem dX11_turns_76 : decode cX11_turns 76 = .ok (.if_icmp .ne 19, 3) := by decide +kernel
theorem dX11_turns_79 : decode cX11_turns 79 = .ok (.iload 7, 2) := by decide +kernel
theorem dX11_turns_81 : decode cX11_turns 81 = .ok (.iconst 2, 1) := by decide +kernel
theorem dX11_turns_82 : decode cX11_turns 82 = .ok (.irem, 1) := by decide +kernel
theorem dX11_turns_83 : decode cX11_turns 83 = .ok (.iconst 1, 1) := by decide +kernel
theorem dX11_turns_84 : decode cX11_turns 84 = .ok (.if_icmp .eq 212, 3) := by decide +kernel
theorem dX11_turns_87 : decode cX11_turns 87 = .ok (.iload 9, 2) := by decide +kernel
theorem dX11_turns_89 : decode cX11_turns 89 = .ok (.ifCond .le 6, 3) := by decide +kernel
theorem dX11_turns_92 : decode cX11_turns 92 = .ok (.goto 204, 3) := by decide +kernel
theorem dX11_turns_95 : decode cX11_turns 95 = .ok (.iload_n 1, 1) := by decide +kernel
theorem dX11_turns_96 : decode cX11_turns 96 = .ok (.bipush 9, 2) := by decide +kernel
theorem dX11_turns_98 : decode cX11_turns 98 = .ok (.if_icmp .ne 44, 3) := by decide +kernel
theorem dX11_turns_101 : decode cX11_turns 101 = .ok (.bipush 9, 2) := by decide +kernel
theorem dX11_turns_103 : decode cX11_turns 103 = .ok (.iload 8, 2) := by decide +kernel
theorem dX11_turns_105 : decode cX11_turns 105 = .ok (.iconst 4, 1) := by decide +kernel
theorem dX11_turns_106 : decode cX11_turns 106 = .ok (.idiv, 1) := by decide +kernel
theorem dX11_turns_107 : decode cX11_turns 107 = .ok (.isub, 1) := by decide +kernel
theorem dX11_turns_108 : decode cX11_turns 108 = .ok (.istore 10, 2) := by decide +kernel
theorem dX11_turns_110 : decode cX11_turns 110 = .ok (.aload_n 0, 1) := by decide +kernel
theorem dX11_turns_111 : decode cX11_turns 111 = .ok (.getfield 39, 3) := by decide +kernel
theorem dX11_turns_114 : decode cX11_turns 114 = .ok (.bipush 6, 2) := by decide +kernel
theorem dX11_turns_116 : decode cX11_turns 116 = .ok (.iload 6, 2) := by decide +kernel
theorem dX11_turns_118 : decode cX11_turns 118 = .ok (.ineg, 1) := by decide +kernel
theorem dX11_turns_119 : decode cX11_turns 119 = .ok (.iload 4, 2) := by decide +kernel
theorem dX11_turns_121 : decode cX11_turns 121 = .ok (.invokestatic 188, 3) := by decide +kernel
theorem dX11_turns_124 : decode cX11_turns 124 = .ok (.imul, 1) := by decide +kernel
theorem dX11_turns_125 : decode cX11_turns 125 = .ok (.iload 10, 2) := by decide +kernel
theorem dX11_turns_127 : decode cX11_turns 127 = .ok (.ifCond .ne 7, 3) := by decide +kernel
theorem dX11_turns_130 : decode cX11_turns 130 = .ok (.iconst 0, 1) := by decide +kernel
theorem dX11_turns_131 : decode cX11_turns 131 = .ok (.goto 7, 3) := by decide +kernel
theorem dX11_turns_134 : decode cX11_turns 134 = .ok (.iconst 4, 1) := by decide +kernel
theorem dX11_turns_135 : decode cX11_turns 135 = .ok (.iload 10, 2) := by decide +kernel
theorem dX11_turns_137 : decode cX11_turns 137 = .ok (.imul, 1) := by decide +kernel
theorem dX11_turns_138 : decode cX11_turns 138 = .ok (.iastore, 1) := by decide +kernel
theorem dX11_turns_139 : decode cX11_turns 139 = .ok (.goto 157, 3) := by decide +kernel
theorem dX11_turns_142 : decode cX11_turns 142 = .ok (.iload 8, 2) := by decide +kernel
theorem dX11_turns_144 : decode cX11_turns 144 = .ok (.ifCond .le 152, 3) := by decide +kernel
theorem dX11_turns_147 : decode cX11_turns 147 = .ok (.iload_n 1, 1) := by decide +kernel
theorem dX11_turns_148 : decode cX11_turns 148 = .ok (.bipush 7, 2) := by decide +kernel
theorem dX11_turns_150 : decode cX11_turns 150 = .ok (.if_icmp .ne 19, 3) := by decide +kernel
theorem dX11_turns_153 : decode cX11_turns 153 = .ok (.iload 6, 2) := by decide +kernel
theorem dX11_turns_155 : decode cX11_turns 155 = .ok (.iload 8, 2) := by decide +kernel
theorem dX11_turns_157 : decode cX11_turns 157 = .ok (.iconst 4, 1) := by decide +kernel
theorem dX11_turns_158 : decode cX11_turns 158 = .ok (.idiv, 1) := by decide +kernel
theorem dX11_turns_159 : decode cX11_turns 159 = .ok (.iadd, 1) := by decide +kernel
theorem dX11_turns_160 : decode cX11_turns 160 = .ok (.ineg, 1) := by decide +kernel
theorem dX11_turns_161 : decode cX11_turns 161 = .ok (.iload 4, 2) := by decide +kernel
theorem dX11_turns_163 : decode cX11_turns 163 = .ok (.invokestatic 188, 3) := by decide +kernel
theorem dX11_turns_166 : decode cX11_turns 166 = .ok (.goto 23, 3) := by decide +kernel
theorem dX11_turns_169 : decode cX11_turns 169 = .ok (.iload_n 1, 1) := by decide +kernel
theorem dX11_turns_170 : decode cX11_turns 170 = .ok (.bipush 10, 2) := by decide +kernel
theorem dX11_turns_172 : decode cX11_turns 172 = .ok (.if_icmp .ne 15, 3) := by decide +kernel
theorem dX11_turns_175 : decode cX11_turns 175 = .ok (.iload 6, 2) := by decide +kernel
theorem dX11_turns_177 : decode cX11_turns 177 = .ok (.iload_n 2, 1) := by decide +kernel
theorem dX11_turns_178 : decode cX11_turns 178 = .ok (.isub, 1) := by decide +kernel
theorem dX11_turns_179 : decode cX11_turns 179 = .ok (.iload 4, 2) := by decide +kernel
theorem dX11_turns_181 : decode cX11_turns 181 = .ok (.invokestatic 188, 3) := by decide +kernel
theorem dX11_turns_184 : decode cX11_turns 184 = .ok (.goto 5, 3) := by decide +kernel
theorem dX11_turns_187 : decode cX11_turns 187 = .ok (.iload 6, 2) := by decide +kernel
theorem dX11_turns_189 : decode cX11_turns 189 = .ok (.istore 10, 2) := by decide +kernel
theorem dX11_turns_191 : decode cX11_turns 191 = .ok (.iload_n 1, 1) := by decide +kernel
theorem dX11_turns_192 : decode cX11_turns 192 = .ok (.bipush 7, 2) := by decide +kernel
theorem dX11_turns_194 : decode cX11_turns 194 = .ok (.if_icmp .ne 10, 3) := by decide +kernel
theorem dX11_turns_197 : decode cX11_turns 197 = .ok (.iload 8, 2) := by decide +kernel
theorem dX11_turns_199 : decode cX11_turns 199 = .ok (.iconst 4, 1) := by decide +kernel
theorem dX11_turns_200 : decode cX11_turns 200 = .ok (.irem, 1) := by decide +kernel
theorem dX11_turns_201 : decode cX11_turns 201 = .ok (.goto 23, 3) := by decide +kernel
theorem dX11_turns_204 : decode cX11_turns 204 = .ok (.iload_n 1, 1) := by decide +kernel
theorem dX11_turns_205 : decode cX11_turns 205 = .ok (.bipush 8, 2) := by decide +kernel
theorem dX11_turns_207 : decode cX11_turns 207 = .ok (.if_icmp .ne 15, 3) := by decide +kernel
theorem dX11_turns_210 : decode cX11_turns 210 = .ok (.iload 9, 2) := by decide +kernel
theorem dX11_turns_212 : decode cX11_turns 212 = .ok (.iconst 1, 1) := by decide +kernel
theorem dX11_turns_213 : decode cX11_turns 213 = .ok (.iadd, 1) := by decide +kernel
theorem dX11_turns_214 : decode cX11_turns 214 = .ok (.aload_n 0, 1) := by decide +kernel
theorem dX11_turns_215 : decode cX11_turns 215 = .ok (.getfield 93, 3) := by decide +kernel
theorem dX11_turns_218 : decode cX11_turns 218 = .ok (.irem, 1) := by decide +kernel
theorem dX11_turns_219 : decode cX11_turns 219 = .ok (.goto 5, 3) := by decide +kernel
theorem dX11_turns_222 : decode cX11_turns 222 = .ok (.iload 9, 2) := by decide +kernel
theorem dX11_turns_224 : decode cX11_turns 224 = .ok (.istore 11, 2) := by decide +kernel
theorem dX11_turns_226 : decode cX11_turns 226 = .ok (.iload_n 1, 1) := by decide +kernel
theorem dX11_turns_227 : decode cX11_turns 227 = .ok (.bipush 7, 2) := by decide +kernel
theorem dX11_turns_229 : decode cX11_turns 229 = .ok (.if_icmp .ne 8, 3) := by decide +kernel
theorem dX11_turns_232 : decode cX11_turns 232 = .ok (.iload 9, 2) := by decide +kernel
theorem dX11_turns_234 : decode cX11_turns 234 = .ok (.goto 27, 3) := by decide +kernel
theorem dX11_turns_237 : decode cX11_turns 237 = .ok (.iload_n 1, 1) := by decide +kernel
theorem dX11_turns_238 : decode cX11_turns 238 = .ok (.bipush 8, 2) := by decide +kernel
theorem dX11_turns_240 : decode cX11_turns 240 = .ok (.if_icmp .ne 17, 3) := by decide +kernel
theorem dX11_turns_243 : decode cX11_turns 243 = .ok (.iload 8, 2) := by decide +kernel
theorem dX11_turns_245 : decode cX11_turns 245 = .ok (.iconst 4, 1) := by decide +kernel
theorem dX11_turns_246 : decode cX11_turns 246 = .ok (.irem, 1) := by decide +kernel
theorem dX11_turns_247 : decode cX11_turns 247 = .ok (.iconst 1, 1) := by decide +kernel
theorem dX11_turns_248 : decode cX11_turns 248 = .ok (.iadd, 1) := by decide +kernel
theorem dX11_turns_249 : decode cX11_turns 249 = .ok (.aload_n 0, 1) := by decide +kernel
theorem dX11_turns_250 : decode cX11_turns 250 = .ok (.getfield 93, 3) := by decide +kernel
theorem dX11_turns_253 : decode cX11_turns 253 = .ok (.irem, 1) := by decide +kernel
theorem dX11_turns_254 : decode cX11_turns 254 = .ok (.goto 7, 3) := by decide +kernel
theorem dX11_turns_257 : decode cX11_turns 257 = .ok (.iload 8, 2) := by decide +kernel
theorem dX11_turns_259 : decode cX11_turns 259 = .ok (.iconst 4, 1) := by decide +kernel
theorem dX11_turns_260 : decode cX11_turns 260 = .ok (.irem, 1) := by decide +kernel
theorem dX11_turns_261 : decode cX11_turns 261 = .ok (.istore 12, 2) := by decide +kernel
theorem dX11_turns_263 : decode cX11_turns 263 = .ok (.aload_n 0, 1) := by decide +kernel
theorem dX11_turns_264 : decode cX11_turns 264 = .ok (.iload 10, 2) := by decide +kernel
theorem dX11_turns_266 : decode cX11_turns 266 = .ok (.iload 11, 2) := by decide +kernel
theorem dX11_turns_268 : decode cX11_turns 268 = .ok (.iload 8, 2) := by decide +kernel
theorem dX11_turns_270 : decode cX11_turns 270 = .ok (.iload 8, 2) := by decide +kernel
theorem dX11_turns_272 : decode cX11_turns 272 = .ok (.iconst 4, 1) := by decide +kernel
theorem dX11_turns_273 : decode cX11_turns 273 = .ok (.irem, 1) := by decide +kernel
theorem dX11_turns_274 : decode cX11_turns 274 = .ok (.isub, 1) := by decide +kernel
theorem dX11_turns_275 : decode cX11_turns 275 = .ok (.iload 12, 2) := by decide +kernel
theorem dX11_turns_277 : decode cX11_turns 277 = .ok (.iadd, 1) := by decide +kernel
theorem dX11_turns_278 : decode cX11_turns 278 = .ok (.invokevirtual 191, 3) := by decide +kernel
theorem dX11_turns_281 : decode cX11_turns 281 = .ok (.ifCond .eq 12, 3) := by decide +kernel
theorem dX11_turns_284 : decode cX11_turns 284 = .ok (.iload 5, 2) := by decide +kernel
theorem dX11_turns_286 : decode cX11_turns 286 = .ok (.ifCond .eq 7, 3) := by decide +kernel
theorem dX11_turns_289 : decode cX11_turns 289 = .ok (.iconst 1, 1) := by decide +kernel
theorem dX11_turns_290 : decode cX11_turns 290 = .ok (.goto 4, 3) := by decide +kernel
theorem dX11_turns_293 : decode cX11_turns 293 = .ok (.iconst 0, 1) := by decide +kernel
theorem dX11_turns_294 : decode cX11_turns 294 = .ok (.istore 5, 2) := by decide +kernel
theorem dX11_turns_296 : decode cX11_turns 296 = .ok (.iinc 7 1, 3) := by decide +kernel
theorem dX11_turns_299 : decode cX11_turns 299 = .ok (.goto (-256), 3) := by decide +kernel
theorem dX11_turns_302 : decode cX11_turns 302 = .ok (.iinc 6 1, 3) := by decide +kernel
theorem dX11_turns_305 : decode cX11_turns 305 = .ok (.goto (-272), 3) := by decide +kernel
theorem dX11_turns_308 : decode cX11_turns 308 = .ok (.iconst 0, 1) := by decide +kernel
theorem dX11_turns_309 : decode cX11_turns 309 = .ok (.istore 6, 2) := by decide +kernel
theorem dX11_turns_311 : decode cX11_turns 311 = .ok (.iload 6, 2) := by decide +kernel
theorem dX11_turns_313 : decode cX11_turns 313 = .ok (.bipush 6, 2) := by decide +kernel
theorem dX11_turns_315 : decode cX11_turns 315 = .ok (.iload 4, 2) := by decide +kernel
theorem dX11_turns_317 : decode cX11_turns 317 = .ok (.imul, 1) := by decide +kernel
theorem dX11_turns_318 : decode cX11_turns 318 = .ok (.if_icmp .ge 28, 3) := by decide +kernel
theorem dX11_turns_321 : decode cX11_turns 321 = .ok (.aload_n 0, 1) := by decide +kernel
theorem dX11_turns_322 : decode cX11_turns 322 = .ok (.getfield 27, 3) := by decide +kernel
theorem dX11_turns_325 : decode cX11_turns 325 = .ok (.bipush 6, 2) := by decide +kernel
theorem dX11_turns_327 : decode cX11_turns 327 = .ok (.iload_n 3, 1) := by decide +kernel
theorem dX11_turns_328 : decode cX11_turns 328 = .ok (.imul, 1) := by decide +kernel
theorem dX11_turns_329 : decode cX11_turns 329 = .ok (.iload 6, 2) := by decide +kernel
theorem dX11_turns_331 : decode cX11_turns 331 = .ok (.iadd, 1) := by decide +kernel
theorem dX11_turns_332 : decode cX11_turns 332 = .ok (.aload_n 0, 1) := by decide +kernel
theorem dX11_turns_333 : decode cX11_turns 333 = .ok (.getfield 39, 3) := by decide +kernel
theorem dX11_turns_336 : decode cX11_turns 336 = .ok (.iload 6, 2) := by decide +kernel
theorem dX11_turns_338 : decode cX11_turns 338 = .ok (.iaload, 1) := by decide +kernel
theorem dX11_turns_339 : decode cX11_turns 339 = .ok (.iastore, 1) := by decide +kernel
theorem dX11_turns_340 : decode cX11_turns 340 = .ok (.iinc 6 1, 3) := by decide +kernel
theorem dX11_turns_343 : decode cX11_turns 343 = .ok (.goto (-32), 3) := by decide +kernel
theorem dX11_turns_346 : decode cX11_turns 346 = .ok (.iload 5, 2) := by decide +kernel
theorem dX11_turns_348 : decode cX11_turns 348 = .ok (.ireturn, 1) := by decide +kernel
set_option maxRecDepth 20000 in
theorem ggX11_turns_X11_mod : GoodIn wsX11_turns wsX11_mod := goodIn_r _ [7] (by decide +kernel) (by decide +kernel)
set_option maxRecDepth 20000 in
theorem gX11_turns_X11_mod : GoodIn wsX11_turns (va_wsS RX11 188 yX11_mod wsX11_mod) := goodIn_app (goodIn_of _ (by decide +kernel)) ggX11_turns_X11_mod
set_option maxRecDepth 20000 in
theorem ggX11_turns_X11_comes : GoodIn wsX11_turns wsX11_comes := goodIn_r _ [11, 1, 12, 13, 6, 14, 15, 16, 17, 18, 19, 20, 21, 22, 23, 24, 25, 26, 27, 28, 29, 30, 31, 32, 33, 34, 35, 36, 37, 38, 39, 40, 41, 42, 43, 44, 45, 46, 47, 48, 49, 50, 51, 52, 53, 54, 55, 56, 57, 58, 59, 60, 61] (by decide +kernel) (by decide +kernel)
set_option maxRecDepth 20000 in
theorem gX11_turns_X11_comes : GoodIn wsX11_turns (wsV RX11 191 RX11 yX11_comes wsX11_comes) := goodIn_app (goodIn_of _ (by decide +kernel)) ggX11_turns_X11_comes
set_option maxRecDepth 100000 in
set_option maxHeartbeats 4000000 in
theorem k_comes2 (l : Launch) (D : va_G) (cI cR cM : ClassId) (sz : Nat) {jn mm : Nat} {q : Nat → Nat} {x0 x1 x2 x3 x4 x5 x6 x7 x8 x9 x10 x11 x12 x13 x14 x15 x16 x17 x18 x19 x20 : Int32} {f0 f1 f2 f3 f4 f5 f6 f7 f8 f9 f10 f11 f12 f13 f14 f15 f16 f17 f18 f19 f20 f21 f22 f23 f24 : Nat → Int32} {a b d : Int32} {hi : Int} (hj : 1 ≤ jn ∧ jn ≤ 3) (ha0 : 0 ≤ a.toInt ∧ 6 * a.toInt + 6 ≤ hi) (hb0 : 0 ≤ b.toInt ∧ b.toInt < (jn : Int)) (hv : CellX jn d) (hC : CellsX jn f7 0 hi) (hh2 : hi ≤ 144) : Met l yX11_comes wsX11_comes ({ frames := 1, cells := 0, slots := 0, locals := 23 }) (P0 D cI cR cM [.ref mm, .int a, .int b, .int d] sz (mX mm q jn cI x0 x1 x2 x3 x4 x5 x6 x7 x8 x9 x10 x11 x12 x13 x14 x15 x16 x17 x18 x19 x20 f0 f1 f2 f3 f4 f5 f6 f7 f8 f9 f10 f11 f12 f13 f14 f15 f16 f17 f18 f19 f20 f21 f22 f23 f24)) (QG (S := Int32 × (Nat → Int32)) (fun u => some (.int u.1)) (fun u => mX mm q jn cI x0 x1 x2 x3 x4 x5 x6 x7 x8 x9 x10 x11 x12 x13 x14 x15 x16 x17 x18 x19 x20 f0 f1 f2 f3 f4 f5 f6 (u.2) f8 f9 f10 f11 f12 f13 f14 f15 f16 f17 f18 f19 f20 f21 f22 f23 f24) (fun u => (u.1.toInt = 0 ∨ u.1.toInt = 1) ∧ (CellsX jn u.2 0 hi) ∧ (∀ i : Int, 0 ≤ i → i ≠ (6 * a.toInt + 2 * b.toInt) → i ≠ (6 * a.toInt + 2 * b.toInt) + 1 → u.2 i.toNat = f7 i.toNat)) D (va_A (mX mm q jn cI x0 x1 x2 x3 x4 x5 x6 x7 x8 x9 x10 x11 x12 x13 x14 x15 x16 x17 x18 x19 x20 f0 f1 f2 f3 f4 f5 f6 f7 f8 f9 f10 f11 f12 f13 f14 f15 f16 f17 f18 f19 f20 f21 f22 f23 f24) sz)) 0 0 (va_A (mX mm q jn cI x0 x1 x2 x3 x4 x5 x6 x7 x8 x9 x10 x11 x12 x13 x14 x15 x16 x17 x18 x19 x20 f0 f1 f2 f3 f4 f5 f6 f7 f8 f9 f10 f11 f12 f13 f14 f15 f16 f17 f18 f19 f20 f21 f22 f23 f24) sz) := by
  refine go (cc := cX11_comes) (maxL := 5) (ret := (some .boolean)) (by decide) rfl (Nat.le_of_ble_eq_true rfl) ?_
  intro p e s m below meth c ls args Q hQ hsz hx hb hr hml hts hown hlocks hnm hP hK hD hl
  subst hsz
  have hD := hD.self (sz := s.heap.size)
  generalize hAe : va_A (mX mm q jn cI x0 x1 x2 x3 x4 x5 x6 x7 x8 x9 x10 x11 x12 x13 x14 x15 x16 x17 x18 x19 x20 f0 f1 f2 f3 f4 f5 f6 f7 f8 f9 f10 f11 f12 f13 f14 f15 f16 f17 f18 f19 f20 f21 f22 f23 f24) s.heap.size = A at hD hQ
  have hA : ∀ q, s.heap.size ≤ q → A q := fun q h => by rw [← hAe]; exact Or.inr h
  have hS : va_S A s.heap s.heap [] := va_S.rf
  have hl : lv_has ls 5 [(0, .ref mm), (1, .int a), (2, .int b), (3, .int d)] := hl
  refine lv_bipush (v := 6) hx hb dX11_comes_0 (by decide) ?_
  refine lv_iload_n hx hb dX11_comes_2 rfl (lv_at hl 1 rfl) ?_
  refine a_imul (u := 6) (v := a.toInt) hx hb dX11_comes_3 (by decide) (rfl) (by omega) (fun z_1 e_1 => ?_)
  refine lv_iconst (v := 2) hx hb dX11_comes_4 (by decide) ?_
  refine lv_iload_n hx hb dX11_comes_5 rfl (lv_at hl 2 rfl) ?_
  refine a_imul (u := 2) (v := b.toInt) hx hb dX11_comes_6 (by decide) (rfl) (by omega) (fun z_2 e_2 => ?_)
  refine a_iadd (u := (6 * a.toInt)) (v := (2 * b.toInt)) hx hb dX11_comes_7 (e_1) (e_2) (by omega) (fun z_3 e_3 => ?_)
  refine lv_istore (lv' := [(4, .int z_3), (0, .ref mm), (1, .int a), (2, .int b), (3, .int d)]) hx hb dX11_comes_8 hl (by decide) rfl (fun ls hl => ?_)
  refine lv_aload_n hx hb dX11_comes_10 rfl (lv_at hl 1 rfl) ?_
  refine va_get (D := D) (ci := 11) (v := .ref (q 7)) (C := RX11) (T := TX11) (N := 47) hx hb hts (by decide +kernel) hown hK.1 hP 0 rfl rfl 18 (by decide) (hts (.fieldLink RX11 39 "JugglingHallModel" "spare" "[I") (by decide +kernel)) (fun _ h9 => h9) rfl dX11_comes_11 ?_
  refine lv_iload hx hb dX11_comes_14 (lv_at hl 0 rfl) ?_
  refine a_iald (f := f7) (u := ((6 * a.toInt) + (2 * b.toInt))) hx hb hK.1 hP 8 0 rfl rfl dX11_comes_16 (e_3) (by omega) (fun z_4 q_4 e_4 => ?_)
  refine a_if_ne (u := z_4.toInt) (tgt := 31) hx hb dX11_comes_17 (by decide) (rfl) (fun c_5 => ?_) (fun c_5 => ?_)
  · refine lv_aload_n hx hb dX11_comes_31 rfl (lv_at hl 1 rfl) ?_
    refine va_get (D := D) (ci := 11) (v := .ref (q 7)) (C := RX11) (T := TX11) (N := 47) hx hb hts (by decide +kernel) hown hK.1 hP 0 rfl rfl 18 (by decide) (hts (.fieldLink RX11 39 "JugglingHallModel" "spare" "[I") (by decide +kernel)) (fun _ h9 => h9) rfl dX11_comes_32 ?_
    refine lv_iload hx hb dX11_comes_35 (lv_at hl 0 rfl) ?_
    refine lv_iconst (v := 1) hx hb dX11_comes_37 (by decide) ?_
    refine a_iadd (u := ((6 * a.toInt) + (2 * b.toInt))) (v := 1) hx hb dX11_comes_38 (e_3) (by decide) (by omega) (fun z_6 e_6 => ?_)
    refine a_iald (f := f7) (u := (((6 * a.toInt) + (2 * b.toInt)) + 1)) hx hb hK.1 hP 8 0 rfl rfl dX11_comes_39 (e_6) (by omega) (fun z_7 q_7 e_7 => ?_)
    refine a_if_ne (u := z_7.toInt) (tgt := 56) hx hb dX11_comes_40 (by decide) (rfl) (fun c_8 => ?_) (fun c_8 => ?_)
    · refine lv_iconst (v := 0) hx hb dX11_comes_56 (by decide) ?_
      have hz_9 : (0 : Int32).toInt = 0 := by decide
      exact g_zret ((0 : Int32), f7) hx hb hr hlocks hS (by first | exact Or.inl rfl | exact Or.inr rfl) rfl (⟨show (0 : Int32).toInt = 0 ∨ (0 : Int32).toInt = 1 from (by first | assumption | omega), show CellsX jn f7 0 hi from (hC), show ∀ i : Int, 0 ≤ i → i ≠ (6 * a.toInt + 2 * b.toInt) → i ≠ (6 * a.toInt + 2 * b.toInt) + 1 → f7 i.toNat = f7 i.toNat from (fun _ _ _ _ => rfl)⟩) hP hD hQ (Nat.le_of_ble_eq_true rfl) (Nat.le_of_ble_eq_true rfl) dX11_comes_57
    · refine lv_aload_n hx hb dX11_comes_43 rfl (lv_at hl 1 rfl) ?_
      refine va_get (D := D) (ci := 11) (v := .ref (q 7)) (C := RX11) (T := TX11) (N := 47) hx hb hts (by decide +kernel) hown hK.1 hP 0 rfl rfl 18 (by decide) (hts (.fieldLink RX11 39 "JugglingHallModel" "spare" "[I") (by decide +kernel)) (fun _ h9 => h9) rfl dX11_comes_44 ?_
      refine lv_iload hx hb dX11_comes_47 (lv_at hl 0 rfl) ?_
      refine lv_iconst (v := 1) hx hb dX11_comes_49 (by decide) ?_
      refine a_iadd (u := ((6 * a.toInt) + (2 * b.toInt))) (v := 1) hx hb dX11_comes_50 (e_3) (by decide) (by omega) (fun z_10 e_10 => ?_)
      refine lv_iload_n hx hb dX11_comes_51 rfl (lv_at hl 4 rfl) ?_
      refine ma_7 (u := (((6 * a.toInt) + (2 * b.toInt)) + 1)) hx hb hK hP hD hS dX11_comes_52 (e_10) (by omega) (fun g_11 H locs eg_11 hP hD hS => ?_)
      have hX : (6 * a.toInt + 2 * b.toInt) + 1 = (((6 * a.toInt) + (2 * b.toInt)) + 1) := by omega
      have hB0 : g_11 (6 * a.toInt + 2 * b.toInt).toNat = f7 (6 * a.toInt + 2 * b.toInt).toNat := by rw [eg_11, un_i (by omega) (by omega) (by omega)]
      have hB1 : g_11 ((6 * a.toInt + 2 * b.toInt) + 1).toNat = d := by rw [eg_11, ← hX, pk_us]
      have hBu : ∀ i : Int, 0 ≤ i → i ≠ (6 * a.toInt + 2 * b.toInt) → i ≠ (6 * a.toInt + 2 * b.toInt) + 1 → g_11 i.toNat = f7 i.toNat := fun i i0 i1 i2 => by rw [eg_11, un_i i0 (by omega) (by omega)]
      have hc0 : CellX jn (g_11 (6 * a.toInt + 2 * b.toInt).toNat) := by rw [hB0]; exact hC.1 _ (by omega) (by omega)
      have hc1 : CellX jn (g_11 ((6 * a.toInt + 2 * b.toInt) + 1).toNat) := by rw [hB1]; exact hv
      refine lv_goto (tgt := 58) hx hb dX11_comes_53 (by decide) ?_
      refine lv_aload_n hx hb dX11_comes_58 rfl (lv_at hl 1 rfl) ?_
      refine va_get (D := D) (ci := 11) (v := .ref (q 7)) (C := RX11) (T := TX11) (N := 47) hx hb hts (by decide +kernel) hown hK.1 hP 0 rfl rfl 18 (by decide) (hts (.fieldLink RX11 39 "JugglingHallModel" "spare" "[I") (by decide +kernel)) (fun _ h9 => h9) rfl dX11_comes_59 ?_
      refine lv_iload hx hb dX11_comes_62 (lv_at hl 0 rfl) ?_
      have hxe0 : z_3.toInt = (6 * a.toInt + 2 * b.toInt) := by omega
      have hPc := hP.sub (ws' := [(q 7, .inl (cI, 144, .inl g_11))]) [8] (by with_unfolding_all rfl)
      have hDc := hD.sub (ws' := [(q 7, .inl (cI, 144, .inl g_11))]) [8] (by decide) (by with_unfolding_all rfl)
      refine call_g (wr := [(mm, .inr (11, mXF q jn x0 x1 x2 x3 x4 x5 x6 x7 x8 x9 x10 x11 x12 x13 x14 x15 x16 x17 x18 x19 x20)), (q 0, .inl (cI, 73200, .inl f0)), (q 1, .inl (cI, 488, .inl f1)), (q 2, .inl (cI, 300, .inl f2)), (q 3, .inl (cI, 2400, .inl f3)), (q 4, .inl (cI, 6, .inl f4)), (q 5, .inl (cI, 6, .inl f5)), (q 6, .inl (cI, 7, .inl f6)), (q 8, .inl (cI, 8, .inl f8)), (q 9, .inl (cI, 1152, .inl f9)), (q 10, .inl (cI, 8, .inl f10)), (q 11, .inl (cI, 8, .inl f11)), (q 12, .inl (cI, 72, .inl f12)), (q 13, .inl (cI, 144, .inl f13)), (q 14, .inl (cI, 144, .inl f14)), (q 15, .inl (cI, 144, .inl f15)), (q 16, .inl (cI, 6, .inl f16)), (q 17, .inl (cI, 512, .inl f17)), (q 18, .inl (cI, 512, .inl f18)), (q 19, .inl (cI, 11, .inl f19)), (q 20, .inl (cI, 11, .inl f20)), (q 21, .inl (cI, 300, .inl f21)), (q 22, .inl (cI, 300, .inl f22)), (q 23, .inl (cI, 8, .inl f23)), (q 24, .inl (cI, 8, .inl f24))]) (va_runS (As := [.ref (q 7), .int z_3]) (rest := []) ⟨hx, hb, hml, hown, hts⟩ (k_order l D cI cR cM _  (by first | assumption | omega) (by rw [hxe0]; exact ⟨hc0.1, hc0.2.2.2⟩) (by rw [hxe0]; exact ⟨hc1.1, hc1.2.2.2⟩) (by decide)) (va_cwS 2 hts gX11_comes_X11_order rfl rfl rfl (by decide +kernel) ⟨Nat.le_of_ble_eq_true rfl, Nat.le_of_ble_eq_true rfl⟩) (pre_S hK hPc hDc) rfl rfl hl.1 rfl (lv_room (Nat.le_of_ble_eq_true rfl)) dX11_comes_64 ⟨Nat.le_of_ble_eq_true rfl, Nat.le_of_ble_eq_true rfl⟩) hP hD hS hA [8] [0, 1, 2, 3, 4, 5, 6, 7, 9, 10, 11, 12, 13, 14, 15, 16, 17, 18, 19, 20, 21, 22, 23, 24, 25] (by with_unfolding_all rfl) (by with_unfolding_all rfl) (by decide) (by decide) (fun g_12 H locs hw hP hD hS => ?_)
      have hP : va_P D vwCl (mX mm q jn cI x0 x1 x2 x3 x4 x5 x6 x7 x8 x9 x10 x11 x12 x13 x14 x15 x16 x17 x18 x19 x20 f0 f1 f2 f3 f4 f5 f6 g_12 f8 f9 f10 f11 f12 f13 f14 f15 f16 f17 f18 f19 f20 f21 f22 f23 f24) H := hP.sub [0, 1, 2, 3, 4, 5, 6, 7, 25, 8, 9, 10, 11, 12, 13, 14, 15, 16, 17, 18, 19, 20, 21, 22, 23, 24] (by with_unfolding_all rfl)
      have hD : va_D A (mX mm q jn cI x0 x1 x2 x3 x4 x5 x6 x7 x8 x9 x10 x11 x12 x13 x14 x15 x16 x17 x18 x19 x20 f0 f1 f2 f3 f4 f5 f6 g_12 f8 f9 f10 f11 f12 f13 f14 f15 f16 f17 f18 f19 f20 f21 f22 f23 f24) := hD.sub [0, 1, 2, 3, 4, 5, 6, 7, 25, 8, 9, 10, 11, 12, 13, 14, 15, 16, 17, 18, 19, 20, 21, 22, 23, 24] (by decide) (by with_unfolding_all rfl)
      obtain ⟨hu_12, hs_12, hz_12⟩ : (∀ i : Int, 0 ≤ i → i ≠ z_3.toInt → i ≠ z_3.toInt + 1 → g_12 i.toNat = g_11 i.toNat) ∧ ((g_12 z_3.toInt.toNat = g_11 z_3.toInt.toNat ∧ g_12 (z_3.toInt + 1).toNat = g_11 (z_3.toInt + 1).toNat) ∨ (g_12 z_3.toInt.toNat = g_11 (z_3.toInt + 1).toNat ∧ g_12 (z_3.toInt + 1).toNat = g_11 z_3.toInt.toNat)) ∧ ((g_12 z_3.toInt.toNat).toInt = 0 → (g_12 (z_3.toInt + 1).toNat).toInt = 0) := hw
      rw [hxe0] at hu_12 hs_12 hz_12
      have hp1 : CellX jn (g_12 (6 * a.toInt + 2 * b.toInt).toNat) := by
        rcases hs_12 with q | q
        · rw [q.1]; exact hc0
        · rw [q.1]; exact hc1
      have hp2 : CellX jn (g_12 ((6 * a.toInt + 2 * b.toInt) + 1).toNat) := by
        rcases hs_12 with q | q
        · rw [q.2]; exact hc1
        · rw [q.2]; exact hc0
      have hCC : CellsX jn g_12 0 hi := cx_set2 (k := 3 * a.toInt + b.toInt) hC (by omega) (by omega) (fun i i0 i1 i2 => by rw [hu_12 i i0 i1 i2]; exact hBu i i0 i1 i2) hp1 hp2 hz_12
      refine lv_iconst (v := 1) hx hb dX11_comes_67 (by decide) ?_
      have hz_13 : (1 : Int32).toInt = 1 := by decide
      exact g_zret ((1 : Int32), g_12) hx hb hr hlocks hS (by first | exact Or.inl rfl | exact Or.inr rfl) rfl (⟨show (1 : Int32).toInt = 0 ∨ (1 : Int32).toInt = 1 from (by first | assumption | omega), show CellsX jn g_12 0 hi from (hCC), show ∀ i : Int, 0 ≤ i → i ≠ (6 * a.toInt + 2 * b.toInt) → i ≠ (6 * a.toInt + 2 * b.toInt) + 1 → g_12 i.toNat = f7 i.toNat from (fun i i0 i1 i2 => by rw [hu_12 i i0 i1 i2]; exact hBu i i0 i1 i2)⟩) hP hD hQ (Nat.le_of_ble_eq_true rfl) (Nat.le_of_ble_eq_true rfl) dX11_comes_68
  · refine lv_aload_n hx hb dX11_comes_20 rfl (lv_at hl 1 rfl) ?_
    refine va_get (D := D) (ci := 11) (v := .ref (q 7)) (C := RX11) (T := TX11) (N := 47) hx hb hts (by decide +kernel) hown hK.1 hP 0 rfl rfl 18 (by decide) (hts (.fieldLink RX11 39 "JugglingHallModel" "spare" "[I") (by decide +kernel)) (fun _ h9 => h9) rfl dX11_comes_21 ?_
    refine lv_iload hx hb dX11_comes_24 (lv_at hl 0 rfl) ?_
    refine lv_iload_n hx hb dX11_comes_26 rfl (lv_at hl 4 rfl) ?_
    refine ma_7 (u := ((6 * a.toInt) + (2 * b.toInt))) hx hb hK hP hD hS dX11_comes_27 (e_3) (by omega) (fun g_14 H locs eg_14 hP hD hS => ?_)
    have hX : (6 * a.toInt + 2 * b.toInt) = ((6 * a.toInt) + (2 * b.toInt)) := by omega
    have hz9 : (f7 (6 * a.toInt + 2 * b.toInt).toNat).toInt = 0 := by rw [hX]; omega
    have hB0 : g_14 (6 * a.toInt + 2 * b.toInt).toNat = d := by rw [eg_14, ← hX, pk_us]
    have hB1 : g_14 ((6 * a.toInt + 2 * b.toInt) + 1).toNat = f7 ((6 * a.toInt + 2 * b.toInt) + 1).toNat := by rw [eg_14, un_i (by omega) (by omega) (by omega)]
    have hBu : ∀ i : Int, 0 ≤ i → i ≠ (6 * a.toInt + 2 * b.toInt) → i ≠ (6 * a.toInt + 2 * b.toInt) + 1 → g_14 i.toNat = f7 i.toNat := fun i i0 i1 i2 => by rw [eg_14, un_i i0 (by omega) (by omega)]
    have hc0 : CellX jn (g_14 (6 * a.toInt + 2 * b.toInt).toNat) := by rw [hB0]; exact hv
    have hc1 : CellX jn (g_14 ((6 * a.toInt + 2 * b.toInt) + 1).toNat) := by rw [hB1]; exact hC.1 _ (by omega) (by omega)
    refine lv_goto (tgt := 58) hx hb dX11_comes_28 (by decide) ?_
    refine lv_aload_n hx hb dX11_comes_58 rfl (lv_at hl 1 rfl) ?_
    refine va_get (D := D) (ci := 11) (v := .ref (q 7)) (C := RX11) (T := TX11) (N := 47) hx hb hts (by decide +kernel) hown hK.1 hP 0 rfl rfl 18 (by decide) (hts (.fieldLink RX11 39 "JugglingHallModel" "spare" "[I") (by decide +kernel)) (fun _ h9 => h9) rfl dX11_comes_59 ?_
    refine lv_iload hx hb dX11_comes_62 (lv_at hl 0 rfl) ?_
    have hxe0 : z_3.toInt = (6 * a.toInt + 2 * b.toInt) := by omega
    have hPc := hP.sub (ws' := [(q 7, .inl (cI, 144, .inl g_14))]) [8] (by with_unfolding_all rfl)
    have hDc := hD.sub (ws' := [(q 7, .inl (cI, 144, .inl g_14))]) [8] (by decide) (by with_unfolding_all rfl)
    refine call_g (wr := [(mm, .inr (11, mXF q jn x0 x1 x2 x3 x4 x5 x6 x7 x8 x9 x10 x11 x12 x13 x14 x15 x16 x17 x18 x19 x20)), (q 0, .inl (cI, 73200, .inl f0)), (q 1, .inl (cI, 488, .inl f1)), (q 2, .inl (cI, 300, .inl f2)), (q 3, .inl (cI, 2400, .inl f3)), (q 4, .inl (cI, 6, .inl f4)), (q 5, .inl (cI, 6, .inl f5)), (q 6, .inl (cI, 7, .inl f6)), (q 8, .inl (cI, 8, .inl f8)), (q 9, .inl (cI, 1152, .inl f9)), (q 10, .inl (cI, 8, .inl f10)), (q 11, .inl (cI, 8, .inl f11)), (q 12, .inl (cI, 72, .inl f12)), (q 13, .inl (cI, 144, .inl f13)), (q 14, .inl (cI, 144, .inl f14)), (q 15, .inl (cI, 144, .inl f15)), (q 16, .inl (cI, 6, .inl f16)), (q 17, .inl (cI, 512, .inl f17)), (q 18, .inl (cI, 512, .inl f18)), (q 19, .inl (cI, 11, .inl f19)), (q 20, .inl (cI, 11, .inl f20)), (q 21, .inl (cI, 300, .inl f21)), (q 22, .inl (cI, 300, .inl f22)), (q 23, .inl (cI, 8, .inl f23)), (q 24, .inl (cI, 8, .inl f24))]) (va_runS (As := [.ref (q 7), .int z_3]) (rest := []) ⟨hx, hb, hml, hown, hts⟩ (k_order l D cI cR cM _  (by first | assumption | omega) (by rw [hxe0]; exact ⟨hc0.1, hc0.2.2.2⟩) (by rw [hxe0]; exact ⟨hc1.1, hc1.2.2.2⟩) (by decide)) (va_cwS 2 hts gX11_comes_X11_order rfl rfl rfl (by decide +kernel) ⟨Nat.le_of_ble_eq_true rfl, Nat.le_of_ble_eq_true rfl⟩) (pre_S hK hPc hDc) rfl rfl hl.1 rfl (lv_room (Nat.le_of_ble_eq_true rfl)) dX11_comes_64 ⟨Nat.le_of_ble_eq_true rfl, Nat.le_of_ble_eq_true rfl⟩) hP hD hS hA [8] [0, 1, 2, 3, 4, 5, 6, 7, 9, 10, 11, 12, 13, 14, 15, 16, 17, 18, 19, 20, 21, 22, 23, 24, 25] (by with_unfolding_all rfl) (by with_unfolding_all rfl) (by decide) (by decide) (fun g_15 H locs hw hP hD hS => ?_)
    have hP : va_P D vwCl (mX mm q jn cI x0 x1 x2 x3 x4 x5 x6 x7 x8 x9 x10 x11 x12 x13 x14 x15 x16 x17 x18 x19 x20 f0 f1 f2 f3 f4 f5 f6 g_15 f8 f9 f10 f11 f12 f13 f14 f15 f16 f17 f18 f19 f20 f21 f22 f23 f24) H := hP.sub [0, 1, 2, 3, 4, 5, 6, 7, 25, 8, 9, 10, 11, 12, 13, 14, 15, 16, 17, 18, 19, 20, 21, 22, 23, 24] (by with_unfolding_all rfl)
    have hD : va_D A (mX mm q jn cI x0 x1 x2 x3 x4 x5 x6 x7 x8 x9 x10 x11 x12 x13 x14 x15 x16 x17 x18 x19 x20 f0 f1 f2 f3 f4 f5 f6 g_15 f8 f9 f10 f11 f12 f13 f14 f15 f16 f17 f18 f19 f20 f21 f22 f23 f24) := hD.sub [0, 1, 2, 3, 4, 5, 6, 7, 25, 8, 9, 10, 11, 12, 13, 14, 15, 16, 17, 18, 19, 20, 21, 22, 23, 24] (by decide) (by with_unfolding_all rfl)
    obtain ⟨hu_15, hs_15, hz_15⟩ : (∀ i : Int, 0 ≤ i → i ≠ z_3.toInt → i ≠ z_3.toInt + 1 → g_15 i.toNat = g_14 i.toNat) ∧ ((g_15 z_3.toInt.toNat = g_14 z_3.toInt.toNat ∧ g_15 (z_3.toInt + 1).toNat = g_14 (z_3.toInt + 1).toNat) ∨ (g_15 z_3.toInt.toNat = g_14 (z_3.toInt + 1).toNat ∧ g_15 (z_3.toInt + 1).toNat = g_14 z_3.toInt.toNat)) ∧ ((g_15 z_3.toInt.toNat).toInt = 0 → (g_15 (z_3.toInt + 1).toNat).toInt = 0) := hw
    rw [hxe0] at hu_15 hs_15 hz_15
    have hp1 : CellX jn (g_15 (6 * a.toInt + 2 * b.toInt).toNat) := by
      rcases hs_15 with q | q
      · rw [q.1]; exact hc0
      · rw [q.1]; exact hc1
    have hp2 : CellX jn (g_15 ((6 * a.toInt + 2 * b.toInt) + 1).toNat) := by
      rcases hs_15 with q | q
      · rw [q.2]; exact hc1
      · rw [q.2]; exact hc0
    have hCC : CellsX jn g_15 0 hi := cx_set2 (k := 3 * a.toInt + b.toInt) hC (by omega) (by omega) (fun i i0 i1 i2 => by rw [hu_15 i i0 i1 i2]; exact hBu i i0 i1 i2) hp1 hp2 hz_15
    refine lv_iconst (v := 1) hx hb dX11_comes_67 (by decide) ?_
    have hz_16 : (1 : Int32).toInt = 1 := by decide
    exact g_zret ((1 : Int32), g_15) hx hb hr hlocks hS (by first | exact Or.inl rfl | exact Or.inr rfl) rfl (⟨show (1 : Int32).toInt = 0 ∨ (1 : Int32).toInt = 1 from (by first | assumption | omega), show CellsX jn g_15 0 hi from (hCC), show ∀ i : Int, 0 ≤ i → i ≠ (6 * a.toInt + 2 * b.toInt) → i ≠ (6 * a.toInt + 2 * b.toInt) + 1 → g_15 i.toNat = f7 i.toNat from (fun i i0 i1 i2 => by rw [hu_15 i i0 i1 i2]; exact hBu i i0 i1 i2)⟩) hP hD hQ (Nat.le_of_ble_eq_true rfl) (Nat.le_of_ble_eq_true rfl) dX11_comes_68
set_option maxRecDepth 100000 in
set_option maxHeartbeats 4000000 in
theorem k_turns (l : Launch) (D : va_G) (cI cR cM : ClassId) (sz : Nat) {jn mm : Nat} {q : Nat → Nat} {x0 x1 x2 x3 x4 x5 x6 x7 x8 x9 x10 x11 x12 x13 x14 x15 x16 x17 x18 x19 x20 : Int32} {f0 f1 f2 f3 f4 f5 f6 f7 f8 f9 f10 f11 f12 f13 f14 f15 f16 f17 f18 f19 f20 f21 f22 f23 f24 : Nat → Int32} {what dd fro nn : Int32}  (hj : 1 ≤ jn ∧ jn ≤ 3) (hw : 7 ≤ what.toInt ∧ what.toInt ≤ 10) (hd : 0 ≤ dd.toInt ∧ dd.toInt ≤ 9) (hf : 0 ≤ fro.toInt ∧ 0 ≤ nn.toInt ∧ nn.toInt ≤ 24 ∧ fro.toInt + nn.toInt ≤ 150) (hC : CellsX jn f3 0 (6 * (fro.toInt + nn.toInt))) (hZ0 : ZX jn f3 0 (fro.toInt + nn.toInt)) : Met l yX11_turns wsX11_turns ({ frames := 2, cells := 0, slots := 0, locals := 47 }) (P0 D cI cR cM [.ref mm, .int what, .int dd, .int fro, .int nn] sz (mX mm q jn cI x0 x1 x2 x3 x4 x5 x6 x7 x8 x9 x10 x11 x12 x13 x14 x15 x16 x17 x18 x19 x20 f0 f1 f2 f3 f4 f5 f6 f7 f8 f9 f10 f11 f12 f13 f14 f15 f16 f17 f18 f19 f20 f21 f22 f23 f24)) (QG (S := Int32 × (Nat → Int32) × (Nat → Int32)) (fun u => some (.int u.1)) (fun u => mX mm q jn cI x0 x1 x2 x3 x4 x5 x6 x7 x8 x9 x10 x11 x12 x13 x14 x15 x16 x17 x18 x19 x20 f0 f1 f2 (u.2.1) f4 f5 f6 (u.2.2) f8 f9 f10 f11 f12 f13 f14 f15 f16 f17 f18 f19 f20 f21 f22 f23 f24) (fun u => (u.1.toInt = 0 ∨ u.1.toInt = 1) ∧ (CellsX jn u.2.1 0 (6 * (fro.toInt + nn.toInt))) ∧ (ZX jn u.2.1 0 (fro.toInt + nn.toInt))) D (va_A (mX mm q jn cI x0 x1 x2 x3 x4 x5 x6 x7 x8 x9 x10 x11 x12 x13 x14 x15 x16 x17 x18 x19 x20 f0 f1 f2 f3 f4 f5 f6 f7 f8 f9 f10 f11 f12 f13 f14 f15 f16 f17 f18 f19 f20 f21 f22 f23 f24) sz)) 0 0 (va_A (mX mm q jn cI x0 x1 x2 x3 x4 x5 x6 x7 x8 x9 x10 x11 x12 x13 x14 x15 x16 x17 x18 x19 x20 f0 f1 f2 f3 f4 f5 f6 f7 f8 f9 f10 f11 f12 f13 f14 f15 f16 f17 f18 f19 f20 f21 f22 f23 f24) sz) := by
  refine go (cc := cX11_turns) (maxL := 13) (ret := (some .boolean)) (by decide) rfl (Nat.le_of_ble_eq_true rfl) ?_
  intro p e s m below meth c ls args Q hQ hsz hx hb hr hml hts hown hlocks hnm hP hK hD hl
  subst hsz
  have hD := hD.self (sz := s.heap.size)
  generalize hAe : va_A (mX mm q jn cI x0 x1 x2 x3 x4 x5 x6 x7 x8 x9 x10 x11 x12 x13 x14 x15 x16 x17 x18 x19 x20 f0 f1 f2 f3 f4 f5 f6 f7 f8 f9 f10 f11 f12 f13 f14 f15 f16 f17 f18 f19 f20 f21 f22 f23 f24) s.heap.size = A at hD hQ
  have hA : ∀ q, s.heap.size ≤ q → A q := fun q h => by rw [← hAe]; exact Or.inr h
  have hS : va_S A s.heap s.heap [] := va_S.rf
  have hl : lv_has ls 13 [(0, .ref mm), (1, .int what), (2, .int dd), (3, .int fro), (4, .int nn)] := hl
  refine lv_iconst (v := 0) hx hb dX11_turns_0 (by decide) ?_
  refine lv_istore (lv' := [(5, .int 0), (0, .ref mm), (1, .int what), (2, .int dd), (3, .int fro), (4, .int nn)]) hx hb dX11_turns_1 hl (by decide) rfl (fun ls hl => ?_)
  have loop3 : ∀ (ddloop3 : Nat) (k : Int32) (ga : (Nat → Int32)) (H : Heap) (locs : List Loc) (ls : Array Slot), (6 * nn.toInt - k.toInt).toNat < ddloop3 → (0 ≤ k.toInt ∧ k.toInt ≤ 6 * nn.toInt) → (∀ i9 : Int, 0 ≤ i9 → i9 < k.toInt → (ga i9.toNat).toInt = 0) → va_P D vwCl (mX mm q jn cI x0 x1 x2 x3 x4 x5 x6 x7 x8 x9 x10 x11 x12 x13 x14 x15 x16 x17 x18 x19 x20 f0 f1 f2 f3 f4 f5 f6 ga f8 f9 f10 f11 f12 f13 f14 f15 f16 f17 f18 f19 f20 f21 f22 f23 f24) H → va_D A (mX mm q jn cI x0 x1 x2 x3 x4 x5 x6 x7 x8 x9 x10 x11 x12 x13 x14 x15 x16 x17 x18 x19 x20 f0 f1 f2 f3 f4 f5 f6 ga f8 f9 f10 f11 f12 f13 f14 f15 f16 f17 f18 f19 f20 f21 f22 f23 f24) → va_S A s.heap H locs → lv_has ls 13 [(0, .ref mm), (1, .int what), (2, .int dd), (3, .int fro), (4, .int nn), (5, .int k)] → W p l e ({ frames := 2, cells := 0, slots := 0, locals := 47 }) s m args below meth c H locs 0 0 Q (F0 m 3 ls []) := by
    intro ddloop3
    induction ddloop3 with
    | zero =>
      intro k ga H locs ls hdd
      exact absurd hdd (Nat.not_lt_zero _)
    | succ ddloop3 ih3 =>
      intro k ga H locs ls hdd hk hz0 hP hD hS hl
      refine lv_iload hx hb dX11_turns_3 (lv_at hl 5 rfl) ?_
      refine lv_bipush (v := 6) hx hb dX11_turns_5 (by decide) ?_
      refine lv_iload hx hb dX11_turns_7 (lv_at hl 4 rfl) ?_
      refine a_imul (u := 6) (v := nn.toInt) hx hb dX11_turns_9 (by decide) (rfl) (by omega) (fun z_1 e_1 => ?_)
      refine a_icmp_ge (u := k.toInt) (v := (6 * nn.toInt)) (tgt := 27) hx hb dX11_turns_10 (by decide) (rfl) (e_1) (fun c_2 => ?_) (fun c_2 => ?_)
      · have hSa : CellsX jn ga 0 (6 * nn.toInt) := ⟨fun i9 h8 h9 => cx_0 (by omega) (hz0 i9 h8 (by omega)), fun k9 h8 h9 _ => hz0 _ (by omega) (by omega)⟩
        have hZa : ZX jn ga 0 nn.toInt := fun b9 x9 b0 b1 x0 x1 => hz0 _ (by omega) (by omega)
        have hOa : what.toInt = 9 → ∀ k9 : Int, 0 ≤ k9 → 2 * k9 + 1 < 6 * nn.toInt → (ga (2 * k9 + 1).toNat).toInt = 0 := fun _ k9 h8 h9 => hz0 _ (by omega) (by omega)
        refine lv_iconst (v := 1) hx hb dX11_turns_27 (by decide) ?_
        refine lv_istore (lv' := [(5, .int 1), (0, .ref mm), (1, .int what), (2, .int dd), (3, .int fro), (4, .int nn)]) hx hb dX11_turns_28 hl (by decide) rfl (fun ls hl => ?_)
        refine lv_iconst (v := 0) hx hb dX11_turns_30 (by decide) ?_
        refine lv_istore (lv' := [(6, .int 0), (5, .int 1), (0, .ref mm), (1, .int what), (2, .int dd), (3, .int fro), (4, .int nn)]) hx hb dX11_turns_31 hl (by decide) rfl (fun ls hl => ?_)
        have loop33 : ∀ (ddloop33 : Nat) (gd : Int32) (i : Int32) (gb : (Nat → Int32)) (H : Heap) (locs : List Loc) (ls : Array Slot), (nn.toInt - i.toInt).toNat < ddloop33 → (gd.toInt = 0 ∨ gd.toInt = 1) → (0 ≤ i.toInt ∧ i.toInt ≤ nn.toInt) → (CellsX jn gb 0 (6 * nn.toInt)) → (ZX jn gb 0 nn.toInt) → (what.toInt = 9 → ∀ k9 : Int, 0 ≤ k9 → 2 * k9 + 1 < 6 * nn.toInt → (gb (2 * k9 + 1).toNat).toInt = 0) → va_P D vwCl (mX mm q jn cI x0 x1 x2 x3 x4 x5 x6 x7 x8 x9 x10 x11 x12 x13 x14 x15 x16 x17 x18 x19 x20 f0 f1 f2 f3 f4 f5 f6 gb f8 f9 f10 f11 f12 f13 f14 f15 f16 f17 f18 f19 f20 f21 f22 f23 f24) H → va_D A (mX mm q jn cI x0 x1 x2 x3 x4 x5 x6 x7 x8 x9 x10 x11 x12 x13 x14 x15 x16 x17 x18 x19 x20 f0 f1 f2 f3 f4 f5 f6 gb f8 f9 f10 f11 f12 f13 f14 f15 f16 f17 f18 f19 f20 f21 f22 f23 f24) → va_S A s.heap H locs → lv_has ls 13 [(0, .ref mm), (1, .int what), (2, .int dd), (3, .int fro), (4, .int nn), (5, .int gd), (6, .int i)] → W p l e ({ frames := 2, cells := 0, slots := 0, locals := 47 }) s m args below meth c H locs 0 0 Q (F0 m 33 ls []) := by
          intro ddloop33
          induction ddloop33 with
          | zero =>
            intro gd i gb H locs ls hdd
            exact absurd hdd (Nat.not_lt_zero _)
          | succ ddloop33 ih33 =>
            intro gd i gb H locs ls hdd hgd hi9 hS1 hZ1 hO1 hP hD hS hl
            refine lv_iload hx hb dX11_turns_33 (lv_at hl 6 rfl) ?_
            refine lv_iload hx hb dX11_turns_35 (lv_at hl 4 rfl) ?_
            refine a_icmp_ge (u := i.toInt) (v := nn.toInt) (tgt := 308) hx hb dX11_turns_37 (by decide) (rfl) (rfl) (fun c_3 => ?_) (fun c_3 => ?_)
            · refine lv_iconst (v := 0) hx hb dX11_turns_308 (by decide) ?_
              refine lv_istore (lv' := [(6, .int 0), (0, .ref mm), (1, .int what), (2, .int dd), (3, .int fro), (4, .int nn), (5, .int gd)]) hx hb dX11_turns_309 hl (by decide) rfl (fun ls hl => ?_)
              have loop311 : ∀ (ddloop311 : Nat) (k2 : Int32) (gw : (Nat → Int32)) (H : Heap) (locs : List Loc) (ls : Array Slot), (6 * nn.toInt - k2.toInt).toNat < ddloop311 → (0 ≤ k2.toInt ∧ k2.toInt ≤ 6 * nn.toInt) → (∀ i9 : Int, 0 ≤ i9 → i9 < 6 * fro.toInt → gw i9.toNat = f3 i9.toNat) → (∀ i9 : Int, 0 ≤ i9 → i9 < k2.toInt → gw (6 * fro.toInt + i9).toNat = gb (0 + i9).toNat) → va_P D vwCl (mX mm q jn cI x0 x1 x2 x3 x4 x5 x6 x7 x8 x9 x10 x11 x12 x13 x14 x15 x16 x17 x18 x19 x20 f0 f1 f2 gw f4 f5 f6 gb f8 f9 f10 f11 f12 f13 f14 f15 f16 f17 f18 f19 f20 f21 f22 f23 f24) H → va_D A (mX mm q jn cI x0 x1 x2 x3 x4 x5 x6 x7 x8 x9 x10 x11 x12 x13 x14 x15 x16 x17 x18 x19 x20 f0 f1 f2 gw f4 f5 f6 gb f8 f9 f10 f11 f12 f13 f14 f15 f16 f17 f18 f19 f20 f21 f22 f23 f24) → va_S A s.heap H locs → lv_has ls 13 [(0, .ref mm), (1, .int what), (2, .int dd), (3, .int fro), (4, .int nn), (5, .int gd), (6, .int k2)] → W p l e ({ frames := 2, cells := 0, slots := 0, locals := 47 }) s m args below meth c H locs 0 0 Q (F0 m 311 ls []) := by
                intro ddloop311
                induction ddloop311 with
                | zero =>
                  intro k2 gw H locs ls hdd
                  exact absurd hdd (Nat.not_lt_zero _)
                | succ ddloop311 ih311 =>
                  intro k2 gw H locs ls hdd hk2 hga hgs hP hD hS hl
                  refine lv_iload hx hb dX11_turns_311 (lv_at hl 6 rfl) ?_
                  refine lv_bipush (v := 6) hx hb dX11_turns_313 (by decide) ?_
                  refine lv_iload hx hb dX11_turns_315 (lv_at hl 4 rfl) ?_
                  refine a_imul (u := 6) (v := nn.toInt) hx hb dX11_turns_317 (by decide) (rfl) (by omega) (fun z_4 e_4 => ?_)
                  refine a_icmp_ge (u := k2.toInt) (v := (6 * nn.toInt)) (tgt := 346) hx hb dX11_turns_318 (by decide) (rfl) (e_4) (fun c_5 => ?_) (fun c_5 => ?_)
                  · have hCn : CellsX jn gw 0 (6 * (fro.toInt + nn.toInt)) := cx_app (src := gb) (lo := 0) (cx_sub hC (by omega)) (by rw [show (0 : Int) + 6 * nn.toInt = 6 * nn.toInt by omega]; exact hS1) (by omega) (by omega) hga (fun i9 h8 h9 => hgs i9 h8 (by omega))
                    have hZn : ZX jn gw 0 (fro.toInt + nn.toInt) := zx_app (src := gb) (lo := 0) (fun b9 x9 b0 b1 x0 x1 => hZ0 b9 x9 b0 (by omega) x0 x1) hZ1 (by omega) hga (fun i9 h8 h9 => hgs i9 h8 (by omega))
                    refine lv_iload hx hb dX11_turns_346 (lv_at hl 5 rfl) ?_
                    exact g_zret (gd, gw, gb) hx hb hr hlocks hS (b01 (by omega)) rfl (⟨show gd.toInt = 0 ∨ gd.toInt = 1 from (by first | assumption | omega), show CellsX jn gw 0 (6 * (fro.toInt + nn.toInt)) from (hCn), show ZX jn gw 0 (fro.toInt + nn.toInt) from (hZn)⟩) hP hD hQ (Nat.le_of_ble_eq_true rfl) (Nat.le_of_ble_eq_true rfl) dX11_turns_348
                  · refine lv_aload_n hx hb dX11_turns_321 rfl (lv_at hl 0 rfl) ?_
                    refine va_get (D := D) (ci := 11) (v := .ref (q 3)) (C := RX11) (T := TX11) (N := 47) hx hb hts (by decide +kernel) hown hK.1 hP 0 rfl rfl 14 (by decide) (hts (.fieldLink RX11 27 "JugglingHallModel" "work" "[I") (by decide +kernel)) (fun _ h9 => h9) rfl dX11_turns_322 ?_
                    refine lv_bipush (v := 6) hx hb dX11_turns_325 (by decide) ?_
                    refine lv_iload_n hx hb dX11_turns_327 rfl (lv_at hl 3 rfl) ?_
                    refine a_imul (u := 6) (v := fro.toInt) hx hb dX11_turns_328 (by decide) (rfl) (by omega) (fun z_6 e_6 => ?_)
                    refine lv_iload hx hb dX11_turns_329 (lv_at hl 6 rfl) ?_
                    refine a_iadd (u := (6 * fro.toInt)) (v := k2.toInt) hx hb dX11_turns_331 (e_6) (rfl) (by omega) (fun z_7 e_7 => ?_)
                    refine lv_aload_n hx hb dX11_turns_332 rfl (lv_at hl 0 rfl) ?_
                    refine va_get (D := D) (ci := 11) (v := .ref (q 7)) (C := RX11) (T := TX11) (N := 47) hx hb hts (by decide +kernel) hown hK.1 hP 0 rfl rfl 18 (by decide) (hts (.fieldLink RX11 39 "JugglingHallModel" "spare" "[I") (by decide +kernel)) (fun _ h9 => h9) rfl dX11_turns_333 ?_
                    refine lv_iload hx hb dX11_turns_336 (lv_at hl 6 rfl) ?_
                    refine a_iald (f := gb) (u := k2.toInt) hx hb hK.1 hP 8 0 rfl rfl dX11_turns_338 (rfl) (by omega) (fun z_8 q_8 e_8 => ?_)
                    refine ma_3 (u := ((6 * fro.toInt) + k2.toInt)) hx hb hK hP hD hS dX11_turns_339 (e_7) (by omega) (fun g_9 H locs eg_9 hP hD hS => ?_)
                    obtain ⟨z_10, q_10, e_10⟩ := i_inc (a := k2.toInt) (1) (rfl) (by decide) (by omega) (by omega)
                    refine lv_iinc (v := z_10) (lv' := [(6, .int z_10), (0, .ref mm), (1, .int what), (2, .int dd), (3, .int fro), (4, .int nn), (5, .int gd)]) hx hb dX11_turns_340 hl (k := 6) rfl q_10 (by decide) rfl (fun ls hl => ?_)
                    refine lv_goto (tgt := 311) hx hb dX11_turns_343 (by decide) ?_
                    exact ih311 z_10 g_9 _ _ _ (by omega) (by first | assumption | omega) (fun i9 h8 h9 => by rw [eg_9, un_i h8 (by omega) (by omega)]; exact hga i9 h8 h9) (fun i9 h8 h9 => by
                      by_cases q : i9 = k2.toInt
                      · rw [eg_9, q, show 6 * fro.toInt + k2.toInt = ((6 * fro.toInt) + k2.toInt) by omega, pk_us, q_8, show (0 : Int) + k2.toInt = k2.toInt by omega]
                      · rw [eg_9, un_i (by omega) (by omega) (by omega)]; exact hgs i9 h8 (by omega)) hP hD hS (lv_sub hl [1, 2, 3, 4, 5, 6, 0] rfl)
              have hz_11 : (0 : Int32).toInt = 0 := by decide
              exact loop311 ((6 * nn.toInt - (0 : Int32).toInt).toNat + 1) (0 : Int32) f3 _ _ _ (by omega) (by first | assumption | omega) (fun _ _ _ => rfl) (fun i9 h8 h9 => absurd h9 (by omega)) hP hD hS (lv_sub hl [1, 2, 3, 4, 5, 6, 0] rfl)
            · refine lv_iconst (v := 0) hx hb dX11_turns_40 (by decide) ?_
              refine lv_istore (lv' := [(7, .int 0), (0, .ref mm), (1, .int what), (2, .int dd), (3, .int fro), (4, .int nn), (5, .int gd), (6, .int i)]) hx hb dX11_turns_41 hl (by decide) rfl (fun ls hl => ?_)
              have loop43 : ∀ (ddloop43 : Nat) (ge : Int32) (x : Int32) (gc : (Nat → Int32)) (H : Heap) (locs : List Loc) (ls : Array Slot), (6 - x.toInt).toNat < ddloop43 → (ge.toInt = 0 ∨ ge.toInt = 1) → (0 ≤ x.toInt ∧ x.toInt ≤ 6) → (CellsX jn gc 0 (6 * nn.toInt)) → (ZX jn gc 0 nn.toInt) → (what.toInt = 9 → ∀ k9 : Int, 0 ≤ k9 → 2 * k9 + 1 < 6 * nn.toInt → (gc (2 * k9 + 1).toNat).toInt = 0) → va_P D vwCl (mX mm q jn cI x0 x1 x2 x3 x4 x5 x6 x7 x8 x9 x10 x11 x12 x13 x14 x15 x16 x17 x18 x19 x20 f0 f1 f2 f3 f4 f5 f6 gc f8 f9 f10 f11 f12 f13 f14 f15 f16 f17 f18 f19 f20 f21 f22 f23 f24) H → va_D A (mX mm q jn cI x0 x1 x2 x3 x4 x5 x6 x7 x8 x9 x10 x11 x12 x13 x14 x15 x16 x17 x18 x19 x20 f0 f1 f2 f3 f4 f5 f6 gc f8 f9 f10 f11 f12 f13 f14 f15 f16 f17 f18 f19 f20 f21 f22 f23 f24) → va_S A s.heap H locs → lv_has ls 13 [(0, .ref mm), (1, .int what), (2, .int dd), (3, .int fro), (4, .int nn), (5, .int ge), (6, .int i), (7, .int x)] → W p l e ({ frames := 2, cells := 0, slots := 0, locals := 47 }) s m args below meth c H locs 0 0 Q (F0 m 43 ls []) := by
                intro ddloop43
                induction ddloop43 with
                | zero =>
                  intro ge x gc H locs ls hdd
                  exact absurd hdd (Nat.not_lt_zero _)
                | succ ddloop43 ih43 =>
                  intro ge x gc H locs ls hdd hge hx9 hS2 hZ2 hO2 hP hD hS hl
                  refine lv_iload hx hb dX11_turns_43 (lv_at hl 7 rfl) ?_
                  refine lv_bipush (v := 6) hx hb dX11_turns_45 (by decide) ?_
                  refine a_icmp_ge (u := x.toInt) (v := 6) (tgt := 302) hx hb dX11_turns_47 (by decide) (rfl) (by decide) (fun c_12 => ?_) (fun c_12 => ?_)
                  · obtain ⟨z_13, q_13, e_13⟩ := i_inc (a := i.toInt) (1) (rfl) (by decide) (by omega) (by omega)
                    refine lv_iinc (v := z_13) (lv' := [(6, .int z_13), (0, .ref mm), (1, .int what), (2, .int dd), (3, .int fro), (4, .int nn), (5, .int ge), (7, .int x)]) hx hb dX11_turns_302 hl (k := 6) rfl q_13 (by decide) rfl (fun ls hl => ?_)
                    refine lv_goto (tgt := 33) hx hb dX11_turns_305 (by decide) ?_
                    exact ih33 ge z_13 gc _ _ _ (by omega) (by first | assumption | omega) (by first | assumption | omega) (by first | assumption | omega) (by first | assumption | omega) (by first | assumption | omega) hP hD hS (lv_sub hl [1, 2, 3, 4, 5, 6, 0] rfl)
                  · refine lv_aload_n hx hb dX11_turns_50 rfl (lv_at hl 0 rfl) ?_
                    refine va_get (D := D) (ci := 11) (v := .ref (q 3)) (C := RX11) (T := TX11) (N := 47) hx hb hts (by decide +kernel) hown hK.1 hP 0 rfl rfl 14 (by decide) (hts (.fieldLink RX11 27 "JugglingHallModel" "work" "[I") (by decide +kernel)) (fun _ h9 => h9) rfl dX11_turns_51 ?_
                    refine lv_bipush (v := 6) hx hb dX11_turns_54 (by decide) ?_
                    refine lv_iload_n hx hb dX11_turns_56 rfl (lv_at hl 3 rfl) ?_
                    refine lv_iload hx hb dX11_turns_57 (lv_at hl 6 rfl) ?_
                    refine a_iadd (u := fro.toInt) (v := i.toInt) hx hb dX11_turns_59 (rfl) (rfl) (by omega) (fun z_14 e_14 => ?_)
                    refine a_imul (u := 6) (v := (fro.toInt + i.toInt)) hx hb dX11_turns_60 (by decide) (e_14) (by omega) (fun z_15 e_15 => ?_)
                    refine lv_iload hx hb dX11_turns_61 (lv_at hl 7 rfl) ?_
                    refine a_iadd (u := (6 * (fro.toInt + i.toInt))) (v := x.toInt) hx hb dX11_turns_63 (e_15) (rfl) (by omega) (fun z_16 e_16 => ?_)
                    refine a_iald (f := f3) (u := ((6 * (fro.toInt + i.toInt)) + x.toInt)) hx hb hK.1 hP 4 0 rfl rfl dX11_turns_64 (e_16) (by omega) (fun z_17 q_17 e_17 => ?_)
                    have hcv : CellX jn z_17 := by rw [q_17]; exact hC.1 _ (by omega) (by omega)
                    obtain ⟨hv1, hv2, hv3, hv4⟩ := hcv
                    have hvz : 2 * (jn : Int) ≤ x.toInt → z_17.toInt = 0 := fun h9 => by
                      have h8 := hZ0 (fro.toInt + i.toInt) x.toInt (by omega) (by omega) h9 (by omega)
                      rw [show 0 + 6 * (fro.toInt + i.toInt) + x.toInt = ((6 * (fro.toInt + i.toInt)) + x.toInt) by omega] at h8
                      rw [q_17]; exact h8
                    refine lv_istore (lv' := [(8, .int z_17), (0, .ref mm), (1, .int what), (2, .int dd), (3, .int fro), (4, .int nn), (5, .int ge), (6, .int i), (7, .int x)]) hx hb dX11_turns_65 hl (by decide) rfl (fun ls hl => ?_)
                    refine lv_iload hx hb dX11_turns_67 (lv_at hl 8 rfl) ?_
                    refine lv_iconst (v := 2) hx hb dX11_turns_69 (by decide) ?_
                    refine a_idiv (u := x.toInt) (v := 2) hx hb dX11_turns_70 (rfl) (by decide) (by omega) (fun z_18 e_18 => ?_)
                    refine lv_istore (lv' := [(9, .int z_18), (8, .int z_17), (0, .ref mm), (1, .int what), (2, .int dd), (3, .int fro), (4, .int nn), (5, .int ge), (6, .int i), (7, .int x)]) hx hb dX11_turns_71 hl (by decide) rfl (fun ls hl => ?_)
                    refine lv_iload_n hx hb dX11_turns_73 rfl (lv_at hl 3 rfl) ?_
                    refine lv_bipush (v := 9) hx hb dX11_turns_74 (by decide) ?_
                    refine a_icmp_ne (u := what.toInt) (v := 9) (tgt := 95) hx hb dX11_turns_76 (by decide) (rfl) (by decide) (fun c_19 => ?_) (fun c_19 => ?_)
                    · refine lv_iload_n hx hb dX11_turns_95 rfl (lv_at hl 3 rfl) ?_
                      refine lv_bipush (v := 9) hx hb dX11_turns_96 (by decide) ?_
                      refine a_icmp_ne (u := what.toInt) (v := 9) (tgt := 142) hx hb dX11_turns_98 (by decide) (rfl) (by decide) (fun c_20 => ?_) (fun c_20 => ?_)
                      · refine lv_iload hx hb dX11_turns_142 (lv_at hl 1 rfl) ?_
                        refine a_if_le (u := z_17.toInt) (tgt := 296) hx hb dX11_turns_144 (by decide) (rfl) (fun c_21 => ?_) (fun c_21 => ?_)
                        · obtain ⟨z_22, q_22, e_22⟩ := i_inc (a := x.toInt) (1) (rfl) (by decide) (by omega) (by omega)
                          refine lv_iinc (v := z_22) (lv' := [(7, .int z_22), (9, .int z_18), (8, .int z_17), (0, .ref mm), (1, .int what), (2, .int dd), (3, .int fro), (4, .int nn), (5, .int ge), (6, .int i)]) hx hb dX11_turns_296 hl (k := 9) rfl q_22 (by decide) rfl (fun ls hl => ?_)
                          refine lv_goto (tgt := 43) hx hb dX11_turns_299 (by decide) ?_
                          exact ih43 ge z_22 gc _ _ _ (by omega) (by first | assumption | omega) (by first | assumption | omega) (by first | assumption | omega) (by first | assumption | omega) (by first | assumption | omega) hP hD hS (lv_sub hl [3, 4, 5, 6, 7, 8, 9, 0] rfl)
                        · have join23 : ∀ (b10 : Int32) (H : Heap) (locs : List Loc) (ls : Array Slot), (0 ≤ b10.toInt ∧ b10.toInt < nn.toInt) → va_P D vwCl (mX mm q jn cI x0 x1 x2 x3 x4 x5 x6 x7 x8 x9 x10 x11 x12 x13 x14 x15 x16 x17 x18 x19 x20 f0 f1 f2 f3 f4 f5 f6 gc f8 f9 f10 f11 f12 f13 f14 f15 f16 f17 f18 f19 f20 f21 f22 f23 f24) H → va_D A (mX mm q jn cI x0 x1 x2 x3 x4 x5 x6 x7 x8 x9 x10 x11 x12 x13 x14 x15 x16 x17 x18 x19 x20 f0 f1 f2 f3 f4 f5 f6 gc f8 f9 f10 f11 f12 f13 f14 f15 f16 f17 f18 f19 f20 f21 f22 f23 f24) → va_S A s.heap H locs → lv_has ls 13 [(0, .ref mm), (1, .int what), (2, .int dd), (3, .int fro), (4, .int nn), (5, .int ge), (6, .int i), (7, .int x), (8, .int z_17), (9, .int z_18)] → W p l e ({ frames := 2, cells := 0, slots := 0, locals := 47 }) s m args below meth c H locs 0 0 Q (F0 m 189 ls [.int b10]) := by
                            intro b10 H locs ls hb10 hP hD hS hl
                            refine lv_istore (lv' := [(10, .int b10), (0, .ref mm), (1, .int what), (2, .int dd), (3, .int fro), (4, .int nn), (5, .int ge), (6, .int i), (7, .int x), (8, .int z_17), (9, .int z_18)]) hx hb dX11_turns_189 hl (by decide) rfl (fun ls hl => ?_)
                            have join24 : ∀ (by11 : Int32) (H : Heap) (locs : List Loc) (ls : Array Slot), (0 ≤ by11.toInt ∧ by11.toInt < (jn : Int)) → va_P D vwCl (mX mm q jn cI x0 x1 x2 x3 x4 x5 x6 x7 x8 x9 x10 x11 x12 x13 x14 x15 x16 x17 x18 x19 x20 f0 f1 f2 f3 f4 f5 f6 gc f8 f9 f10 f11 f12 f13 f14 f15 f16 f17 f18 f19 f20 f21 f22 f23 f24) H → va_D A (mX mm q jn cI x0 x1 x2 x3 x4 x5 x6 x7 x8 x9 x10 x11 x12 x13 x14 x15 x16 x17 x18 x19 x20 f0 f1 f2 f3 f4 f5 f6 gc f8 f9 f10 f11 f12 f13 f14 f15 f16 f17 f18 f19 f20 f21 f22 f23 f24) → va_S A s.heap H locs → lv_has ls 13 [(0, .ref mm), (1, .int what), (2, .int dd), (3, .int fro), (4, .int nn), (5, .int ge), (6, .int i), (7, .int x), (8, .int z_17), (9, .int z_18), (10, .int b10)] → W p l e ({ frames := 2, cells := 0, slots := 0, locals := 47 }) s m args below meth c H locs 0 0 Q (F0 m 224 ls [.int by11]) := by
                              intro by11 H locs ls hb11 hP hD hS hl
                              refine lv_istore (lv' := [(11, .int by11), (0, .ref mm), (1, .int what), (2, .int dd), (3, .int fro), (4, .int nn), (5, .int ge), (6, .int i), (7, .int x), (8, .int z_17), (9, .int z_18), (10, .int b10)]) hx hb dX11_turns_224 hl (by decide) rfl (fun ls hl => ?_)
                              have join25 : ∀ (to12 : Int32) (H : Heap) (locs : List Loc) (ls : Array Slot), (0 ≤ to12.toInt ∧ to12.toInt < (jn : Int)) → va_P D vwCl (mX mm q jn cI x0 x1 x2 x3 x4 x5 x6 x7 x8 x9 x10 x11 x12 x13 x14 x15 x16 x17 x18 x19 x20 f0 f1 f2 f3 f4 f5 f6 gc f8 f9 f10 f11 f12 f13 f14 f15 f16 f17 f18 f19 f20 f21 f22 f23 f24) H → va_D A (mX mm q jn cI x0 x1 x2 x3 x4 x5 x6 x7 x8 x9 x10 x11 x12 x13 x14 x15 x16 x17 x18 x19 x20 f0 f1 f2 f3 f4 f5 f6 gc f8 f9 f10 f11 f12 f13 f14 f15 f16 f17 f18 f19 f20 f21 f22 f23 f24) → va_S A s.heap H locs → lv_has ls 13 [(0, .ref mm), (1, .int what), (2, .int dd), (3, .int fro), (4, .int nn), (5, .int ge), (6, .int i), (7, .int x), (8, .int z_17), (9, .int z_18), (10, .int b10), (11, .int by11)] → W p l e ({ frames := 2, cells := 0, slots := 0, locals := 47 }) s m args below meth c H locs 0 0 Q (F0 m 261 ls [.int to12]) := by
                                intro to12 H locs ls hb12 hP hD hS hl
                                refine lv_istore (lv' := [(12, .int to12), (0, .ref mm), (1, .int what), (2, .int dd), (3, .int fro), (4, .int nn), (5, .int ge), (6, .int i), (7, .int x), (8, .int z_17), (9, .int z_18), (10, .int b10), (11, .int by11)]) hx hb dX11_turns_261 hl (by decide) rfl (fun ls hl => ?_)
                                refine lv_aload_n hx hb dX11_turns_263 rfl (lv_at hl 1 rfl) ?_
                                refine lv_iload hx hb dX11_turns_264 (lv_at hl 11 rfl) ?_
                                refine lv_iload hx hb dX11_turns_266 (lv_at hl 12 rfl) ?_
                                refine lv_iload hx hb dX11_turns_268 (lv_at hl 9 rfl) ?_
                                refine lv_iload hx hb dX11_turns_270 (lv_at hl 9 rfl) ?_
                                refine lv_iconst (v := 4) hx hb dX11_turns_272 (by decide) ?_
                                refine a_irem (u := z_17.toInt) (v := 4) hx hb dX11_turns_273 (rfl) (by decide) (by omega) (fun z_26 e_26 h_26 k_26 => ?_)
                                refine a_isub (u := z_17.toInt) (v := z_26.toInt) hx hb dX11_turns_274 (rfl) (rfl) (by omega) (fun z_27 e_27 => ?_)
                                refine lv_iload hx hb dX11_turns_275 (lv_at hl 0 rfl) ?_
                                refine a_iadd (u := (z_17.toInt - z_26.toInt)) (v := to12.toInt) hx hb dX11_turns_277 (e_27) (rfl) (by omega) (fun z_28 e_28 => ?_)
                                refine call_g (wr := []) (va_runV (As := [.int b10, .int by11, .int z_28]) (rest := []) ⟨hx, hb, hml, hown, hts⟩ (k_comes2 l D cI cR cM _ (hi := 6 * nn.toInt) (by first | assumption | omega) (by first | assumption | omega) (by first | assumption | omega) (⟨by omega, by omega, by omega, by omega⟩) (hS2) (by first | assumption | omega)) (cwV 3 hts gX11_turns_X11_comes rfl rfl rfl (by decide +kernel) ⟨Nat.le_of_ble_eq_true rfl, Nat.le_of_ble_eq_true rfl⟩) (pre_V hK hP hD 0 11 rfl rfl) rfl rfl hl.1 rfl (lv_room (Nat.le_of_ble_eq_true rfl)) dX11_turns_278 ⟨Nat.le_of_ble_eq_true rfl, Nat.le_of_ble_eq_true rfl⟩) hP hD hS hA [0, 1, 2, 3, 4, 5, 6, 7, 8, 9, 10, 11, 12, 13, 14, 15, 16, 17, 18, 19, 20, 21, 22, 23, 24, 25] [] (by with_unfolding_all rfl) rfl (by decide) (by decide) (fun u_29 H locs hw hP hD hS => ?_)
                                obtain ⟨r_29, g7_29⟩ := u_29
                                have hP : va_P D vwCl (mX mm q jn cI x0 x1 x2 x3 x4 x5 x6 x7 x8 x9 x10 x11 x12 x13 x14 x15 x16 x17 x18 x19 x20 f0 f1 f2 f3 f4 f5 f6 g7_29 f8 f9 f10 f11 f12 f13 f14 f15 f16 f17 f18 f19 f20 f21 f22 f23 f24) H := hP
                                have hD : va_D A (mX mm q jn cI x0 x1 x2 x3 x4 x5 x6 x7 x8 x9 x10 x11 x12 x13 x14 x15 x16 x17 x18 x19 x20 f0 f1 f2 f3 f4 f5 f6 g7_29 f8 f9 f10 f11 f12 f13 f14 f15 f16 f17 f18 f19 f20 f21 f22 f23 f24) := hD
                                obtain ⟨h_29, hC_29, hz_29⟩ : (r_29.toInt = 0 ∨ r_29.toInt = 1) ∧ (CellsX jn g7_29 0 (6 * nn.toInt)) ∧ (∀ i : Int, 0 ≤ i → i ≠ (6 * b10.toInt + 2 * by11.toInt) → i ≠ (6 * b10.toInt + 2 * by11.toInt) + 1 → g7_29 i.toNat = gc i.toNat) := hw
                                have hZ3 : ZX jn g7_29 0 nn.toInt := fun b9 x9 b0 b1 x0 x1 => by rw [hz_29 _ (by omega) (by omega) (by omega)]; exact hZ2 b9 x9 b0 b1 x0 x1
                                have hO3 : what.toInt = 9 → ∀ k9 : Int, 0 ≤ k9 → 2 * k9 + 1 < 6 * nn.toInt → (g7_29 (2 * k9 + 1).toNat).toInt = 0 := fun h9 => absurd h9 (by omega)
                                refine a_if_eq (u := r_29.toInt) (tgt := 293) hx hb dX11_turns_281 (by decide) (rfl) (fun c_30 => ?_) (fun c_30 => ?_)
                                · refine lv_iconst (v := 0) hx hb dX11_turns_293 (by decide) ?_
                                  refine lv_istore (lv' := [(5, .int 0), (12, .int to12), (0, .ref mm), (1, .int what), (2, .int dd), (3, .int fro), (4, .int nn), (6, .int i), (7, .int x), (8, .int z_17), (9, .int z_18), (10, .int b10), (11, .int by11)]) hx hb dX11_turns_294 hl (by decide) rfl (fun ls hl => ?_)
                                  obtain ⟨z_31, q_31, e_31⟩ := i_inc (a := x.toInt) (1) (rfl) (by decide) (by omega) (by omega)
                                  refine lv_iinc (v := z_31) (lv' := [(7, .int z_31), (5, .int 0), (12, .int to12), (0, .ref mm), (1, .int what), (2, .int dd), (3, .int fro), (4, .int nn), (6, .int i), (8, .int z_17), (9, .int z_18), (10, .int b10), (11, .int by11)]) hx hb dX11_turns_296 hl (k := 8) rfl q_31 (by decide) rfl (fun ls hl => ?_)
                                  refine lv_goto (tgt := 43) hx hb dX11_turns_299 (by decide) ?_
                                  have hz_32 : (0 : Int32).toInt = 0 := by decide
                                  exact ih43 (0 : Int32) z_31 g7_29 _ _ _ (by omega) (by first | assumption | omega) (by first | assumption | omega) (by first | assumption | omega) (by first | assumption | omega) (by first | assumption | omega) hP hD hS (lv_sub hl [3, 4, 5, 6, 7, 1, 8, 0] rfl)
                                · refine lv_iload hx hb dX11_turns_284 (lv_at hl 6 rfl) ?_
                                  refine a_if_eq (u := ge.toInt) (tgt := 293) hx hb dX11_turns_286 (by decide) (rfl) (fun c_33 => ?_) (fun c_33 => ?_)
                                  · refine lv_iconst (v := 0) hx hb dX11_turns_293 (by decide) ?_
                                    refine lv_istore (lv' := [(5, .int 0), (12, .int to12), (0, .ref mm), (1, .int what), (2, .int dd), (3, .int fro), (4, .int nn), (6, .int i), (7, .int x), (8, .int z_17), (9, .int z_18), (10, .int b10), (11, .int by11)]) hx hb dX11_turns_294 hl (by decide) rfl (fun ls hl => ?_)
                                    obtain ⟨z_34, q_34, e_34⟩ := i_inc (a := x.toInt) (1) (rfl) (by decide) (by omega) (by omega)
                                    refine lv_iinc (v := z_34) (lv' := [(7, .int z_34), (5, .int 0), (12, .int to12), (0, .ref mm), (1, .int what), (2, .int dd), (3, .int fro), (4, .int nn), (6, .int i), (8, .int z_17), (9, .int z_18), (10, .int b10), (11, .int by11)]) hx hb dX11_turns_296 hl (k := 8) rfl q_34 (by decide) rfl (fun ls hl => ?_)
                                    refine lv_goto (tgt := 43) hx hb dX11_turns_299 (by decide) ?_
                                    have hz_35 : (0 : Int32).toInt = 0 := by decide
                                    exact ih43 (0 : Int32) z_34 g7_29 _ _ _ (by omega) (by first | assumption | omega) (by first | assumption | omega) (by first | assumption | omega) (by first | assumption | omega) (by first | assumption | omega) hP hD hS (lv_sub hl [3, 4, 5, 6, 7, 1, 8, 0] rfl)
                                  · refine lv_iconst (v := 1) hx hb dX11_turns_289 (by decide) ?_
                                    refine lv_goto (tgt := 294) hx hb dX11_turns_290 (by decide) ?_
                                    refine lv_istore (lv' := [(5, .int 1), (12, .int to12), (0, .ref mm), (1, .int what), (2, .int dd), (3, .int fro), (4, .int nn), (6, .int i), (7, .int x), (8, .int z_17), (9, .int z_18), (10, .int b10), (11, .int by11)]) hx hb dX11_turns_294 hl (by decide) rfl (fun ls hl => ?_)
                                    obtain ⟨z_36, q_36, e_36⟩ := i_inc (a := x.toInt) (1) (rfl) (by decide) (by omega) (by omega)
                                    refine lv_iinc (v := z_36) (lv' := [(7, .int z_36), (5, .int 1), (12, .int to12), (0, .ref mm), (1, .int what), (2, .int dd), (3, .int fro), (4, .int nn), (6, .int i), (8, .int z_17), (9, .int z_18), (10, .int b10), (11, .int by11)]) hx hb dX11_turns_296 hl (k := 8) rfl q_36 (by decide) rfl (fun ls hl => ?_)
                                    refine lv_goto (tgt := 43) hx hb dX11_turns_299 (by decide) ?_
                                    have hz_37 : (1 : Int32).toInt = 1 := by decide
                                    exact ih43 (1 : Int32) z_36 g7_29 _ _ _ (by omega) (by first | assumption | omega) (by first | assumption | omega) (by first | assumption | omega) (by first | assumption | omega) (by first | assumption | omega) hP hD hS (lv_sub hl [3, 4, 5, 6, 7, 1, 8, 0] rfl)
                              refine lv_iload_n hx hb dX11_turns_226 rfl (lv_at hl 2 rfl) ?_
                              refine lv_bipush (v := 7) hx hb dX11_turns_227 (by decide) ?_
                              refine a_icmp_ne (u := what.toInt) (v := 7) (tgt := 237) hx hb dX11_turns_229 (by decide) (rfl) (by decide) (fun c_38 => ?_) (fun c_38 => ?_)
                              · refine lv_iload_n hx hb dX11_turns_237 rfl (lv_at hl 2 rfl) ?_
                                refine lv_bipush (v := 8) hx hb dX11_turns_238 (by decide) ?_
                                refine a_icmp_ne (u := what.toInt) (v := 8) (tgt := 257) hx hb dX11_turns_240 (by decide) (rfl) (by decide) (fun c_39 => ?_) (fun c_39 => ?_)
                                · refine lv_iload hx hb dX11_turns_257 (lv_at hl 9 rfl) ?_
                                  refine lv_iconst (v := 4) hx hb dX11_turns_259 (by decide) ?_
                                  refine a_irem (u := z_17.toInt) (v := 4) hx hb dX11_turns_260 (rfl) (by decide) (by omega) (fun z_40 e_40 h_40 k_40 => ?_)
                                  exact join25 z_40 _ _ _ (by first | assumption | omega) hP hD hS (lv_sub hl [1, 2, 3, 4, 5, 6, 7, 8, 9, 10, 11, 0] rfl)
                                · refine lv_iload hx hb dX11_turns_243 (lv_at hl 9 rfl) ?_
                                  refine lv_iconst (v := 4) hx hb dX11_turns_245 (by decide) ?_
                                  refine a_irem (u := z_17.toInt) (v := 4) hx hb dX11_turns_246 (rfl) (by decide) (by omega) (fun z_41 e_41 h_41 k_41 => ?_)
                                  refine lv_iconst (v := 1) hx hb dX11_turns_247 (by decide) ?_
                                  refine a_iadd (u := z_41.toInt) (v := 1) hx hb dX11_turns_248 (rfl) (by decide) (by omega) (fun z_42 e_42 => ?_)
                                  refine lv_aload_n hx hb dX11_turns_249 rfl (lv_at hl 1 rfl) ?_
                                  refine va_get (D := D) (ci := 11) (v := .int (nI jn)) (C := RX11) (T := TX11) (N := 47) hx hb hts (by decide +kernel) hown hK.1 hP 0 rfl rfl 0 (by decide) (hts (.fieldLink RX11 93 "JugglingHallModel" "jugglers" "I") (by decide +kernel)) (fun _ h9 => h9) rfl dX11_turns_250 ?_
                                  refine a_irem (u := (z_41.toInt + 1)) (v := (jn : Int)) hx hb dX11_turns_253 (e_42) (nI_toInt (by omega)) (by omega) (fun z_43 e_43 h_43 k_43 => ?_)
                                  refine lv_goto (tgt := 261) hx hb dX11_turns_254 (by decide) ?_
                                  exact join25 z_43 _ _ _ (by first | assumption | omega) hP hD hS (lv_sub hl [1, 2, 3, 4, 5, 6, 7, 8, 9, 10, 11, 0] rfl)
                              · refine lv_iload hx hb dX11_turns_232 (lv_at hl 10 rfl) ?_
                                refine lv_goto (tgt := 261) hx hb dX11_turns_234 (by decide) ?_
                                exact join25 z_18 _ _ _ (by first | assumption | omega) hP hD hS (lv_sub hl [1, 2, 3, 4, 5, 6, 7, 8, 9, 10, 11, 0] rfl)
                            refine lv_iload_n hx hb dX11_turns_191 rfl (lv_at hl 2 rfl) ?_
                            refine lv_bipush (v := 7) hx hb dX11_turns_192 (by decide) ?_
                            refine a_icmp_ne (u := what.toInt) (v := 7) (tgt := 204) hx hb dX11_turns_194 (by decide) (rfl) (by decide) (fun c_44 => ?_) (fun c_44 => ?_)
                            · refine lv_iload_n hx hb dX11_turns_204 rfl (lv_at hl 2 rfl) ?_
                              refine lv_bipush (v := 8) hx hb dX11_turns_205 (by decide) ?_
                              refine a_icmp_ne (u := what.toInt) (v := 8) (tgt := 222) hx hb dX11_turns_207 (by decide) (rfl) (by decide) (fun c_45 => ?_) (fun c_45 => ?_)
                              · refine lv_iload hx hb dX11_turns_222 (lv_at hl 10 rfl) ?_
                                exact join24 z_18 _ _ _ (by first | assumption | omega) hP hD hS (lv_sub hl [1, 2, 3, 4, 5, 6, 7, 8, 9, 10, 0] rfl)
                              · refine lv_iload hx hb dX11_turns_210 (lv_at hl 10 rfl) ?_
                                refine lv_iconst (v := 1) hx hb dX11_turns_212 (by decide) ?_
                                refine a_iadd (u := (x.toInt / 2)) (v := 1) hx hb dX11_turns_213 (e_18) (by decide) (by omega) (fun z_46 e_46 => ?_)
                                refine lv_aload_n hx hb dX11_turns_214 rfl (lv_at hl 1 rfl) ?_
                                refine va_get (D := D) (ci := 11) (v := .int (nI jn)) (C := RX11) (T := TX11) (N := 47) hx hb hts (by decide +kernel) hown hK.1 hP 0 rfl rfl 0 (by decide) (hts (.fieldLink RX11 93 "JugglingHallModel" "jugglers" "I") (by decide +kernel)) (fun _ h9 => h9) rfl dX11_turns_215 ?_
                                refine a_irem (u := ((x.toInt / 2) + 1)) (v := (jn : Int)) hx hb dX11_turns_218 (e_46) (nI_toInt (by omega)) (by omega) (fun z_47 e_47 h_47 k_47 => ?_)
                                refine lv_goto (tgt := 224) hx hb dX11_turns_219 (by decide) ?_
                                exact join24 z_47 _ _ _ (by first | assumption | omega) hP hD hS (lv_sub hl [1, 2, 3, 4, 5, 6, 7, 8, 9, 10, 0] rfl)
                            · refine lv_iload hx hb dX11_turns_197 (lv_at hl 9 rfl) ?_
                              refine lv_iconst (v := 4) hx hb dX11_turns_199 (by decide) ?_
                              refine a_irem (u := z_17.toInt) (v := 4) hx hb dX11_turns_200 (rfl) (by decide) (by omega) (fun z_48 e_48 h_48 k_48 => ?_)
                              refine lv_goto (tgt := 224) hx hb dX11_turns_201 (by decide) ?_
                              exact join24 z_48 _ _ _ (by first | assumption | omega) hP hD hS (lv_sub hl [1, 2, 3, 4, 5, 6, 7, 8, 9, 10, 0] rfl)
                          refine lv_iload_n hx hb dX11_turns_147 rfl (lv_at hl 3 rfl) ?_
                          refine lv_bipush (v := 7) hx hb dX11_turns_148 (by decide) ?_
                          refine a_icmp_ne (u := what.toInt) (v := 7) (tgt := 169) hx hb dX11_turns_150 (by decide) (rfl) (by decide) (fun c_49 => ?_) (fun c_49 => ?_)
                          · refine lv_iload_n hx hb dX11_turns_169 rfl (lv_at hl 3 rfl) ?_
                            refine lv_bipush (v := 10) hx hb dX11_turns_170 (by decide) ?_
                            refine a_icmp_ne (u := what.toInt) (v := 10) (tgt := 187) hx hb dX11_turns_172 (by decide) (rfl) (by decide) (fun c_50 => ?_) (fun c_50 => ?_)
                            · refine lv_iload hx hb dX11_turns_187 (lv_at hl 8 rfl) ?_
                              exact join23 i _ _ _ (by first | assumption | omega) hP hD hS (lv_sub hl [2, 3, 4, 5, 6, 7, 8, 9, 1, 0] rfl)
                            · refine lv_iload hx hb dX11_turns_175 (lv_at hl 8 rfl) ?_
                              refine lv_iload_n hx hb dX11_turns_177 rfl (lv_at hl 4 rfl) ?_
                              refine a_isub (u := i.toInt) (v := dd.toInt) hx hb dX11_turns_178 (rfl) (rfl) (by omega) (fun z_51 e_51 => ?_)
                              refine lv_iload hx hb dX11_turns_179 (lv_at hl 6 rfl) ?_
                              refine roP (va_runS (As := [.int z_51, .int nn]) (rest := []) ⟨hx, hb, hml, hown, hts⟩ (k_mod l D cI cR cM _  (by first | assumption | omega) (by first | assumption | omega)) (va_cwS 2 hts gX11_turns_X11_mod rfl rfl rfl (by decide +kernel) ⟨Nat.le_of_ble_eq_true rfl, Nat.le_of_ble_eq_true rfl⟩) (pre_S hK va_P_nil (va_D_nil (A := fun _ => True))) rfl rfl hl.1 rfl (lv_room (Nat.le_of_ble_eq_true rfl)) dX11_turns_181 ⟨Nat.le_of_ble_eq_true rfl, Nat.le_of_ble_eq_true rfl⟩) hS hA hP (fun r_52 H locs hw hP hS => ?_)
                              have h_52 : (0 ≤ r_52.toInt ∧ r_52.toInt < nn.toInt) := hw
                              refine lv_goto (tgt := 189) hx hb dX11_turns_184 (by decide) ?_
                              exact join23 r_52 _ _ _ (by first | assumption | omega) hP hD hS (lv_sub hl [2, 3, 4, 5, 6, 7, 8, 9, 1, 0] rfl)
                          · refine lv_iload hx hb dX11_turns_153 (lv_at hl 8 rfl) ?_
                            refine lv_iload hx hb dX11_turns_155 (lv_at hl 1 rfl) ?_
                            refine lv_iconst (v := 4) hx hb dX11_turns_157 (by decide) ?_
                            refine a_idiv (u := z_17.toInt) (v := 4) hx hb dX11_turns_158 (rfl) (by decide) (by omega) (fun z_53 e_53 => ?_)
                            refine a_iadd (u := i.toInt) (v := (z_17.toInt / 4)) hx hb dX11_turns_159 (rfl) (e_53) (by omega) (fun z_54 e_54 => ?_)
                            refine a_ineg (u := (i.toInt + (z_17.toInt / 4))) hx hb dX11_turns_160 (e_54) (by omega) (fun z_55 e_55 => ?_)
                            refine lv_iload hx hb dX11_turns_161 (lv_at hl 6 rfl) ?_
                            refine roP (va_runS (As := [.int z_55, .int nn]) (rest := []) ⟨hx, hb, hml, hown, hts⟩ (k_mod l D cI cR cM _  (by first | assumption | omega) (by first | assumption | omega)) (va_cwS 2 hts gX11_turns_X11_mod rfl rfl rfl (by decide +kernel) ⟨Nat.le_of_ble_eq_true rfl, Nat.le_of_ble_eq_true rfl⟩) (pre_S hK va_P_nil (va_D_nil (A := fun _ => True))) rfl rfl hl.1 rfl (lv_room (Nat.le_of_ble_eq_true rfl)) dX11_turns_163 ⟨Nat.le_of_ble_eq_true rfl, Nat.le_of_ble_eq_true rfl⟩) hS hA hP (fun r_56 H locs hw hP hS => ?_)
                            have h_56 : (0 ≤ r_56.toInt ∧ r_56.toInt < nn.toInt) := hw
                            refine lv_goto (tgt := 189) hx hb dX11_turns_166 (by decide) ?_
                            exact join23 r_56 _ _ _ (by first | assumption | omega) hP hD hS (lv_sub hl [2, 3, 4, 5, 6, 7, 8, 9, 1, 0] rfl)
                      · refine lv_bipush (v := 9) hx hb dX11_turns_101 (by decide) ?_
                        refine lv_iload hx hb dX11_turns_103 (lv_at hl 1 rfl) ?_
                        refine lv_iconst (v := 4) hx hb dX11_turns_105 (by decide) ?_
                        refine a_idiv (u := z_17.toInt) (v := 4) hx hb dX11_turns_106 (rfl) (by decide) (by omega) (fun z_57 e_57 => ?_)
                        refine a_isub (u := 9) (v := (z_17.toInt / 4)) hx hb dX11_turns_107 (by decide) (e_57) (by omega) (fun z_58 e_58 => ?_)
                        refine lv_istore (lv' := [(10, .int z_58), (9, .int z_18), (8, .int z_17), (0, .ref mm), (1, .int what), (2, .int dd), (3, .int fro), (4, .int nn), (5, .int ge), (6, .int i), (7, .int x)]) hx hb dX11_turns_108 hl (by decide) rfl (fun ls hl => ?_)
                        refine lv_aload_n hx hb dX11_turns_110 rfl (lv_at hl 3 rfl) ?_
                        refine va_get (D := D) (ci := 11) (v := .ref (q 7)) (C := RX11) (T := TX11) (N := 47) hx hb hts (by decide +kernel) hown hK.1 hP 0 rfl rfl 18 (by decide) (hts (.fieldLink RX11 39 "JugglingHallModel" "spare" "[I") (by decide +kernel)) (fun _ h9 => h9) rfl dX11_turns_111 ?_
                        refine lv_bipush (v := 6) hx hb dX11_turns_114 (by decide) ?_
                        refine lv_iload hx hb dX11_turns_116 (lv_at hl 9 rfl) ?_
                        refine a_ineg (u := i.toInt) hx hb dX11_turns_118 (rfl) (by omega) (fun z_59 e_59 => ?_)
                        refine lv_iload hx hb dX11_turns_119 (lv_at hl 7 rfl) ?_
                        refine roP (va_runS (As := [.int z_59, .int nn]) (rest := [.int 6, .ref (q 7)]) ⟨hx, hb, hml, hown, hts⟩ (k_mod l D cI cR cM _  (by first | assumption | omega) (by first | assumption | omega)) (va_cwS 2 hts gX11_turns_X11_mod rfl rfl rfl (by decide +kernel) ⟨Nat.le_of_ble_eq_true rfl, Nat.le_of_ble_eq_true rfl⟩) (pre_S hK va_P_nil (va_D_nil (A := fun _ => True))) rfl rfl hl.1 rfl (lv_room (Nat.le_of_ble_eq_true rfl)) dX11_turns_121 ⟨Nat.le_of_ble_eq_true rfl, Nat.le_of_ble_eq_true rfl⟩) hS hA hP (fun r_60 H locs hw hP hS => ?_)
                        have h_60 : (0 ≤ r_60.toInt ∧ r_60.toInt < nn.toInt) := hw
                        refine a_imul (u := 6) (v := r_60.toInt) hx hb dX11_turns_124 (by decide) (rfl) (by omega) (fun z_61 e_61 => ?_)
                        refine lv_iload hx hb dX11_turns_125 (lv_at hl 0 rfl) ?_
                        refine a_if_ne (u := (9 - (z_17.toInt / 4))) (tgt := 134) hx hb dX11_turns_127 (by decide) (e_58) (fun c_62 => ?_) (fun c_62 => ?_)
                        · refine lv_iconst (v := 4) hx hb dX11_turns_134 (by decide) ?_
                          refine lv_iload hx hb dX11_turns_135 (lv_at hl 0 rfl) ?_
                          refine a_imul (u := 4) (v := (9 - (z_17.toInt / 4))) hx hb dX11_turns_137 (by decide) (e_58) (by omega) (fun z_63 e_63 => ?_)
                          refine ma_7 (u := (6 * r_60.toInt)) hx hb hK hP hD hS dX11_turns_138 (e_61) (by omega) (fun g_64 H locs eg_64 hP hD hS => ?_)
                          have hI6 : (6 * r_60.toInt) = 2 * (3 * r_60.toInt) := by omega
                          have hcx : CellX jn z_63 := ⟨by omega, by omega, by omega, by omega⟩
                          have hodd : (gc ((6 * r_60.toInt) + 1).toNat).toInt = 0 := by rw [show (6 * r_60.toInt) + 1 = 2 * (3 * r_60.toInt) + 1 by omega]; exact hO2 (by omega) (3 * r_60.toInt) (by omega) (by omega)
                          have hun : ∀ i9 : Int, 0 ≤ i9 → i9 ≠ (6 * r_60.toInt) → g_64 i9.toNat = gc i9.toNat := fun i9 h8 h9 => by rw [eg_64, un_i h8 (by omega) h9]
                          have hS3 : CellsX jn g_64 0 (6 * nn.toInt) := cx_set2 (x := (6 * r_60.toInt)) (k := 3 * r_60.toInt) hS2 (by omega) (by omega) (fun i9 h8 h9 _ => hun i9 h8 h9) (by rw [eg_64, pk_us]; exact hcx) (by rw [hun _ (by omega) (by omega)]; exact hS2.1 _ (by omega) (by omega)) (fun _ => by rw [hun _ (by omega) (by omega)]; exact hodd)
                          have hZ3 : ZX jn g_64 0 nn.toInt := fun b9 x9 b0 b1 x0 x1 => by rw [hun _ (by omega) (by omega)]; exact hZ2 b9 x9 b0 b1 x0 x1
                          have hO3 : what.toInt = 9 → ∀ k9 : Int, 0 ≤ k9 → 2 * k9 + 1 < 6 * nn.toInt → (g_64 (2 * k9 + 1).toNat).toInt = 0 := fun h7 k9 h8 h9 => by rw [hun _ (by omega) (by omega)]; exact hO2 h7 k9 h8 h9
                          refine lv_goto (tgt := 296) hx hb dX11_turns_139 (by decide) ?_
                          obtain ⟨z_65, q_65, e_65⟩ := i_inc (a := x.toInt) (1) (rfl) (by decide) (by omega) (by omega)
                          refine lv_iinc (v := z_65) (lv' := [(7, .int z_65), (10, .int z_58), (9, .int z_18), (8, .int z_17), (0, .ref mm), (1, .int what), (2, .int dd), (3, .int fro), (4, .int nn), (5, .int ge), (6, .int i)]) hx hb dX11_turns_296 hl (k := 10) rfl q_65 (by decide) rfl (fun ls hl => ?_)
                          refine lv_goto (tgt := 43) hx hb dX11_turns_299 (by decide) ?_
                          exact ih43 ge z_65 g_64 _ _ _ (by omega) (by first | assumption | omega) (by first | assumption | omega) (by first | assumption | omega) (by first | assumption | omega) (by first | assumption | omega) hP hD hS (lv_sub hl [4, 5, 6, 7, 8, 9, 10, 0] rfl)
                        · refine lv_iconst (v := 0) hx hb dX11_turns_130 (by decide) ?_
                          refine lv_goto (tgt := 138) hx hb dX11_turns_131 (by decide) ?_
                          refine ma_7 (u := (6 * r_60.toInt)) hx hb hK hP hD hS dX11_turns_138 (e_61) (by omega) (fun g_66 H locs eg_66 hP hD hS => ?_)
                          have hz_67 : (0 : Int32).toInt = 0 := by decide
                          have hI6 : (6 * r_60.toInt) = 2 * (3 * r_60.toInt) := by omega
                          have hcx : CellX jn (0 : Int32) := ⟨by omega, by omega, by omega, by omega⟩
                          have hodd : (gc ((6 * r_60.toInt) + 1).toNat).toInt = 0 := by rw [show (6 * r_60.toInt) + 1 = 2 * (3 * r_60.toInt) + 1 by omega]; exact hO2 (by omega) (3 * r_60.toInt) (by omega) (by omega)
                          have hun : ∀ i9 : Int, 0 ≤ i9 → i9 ≠ (6 * r_60.toInt) → g_66 i9.toNat = gc i9.toNat := fun i9 h8 h9 => by rw [eg_66, un_i h8 (by omega) h9]
                          have hS3 : CellsX jn g_66 0 (6 * nn.toInt) := cx_set2 (x := (6 * r_60.toInt)) (k := 3 * r_60.toInt) hS2 (by omega) (by omega) (fun i9 h8 h9 _ => hun i9 h8 h9) (by rw [eg_66, pk_us]; exact hcx) (by rw [hun _ (by omega) (by omega)]; exact hS2.1 _ (by omega) (by omega)) (fun _ => by rw [hun _ (by omega) (by omega)]; exact hodd)
                          have hZ3 : ZX jn g_66 0 nn.toInt := fun b9 x9 b0 b1 x0 x1 => by rw [hun _ (by omega) (by omega)]; exact hZ2 b9 x9 b0 b1 x0 x1
                          have hO3 : what.toInt = 9 → ∀ k9 : Int, 0 ≤ k9 → 2 * k9 + 1 < 6 * nn.toInt → (g_66 (2 * k9 + 1).toNat).toInt = 0 := fun h7 k9 h8 h9 => by rw [hun _ (by omega) (by omega)]; exact hO2 h7 k9 h8 h9
                          refine lv_goto (tgt := 296) hx hb dX11_turns_139 (by decide) ?_
                          obtain ⟨z_68, q_68, e_68⟩ := i_inc (a := x.toInt) (1) (rfl) (by decide) (by omega) (by omega)
                          refine lv_iinc (v := z_68) (lv' := [(7, .int z_68), (10, .int z_58), (9, .int z_18), (8, .int z_17), (0, .ref mm), (1, .int what), (2, .int dd), (3, .int fro), (4, .int nn), (5, .int ge), (6, .int i)]) hx hb dX11_turns_296 hl (k := 10) rfl q_68 (by decide) rfl (fun ls hl => ?_)
                          refine lv_goto (tgt := 43) hx hb dX11_turns_299 (by decide) ?_
                          exact ih43 ge z_68 g_66 _ _ _ (by omega) (by first | assumption | omega) (by first | assumption | omega) (by first | assumption | omega) (by first | assumption | omega) (by first | assumption | omega) hP hD hS (lv_sub hl [4, 5, 6, 7, 8, 9, 10, 0] rfl)
                    · refine lv_iload hx hb dX11_turns_79 (lv_at hl 9 rfl) ?_
                      refine lv_iconst (v := 2) hx hb dX11_turns_81 (by decide) ?_
                      refine a_irem (u := x.toInt) (v := 2) hx hb dX11_turns_82 (rfl) (by decide) (by omega) (fun z_69 e_69 h_69 k_69 => ?_)
                      refine lv_iconst (v := 1) hx hb dX11_turns_83 (by decide) ?_
                      refine a_icmp_eq (u := z_69.toInt) (v := 1) (tgt := 296) hx hb dX11_turns_84 (by decide) (rfl) (by decide) (fun c_70 => ?_) (fun c_70 => ?_)
                      · obtain ⟨z_71, q_71, e_71⟩ := i_inc (a := x.toInt) (1) (rfl) (by decide) (by omega) (by omega)
                        refine lv_iinc (v := z_71) (lv' := [(7, .int z_71), (9, .int z_18), (8, .int z_17), (0, .ref mm), (1, .int what), (2, .int dd), (3, .int fro), (4, .int nn), (5, .int ge), (6, .int i)]) hx hb dX11_turns_296 hl (k := 9) rfl q_71 (by decide) rfl (fun ls hl => ?_)
                        refine lv_goto (tgt := 43) hx hb dX11_turns_299 (by decide) ?_
                        exact ih43 ge z_71 gc _ _ _ (by omega) (by first | assumption | omega) (by first | assumption | omega) (by first | assumption | omega) (by first | assumption | omega) (by first | assumption | omega) hP hD hS (lv_sub hl [3, 4, 5, 6, 7, 8, 9, 0] rfl)
                      · refine lv_iload hx hb dX11_turns_87 (lv_at hl 0 rfl) ?_
                        refine a_if_le (u := (x.toInt / 2)) (tgt := 95) hx hb dX11_turns_89 (by decide) (e_18) (fun c_72 => ?_) (fun c_72 => ?_)
                        · refine lv_iload_n hx hb dX11_turns_95 rfl (lv_at hl 3 rfl) ?_
                          refine lv_bipush (v := 9) hx hb dX11_turns_96 (by decide) ?_
                          refine a_icmp_ne (u := what.toInt) (v := 9) (tgt := 142) hx hb dX11_turns_98 (by decide) (rfl) (by decide) (fun c_73 => ?_) (fun c_73 => ?_)
                          · refine lv_iload hx hb dX11_turns_142 (lv_at hl 1 rfl) ?_
                            refine a_if_le (u := z_17.toInt) (tgt := 296) hx hb dX11_turns_144 (by decide) (rfl) (fun c_74 => ?_) (fun c_74 => ?_)
                            · obtain ⟨z_75, q_75, e_75⟩ := i_inc (a := x.toInt) (1) (rfl) (by decide) (by omega) (by omega)
                              refine lv_iinc (v := z_75) (lv' := [(7, .int z_75), (9, .int z_18), (8, .int z_17), (0, .ref mm), (1, .int what), (2, .int dd), (3, .int fro), (4, .int nn), (5, .int ge), (6, .int i)]) hx hb dX11_turns_296 hl (k := 9) rfl q_75 (by decide) rfl (fun ls hl => ?_)
                              refine lv_goto (tgt := 43) hx hb dX11_turns_299 (by decide) ?_
                              exact ih43 ge z_75 gc _ _ _ (by omega) (by first | assumption | omega) (by first | assumption | omega) (by first | assumption | omega) (by first | assumption | omega) (by first | assumption | omega) hP hD hS (lv_sub hl [3, 4, 5, 6, 7, 8, 9, 0] rfl)
                            · have join76 : ∀ (b10 : Int32) (H : Heap) (locs : List Loc) (ls : Array Slot), (0 ≤ b10.toInt ∧ b10.toInt < nn.toInt) → va_P D vwCl (mX mm q jn cI x0 x1 x2 x3 x4 x5 x6 x7 x8 x9 x10 x11 x12 x13 x14 x15 x16 x17 x18 x19 x20 f0 f1 f2 f3 f4 f5 f6 gc f8 f9 f10 f11 f12 f13 f14 f15 f16 f17 f18 f19 f20 f21 f22 f23 f24) H → va_D A (mX mm q jn cI x0 x1 x2 x3 x4 x5 x6 x7 x8 x9 x10 x11 x12 x13 x14 x15 x16 x17 x18 x19 x20 f0 f1 f2 f3 f4 f5 f6 gc f8 f9 f10 f11 f12 f13 f14 f15 f16 f17 f18 f19 f20 f21 f22 f23 f24) → va_S A s.heap H locs → lv_has ls 13 [(0, .ref mm), (1, .int what), (2, .int dd), (3, .int fro), (4, .int nn), (5, .int ge), (6, .int i), (7, .int x), (8, .int z_17), (9, .int z_18)] → W p l e ({ frames := 2, cells := 0, slots := 0, locals := 47 }) s m args below meth c H locs 0 0 Q (F0 m 189 ls [.int b10]) := by
                                intro b10 H locs ls hb10 hP hD hS hl
                                refine lv_istore (lv' := [(10, .int b10), (0, .ref mm), (1, .int what), (2, .int dd), (3, .int fro), (4, .int nn), (5, .int ge), (6, .int i), (7, .int x), (8, .int z_17), (9, .int z_18)]) hx hb dX11_turns_189 hl (by decide) rfl (fun ls hl => ?_)
                                have join77 : ∀ (by11 : Int32) (H : Heap) (locs : List Loc) (ls : Array Slot), (0 ≤ by11.toInt ∧ by11.toInt < (jn : Int)) → va_P D vwCl (mX mm q jn cI x0 x1 x2 x3 x4 x5 x6 x7 x8 x9 x10 x11 x12 x13 x14 x15 x16 x17 x18 x19 x20 f0 f1 f2 f3 f4 f5 f6 gc f8 f9 f10 f11 f12 f13 f14 f15 f16 f17 f18 f19 f20 f21 f22 f23 f24) H → va_D A (mX mm q jn cI x0 x1 x2 x3 x4 x5 x6 x7 x8 x9 x10 x11 x12 x13 x14 x15 x16 x17 x18 x19 x20 f0 f1 f2 f3 f4 f5 f6 gc f8 f9 f10 f11 f12 f13 f14 f15 f16 f17 f18 f19 f20 f21 f22 f23 f24) → va_S A s.heap H locs → lv_has ls 13 [(0, .ref mm), (1, .int what), (2, .int dd), (3, .int fro), (4, .int nn), (5, .int ge), (6, .int i), (7, .int x), (8, .int z_17), (9, .int z_18), (10, .int b10)] → W p l e ({ frames := 2, cells := 0, slots := 0, locals := 47 }) s m args below meth c H locs 0 0 Q (F0 m 224 ls [.int by11]) := by
                                  intro by11 H locs ls hb11 hP hD hS hl
                                  refine lv_istore (lv' := [(11, .int by11), (0, .ref mm), (1, .int what), (2, .int dd), (3, .int fro), (4, .int nn), (5, .int ge), (6, .int i), (7, .int x), (8, .int z_17), (9, .int z_18), (10, .int b10)]) hx hb dX11_turns_224 hl (by decide) rfl (fun ls hl => ?_)
                                  have join78 : ∀ (to12 : Int32) (H : Heap) (locs : List Loc) (ls : Array Slot), (0 ≤ to12.toInt ∧ to12.toInt < (jn : Int)) → va_P D vwCl (mX mm q jn cI x0 x1 x2 x3 x4 x5 x6 x7 x8 x9 x10 x11 x12 x13 x14 x15 x16 x17 x18 x19 x20 f0 f1 f2 f3 f4 f5 f6 gc f8 f9 f10 f11 f12 f13 f14 f15 f16 f17 f18 f19 f20 f21 f22 f23 f24) H → va_D A (mX mm q jn cI x0 x1 x2 x3 x4 x5 x6 x7 x8 x9 x10 x11 x12 x13 x14 x15 x16 x17 x18 x19 x20 f0 f1 f2 f3 f4 f5 f6 gc f8 f9 f10 f11 f12 f13 f14 f15 f16 f17 f18 f19 f20 f21 f22 f23 f24) → va_S A s.heap H locs → lv_has ls 13 [(0, .ref mm), (1, .int what), (2, .int dd), (3, .int fro), (4, .int nn), (5, .int ge), (6, .int i), (7, .int x), (8, .int z_17), (9, .int z_18), (10, .int b10), (11, .int by11)] → W p l e ({ frames := 2, cells := 0, slots := 0, locals := 47 }) s m args below meth c H locs 0 0 Q (F0 m 261 ls [.int to12]) := by
                                    intro to12 H locs ls hb12 hP hD hS hl
                                    refine lv_istore (lv' := [(12, .int to12), (0, .ref mm), (1, .int what), (2, .int dd), (3, .int fro), (4, .int nn), (5, .int ge), (6, .int i), (7, .int x), (8, .int z_17), (9, .int z_18), (10, .int b10), (11, .int by11)]) hx hb dX11_turns_261 hl (by decide) rfl (fun ls hl => ?_)
                                    refine lv_aload_n hx hb dX11_turns_263 rfl (lv_at hl 1 rfl) ?_
                                    refine lv_iload hx hb dX11_turns_264 (lv_at hl 11 rfl) ?_
                                    refine lv_iload hx hb dX11_turns_266 (lv_at hl 12 rfl) ?_
                                    refine lv_iload hx hb dX11_turns_268 (lv_at hl 9 rfl) ?_
                                    refine lv_iload hx hb dX11_turns_270 (lv_at hl 9 rfl) ?_
                                    refine lv_iconst (v := 4) hx hb dX11_turns_272 (by decide) ?_
                                    refine a_irem (u := z_17.toInt) (v := 4) hx hb dX11_turns_273 (rfl) (by decide) (by omega) (fun z_79 e_79 h_79 k_79 => ?_)
                                    refine a_isub (u := z_17.toInt) (v := z_79.toInt) hx hb dX11_turns_274 (rfl) (rfl) (by omega) (fun z_80 e_80 => ?_)
                                    refine lv_iload hx hb dX11_turns_275 (lv_at hl 0 rfl) ?_
                                    refine a_iadd (u := (z_17.toInt - z_79.toInt)) (v := to12.toInt) hx hb dX11_turns_277 (e_80) (rfl) (by omega) (fun z_81 e_81 => ?_)
                                    refine call_g (wr := []) (va_runV (As := [.int b10, .int by11, .int z_81]) (rest := []) ⟨hx, hb, hml, hown, hts⟩ (k_comes2 l D cI cR cM _ (hi := 6 * nn.toInt) (by first | assumption | omega) (by first | assumption | omega) (by first | assumption | omega) (⟨by omega, by omega, by omega, by omega⟩) (hS2) (by first | assumption | omega)) (cwV 3 hts gX11_turns_X11_comes rfl rfl rfl (by decide +kernel) ⟨Nat.le_of_ble_eq_true rfl, Nat.le_of_ble_eq_true rfl⟩) (pre_V hK hP hD 0 11 rfl rfl) rfl rfl hl.1 rfl (lv_room (Nat.le_of_ble_eq_true rfl)) dX11_turns_278 ⟨Nat.le_of_ble_eq_true rfl, Nat.le_of_ble_eq_true rfl⟩) hP hD hS hA [0, 1, 2, 3, 4, 5, 6, 7, 8, 9, 10, 11, 12, 13, 14, 15, 16, 17, 18, 19, 20, 21, 22, 23, 24, 25] [] (by with_unfolding_all rfl) rfl (by decide) (by decide) (fun u_82 H locs hw hP hD hS => ?_)
                                    obtain ⟨r_82, g7_82⟩ := u_82
                                    have hP : va_P D vwCl (mX mm q jn cI x0 x1 x2 x3 x4 x5 x6 x7 x8 x9 x10 x11 x12 x13 x14 x15 x16 x17 x18 x19 x20 f0 f1 f2 f3 f4 f5 f6 g7_82 f8 f9 f10 f11 f12 f13 f14 f15 f16 f17 f18 f19 f20 f21 f22 f23 f24) H := hP
                                    have hD : va_D A (mX mm q jn cI x0 x1 x2 x3 x4 x5 x6 x7 x8 x9 x10 x11 x12 x13 x14 x15 x16 x17 x18 x19 x20 f0 f1 f2 f3 f4 f5 f6 g7_82 f8 f9 f10 f11 f12 f13 f14 f15 f16 f17 f18 f19 f20 f21 f22 f23 f24) := hD
                                    obtain ⟨h_82, hC_82, hz_82⟩ : (r_82.toInt = 0 ∨ r_82.toInt = 1) ∧ (CellsX jn g7_82 0 (6 * nn.toInt)) ∧ (∀ i : Int, 0 ≤ i → i ≠ (6 * b10.toInt + 2 * by11.toInt) → i ≠ (6 * b10.toInt + 2 * by11.toInt) + 1 → g7_82 i.toNat = gc i.toNat) := hw
                                    have hZ3 : ZX jn g7_82 0 nn.toInt := fun b9 x9 b0 b1 x0 x1 => by rw [hz_82 _ (by omega) (by omega) (by omega)]; exact hZ2 b9 x9 b0 b1 x0 x1
                                    have hO3 : what.toInt = 9 → ∀ k9 : Int, 0 ≤ k9 → 2 * k9 + 1 < 6 * nn.toInt → (g7_82 (2 * k9 + 1).toNat).toInt = 0 := fun h9 => absurd h9 (by omega)
                                    refine a_if_eq (u := r_82.toInt) (tgt := 293) hx hb dX11_turns_281 (by decide) (rfl) (fun c_83 => ?_) (fun c_83 => ?_)
                                    · refine lv_iconst (v := 0) hx hb dX11_turns_293 (by decide) ?_
                                      refine lv_istore (lv' := [(5, .int 0), (12, .int to12), (0, .ref mm), (1, .int what), (2, .int dd), (3, .int fro), (4, .int nn), (6, .int i), (7, .int x), (8, .int z_17), (9, .int z_18), (10, .int b10), (11, .int by11)]) hx hb dX11_turns_294 hl (by decide) rfl (fun ls hl => ?_)
                                      obtain ⟨z_84, q_84, e_84⟩ := i_inc (a := x.toInt) (1) (rfl) (by decide) (by omega) (by omega)
                                      refine lv_iinc (v := z_84) (lv' := [(7, .int z_84), (5, .int 0), (12, .int to12), (0, .ref mm), (1, .int what), (2, .int dd), (3, .int fro), (4, .int nn), (6, .int i), (8, .int z_17), (9, .int z_18), (10, .int b10), (11, .int by11)]) hx hb dX11_turns_296 hl (k := 8) rfl q_84 (by decide) rfl (fun ls hl => ?_)
                                      refine lv_goto (tgt := 43) hx hb dX11_turns_299 (by decide) ?_
                                      have hz_85 : (0 : Int32).toInt = 0 := by decide
                                      exact ih43 (0 : Int32) z_84 g7_82 _ _ _ (by omega) (by first | assumption | omega) (by first | assumption | omega) (by first | assumption | omega) (by first | assumption | omega) (by first | assumption | omega) hP hD hS (lv_sub hl [3, 4, 5, 6, 7, 1, 8, 0] rfl)
                                    · refine lv_iload hx hb dX11_turns_284 (lv_at hl 6 rfl) ?_
                                      refine a_if_eq (u := ge.toInt) (tgt := 293) hx hb dX11_turns_286 (by decide) (rfl) (fun c_86 => ?_) (fun c_86 => ?_)
                                      · refine lv_iconst (v := 0) hx hb dX11_turns_293 (by decide) ?_
                                        refine lv_istore (lv' := [(5, .int 0), (12, .int to12), (0, .ref mm), (1, .int what), (2, .int dd), (3, .int fro), (4, .int nn), (6, .int i), (7, .int x), (8, .int z_17), (9, .int z_18), (10, .int b10), (11, .int by11)]) hx hb dX11_turns_294 hl (by decide) rfl (fun ls hl => ?_)
                                        obtain ⟨z_87, q_87, e_87⟩ := i_inc (a := x.toInt) (1) (rfl) (by decide) (by omega) (by omega)
                                        refine lv_iinc (v := z_87) (lv' := [(7, .int z_87), (5, .int 0), (12, .int to12), (0, .ref mm), (1, .int what), (2, .int dd), (3, .int fro), (4, .int nn), (6, .int i), (8, .int z_17), (9, .int z_18), (10, .int b10), (11, .int by11)]) hx hb dX11_turns_296 hl (k := 8) rfl q_87 (by decide) rfl (fun ls hl => ?_)
                                        refine lv_goto (tgt := 43) hx hb dX11_turns_299 (by decide) ?_
                                        have hz_88 : (0 : Int32).toInt = 0 := by decide
                                        exact ih43 (0 : Int32) z_87 g7_82 _ _ _ (by omega) (by first | assumption | omega) (by first | assumption | omega) (by first | assumption | omega) (by first | assumption | omega) (by first | assumption | omega) hP hD hS (lv_sub hl [3, 4, 5, 6, 7, 1, 8, 0] rfl)
                                      · refine lv_iconst (v := 1) hx hb dX11_turns_289 (by decide) ?_
                                        refine lv_goto (tgt := 294) hx hb dX11_turns_290 (by decide) ?_
                                        refine lv_istore (lv' := [(5, .int 1), (12, .int to12), (0, .ref mm), (1, .int what), (2, .int dd), (3, .int fro), (4, .int nn), (6, .int i), (7, .int x), (8, .int z_17), (9, .int z_18), (10, .int b10), (11, .int by11)]) hx hb dX11_turns_294 hl (by decide) rfl (fun ls hl => ?_)
                                        obtain ⟨z_89, q_89, e_89⟩ := i_inc (a := x.toInt) (1) (rfl) (by decide) (by omega) (by omega)
                                        refine lv_iinc (v := z_89) (lv' := [(7, .int z_89), (5, .int 1), (12, .int to12), (0, .ref mm), (1, .int what), (2, .int dd), (3, .int fro), (4, .int nn), (6, .int i), (8, .int z_17), (9, .int z_18), (10, .int b10), (11, .int by11)]) hx hb dX11_turns_296 hl (k := 8) rfl q_89 (by decide) rfl (fun ls hl => ?_)
                                        refine lv_goto (tgt := 43) hx hb dX11_turns_299 (by decide) ?_
                                        have hz_90 : (1 : Int32).toInt = 1 := by decide
                                        exact ih43 (1 : Int32) z_89 g7_82 _ _ _ (by omega) (by first | assumption | omega) (by first | assumption | omega) (by first | assumption | omega) (by first | assumption | omega) (by first | assumption | omega) hP hD hS (lv_sub hl [3, 4, 5, 6, 7, 1, 8, 0] rfl)
                                  refine lv_iload_n hx hb dX11_turns_226 rfl (lv_at hl 2 rfl) ?_
                                  refine lv_bipush (v := 7) hx hb dX11_turns_227 (by decide) ?_
                                  refine a_icmp_ne (u := what.toInt) (v := 7) (tgt := 237) hx hb dX11_turns_229 (by decide) (rfl) (by decide) (fun c_91 => ?_) (fun c_91 => ?_)
                                  · refine lv_iload_n hx hb dX11_turns_237 rfl (lv_at hl 2 rfl) ?_
                                    refine lv_bipush (v := 8) hx hb dX11_turns_238 (by decide) ?_
                                    refine a_icmp_ne (u := what.toInt) (v := 8) (tgt := 257) hx hb dX11_turns_240 (by decide) (rfl) (by decide) (fun c_92 => ?_) (fun c_92 => ?_)
                                    · refine lv_iload hx hb dX11_turns_257 (lv_at hl 9 rfl) ?_
                                      refine lv_iconst (v := 4) hx hb dX11_turns_259 (by decide) ?_
                                      refine a_irem (u := z_17.toInt) (v := 4) hx hb dX11_turns_260 (rfl) (by decide) (by omega) (fun z_93 e_93 h_93 k_93 => ?_)
                                      exact join78 z_93 _ _ _ (by first | assumption | omega) hP hD hS (lv_sub hl [1, 2, 3, 4, 5, 6, 7, 8, 9, 10, 11, 0] rfl)
                                    · refine lv_iload hx hb dX11_turns_243 (lv_at hl 9 rfl) ?_
                                      refine lv_iconst (v := 4) hx hb dX11_turns_245 (by decide) ?_
                                      refine a_irem (u := z_17.toInt) (v := 4) hx hb dX11_turns_246 (rfl) (by decide) (by omega) (fun z_94 e_94 h_94 k_94 => ?_)
                                      refine lv_iconst (v := 1) hx hb dX11_turns_247 (by decide) ?_
                                      refine a_iadd (u := z_94.toInt) (v := 1) hx hb dX11_turns_248 (rfl) (by decide) (by omega) (fun z_95 e_95 => ?_)
                                      refine lv_aload_n hx hb dX11_turns_249 rfl (lv_at hl 1 rfl) ?_
                                      refine va_get (D := D) (ci := 11) (v := .int (nI jn)) (C := RX11) (T := TX11) (N := 47) hx hb hts (by decide +kernel) hown hK.1 hP 0 rfl rfl 0 (by decide) (hts (.fieldLink RX11 93 "JugglingHallModel" "jugglers" "I") (by decide +kernel)) (fun _ h9 => h9) rfl dX11_turns_250 ?_
                                      refine a_irem (u := (z_94.toInt + 1)) (v := (jn : Int)) hx hb dX11_turns_253 (e_95) (nI_toInt (by omega)) (by omega) (fun z_96 e_96 h_96 k_96 => ?_)
                                      refine lv_goto (tgt := 261) hx hb dX11_turns_254 (by decide) ?_
                                      exact join78 z_96 _ _ _ (by first | assumption | omega) hP hD hS (lv_sub hl [1, 2, 3, 4, 5, 6, 7, 8, 9, 10, 11, 0] rfl)
                                  · refine lv_iload hx hb dX11_turns_232 (lv_at hl 10 rfl) ?_
                                    refine lv_goto (tgt := 261) hx hb dX11_turns_234 (by decide) ?_
                                    exact join78 z_18 _ _ _ (by first | assumption | omega) hP hD hS (lv_sub hl [1, 2, 3, 4, 5, 6, 7, 8, 9, 10, 11, 0] rfl)
                                refine lv_iload_n hx hb dX11_turns_191 rfl (lv_at hl 2 rfl) ?_
                                refine lv_bipush (v := 7) hx hb dX11_turns_192 (by decide) ?_
                                refine a_icmp_ne (u := what.toInt) (v := 7) (tgt := 204) hx hb dX11_turns_194 (by decide) (rfl) (by decide) (fun c_97 => ?_) (fun c_97 => ?_)
                                · refine lv_iload_n hx hb dX11_turns_204 rfl (lv_at hl 2 rfl) ?_
                                  refine lv_bipush (v := 8) hx hb dX11_turns_205 (by decide) ?_
                                  refine a_icmp_ne (u := what.toInt) (v := 8) (tgt := 222) hx hb dX11_turns_207 (by decide) (rfl) (by decide) (fun c_98 => ?_) (fun c_98 => ?_)
                                  · refine lv_iload hx hb dX11_turns_222 (lv_at hl 10 rfl) ?_
                                    exact join77 z_18 _ _ _ (by first | assumption | omega) hP hD hS (lv_sub hl [1, 2, 3, 4, 5, 6, 7, 8, 9, 10, 0] rfl)
                                  · refine lv_iload hx hb dX11_turns_210 (lv_at hl 10 rfl) ?_
                                    refine lv_iconst (v := 1) hx hb dX11_turns_212 (by decide) ?_
                                    refine a_iadd (u := (x.toInt / 2)) (v := 1) hx hb dX11_turns_213 (e_18) (by decide) (by omega) (fun z_99 e_99 => ?_)
                                    refine lv_aload_n hx hb dX11_turns_214 rfl (lv_at hl 1 rfl) ?_
                                    refine va_get (D := D) (ci := 11) (v := .int (nI jn)) (C := RX11) (T := TX11) (N := 47) hx hb hts (by decide +kernel) hown hK.1 hP 0 rfl rfl 0 (by decide) (hts (.fieldLink RX11 93 "JugglingHallModel" "jugglers" "I") (by decide +kernel)) (fun _ h9 => h9) rfl dX11_turns_215 ?_
                                    refine a_irem (u := ((x.toInt / 2) + 1)) (v := (jn : Int)) hx hb dX11_turns_218 (e_99) (nI_toInt (by omega)) (by omega) (fun z_100 e_100 h_100 k_100 => ?_)
                                    refine lv_goto (tgt := 224) hx hb dX11_turns_219 (by decide) ?_
                                    exact join77 z_100 _ _ _ (by first | assumption | omega) hP hD hS (lv_sub hl [1, 2, 3, 4, 5, 6, 7, 8, 9, 10, 0] rfl)
                                · refine lv_iload hx hb dX11_turns_197 (lv_at hl 9 rfl) ?_
                                  refine lv_iconst (v := 4) hx hb dX11_turns_199 (by decide) ?_
                                  refine a_irem (u := z_17.toInt) (v := 4) hx hb dX11_turns_200 (rfl) (by decide) (by omega) (fun z_101 e_101 h_101 k_101 => ?_)
                                  refine lv_goto (tgt := 224) hx hb dX11_turns_201 (by decide) ?_
                                  exact join77 z_101 _ _ _ (by first | assumption | omega) hP hD hS (lv_sub hl [1, 2, 3, 4, 5, 6, 7, 8, 9, 10, 0] rfl)
                              refine lv_iload_n hx hb dX11_turns_147 rfl (lv_at hl 3 rfl) ?_
                              refine lv_bipush (v := 7) hx hb dX11_turns_148 (by decide) ?_
                              refine a_icmp_ne (u := what.toInt) (v := 7) (tgt := 169) hx hb dX11_turns_150 (by decide) (rfl) (by decide) (fun c_102 => ?_) (fun c_102 => ?_)
                              · refine lv_iload_n hx hb dX11_turns_169 rfl (lv_at hl 3 rfl) ?_
                                refine lv_bipush (v := 10) hx hb dX11_turns_170 (by decide) ?_
                                refine a_icmp_ne (u := what.toInt) (v := 10) (tgt := 187) hx hb dX11_turns_172 (by decide) (rfl) (by decide) (fun c_103 => ?_) (fun c_103 => ?_)
                                · refine lv_iload hx hb dX11_turns_187 (lv_at hl 8 rfl) ?_
                                  exact join76 i _ _ _ (by first | assumption | omega) hP hD hS (lv_sub hl [2, 3, 4, 5, 6, 7, 8, 9, 1, 0] rfl)
                                · refine lv_iload hx hb dX11_turns_175 (lv_at hl 8 rfl) ?_
                                  refine lv_iload_n hx hb dX11_turns_177 rfl (lv_at hl 4 rfl) ?_
                                  refine a_isub (u := i.toInt) (v := dd.toInt) hx hb dX11_turns_178 (rfl) (rfl) (by omega) (fun z_104 e_104 => ?_)
                                  refine lv_iload hx hb dX11_turns_179 (lv_at hl 6 rfl) ?_
                                  refine roP (va_runS (As := [.int z_104, .int nn]) (rest := []) ⟨hx, hb, hml, hown, hts⟩ (k_mod l D cI cR cM _  (by first | assumption | omega) (by first | assumption | omega)) (va_cwS 2 hts gX11_turns_X11_mod rfl rfl rfl (by decide +kernel) ⟨Nat.le_of_ble_eq_true rfl, Nat.le_of_ble_eq_true rfl⟩) (pre_S hK va_P_nil (va_D_nil (A := fun _ => True))) rfl rfl hl.1 rfl (lv_room (Nat.le_of_ble_eq_true rfl)) dX11_turns_181 ⟨Nat.le_of_ble_eq_true rfl, Nat.le_of_ble_eq_true rfl⟩) hS hA hP (fun r_105 H locs hw hP hS => ?_)
                                  have h_105 : (0 ≤ r_105.toInt ∧ r_105.toInt < nn.toInt) := hw
                                  refine lv_goto (tgt := 189) hx hb dX11_turns_184 (by decide) ?_
                                  exact join76 r_105 _ _ _ (by first | assumption | omega) hP hD hS (lv_sub hl [2, 3, 4, 5, 6, 7, 8, 9, 1, 0] rfl)
                              · refine lv_iload hx hb dX11_turns_153 (lv_at hl 8 rfl) ?_
                                refine lv_iload hx hb dX11_turns_155 (lv_at hl 1 rfl) ?_
                                refine lv_iconst (v := 4) hx hb dX11_turns_157 (by decide) ?_
                                refine a_idiv (u := z_17.toInt) (v := 4) hx hb dX11_turns_158 (rfl) (by decide) (by omega) (fun z_106 e_106 => ?_)
                                refine a_iadd (u := i.toInt) (v := (z_17.toInt / 4)) hx hb dX11_turns_159 (rfl) (e_106) (by omega) (fun z_107 e_107 => ?_)
                                refine a_ineg (u := (i.toInt + (z_17.toInt / 4))) hx hb dX11_turns_160 (e_107) (by omega) (fun z_108 e_108 => ?_)
                                refine lv_iload hx hb dX11_turns_161 (lv_at hl 6 rfl) ?_
                                refine roP (va_runS (As := [.int z_108, .int nn]) (rest := []) ⟨hx, hb, hml, hown, hts⟩ (k_mod l D cI cR cM _  (by first | assumption | omega) (by first | assumption | omega)) (va_cwS 2 hts gX11_turns_X11_mod rfl rfl rfl (by decide +kernel) ⟨Nat.le_of_ble_eq_true rfl, Nat.le_of_ble_eq_true rfl⟩) (pre_S hK va_P_nil (va_D_nil (A := fun _ => True))) rfl rfl hl.1 rfl (lv_room (Nat.le_of_ble_eq_true rfl)) dX11_turns_163 ⟨Nat.le_of_ble_eq_true rfl, Nat.le_of_ble_eq_true rfl⟩) hS hA hP (fun r_109 H locs hw hP hS => ?_)
                                have h_109 : (0 ≤ r_109.toInt ∧ r_109.toInt < nn.toInt) := hw
                                refine lv_goto (tgt := 189) hx hb dX11_turns_166 (by decide) ?_
                                exact join76 r_109 _ _ _ (by first | assumption | omega) hP hD hS (lv_sub hl [2, 3, 4, 5, 6, 7, 8, 9, 1, 0] rfl)
                          · refine lv_bipush (v := 9) hx hb dX11_turns_101 (by decide) ?_
                            refine lv_iload hx hb dX11_turns_103 (lv_at hl 1 rfl) ?_
                            refine lv_iconst (v := 4) hx hb dX11_turns_105 (by decide) ?_
                            refine a_idiv (u := z_17.toInt) (v := 4) hx hb dX11_turns_106 (rfl) (by decide) (by omega) (fun z_110 e_110 => ?_)
                            refine a_isub (u := 9) (v := (z_17.toInt / 4)) hx hb dX11_turns_107 (by decide) (e_110) (by omega) (fun z_111 e_111 => ?_)
                            refine lv_istore (lv' := [(10, .int z_111), (9, .int z_18), (8, .int z_17), (0, .ref mm), (1, .int what), (2, .int dd), (3, .int fro), (4, .int nn), (5, .int ge), (6, .int i), (7, .int x)]) hx hb dX11_turns_108 hl (by decide) rfl (fun ls hl => ?_)
                            refine lv_aload_n hx hb dX11_turns_110 rfl (lv_at hl 3 rfl) ?_
                            refine va_get (D := D) (ci := 11) (v := .ref (q 7)) (C := RX11) (T := TX11) (N := 47) hx hb hts (by decide +kernel) hown hK.1 hP 0 rfl rfl 18 (by decide) (hts (.fieldLink RX11 39 "JugglingHallModel" "spare" "[I") (by decide +kernel)) (fun _ h9 => h9) rfl dX11_turns_111 ?_
                            refine lv_bipush (v := 6) hx hb dX11_turns_114 (by decide) ?_
                            refine lv_iload hx hb dX11_turns_116 (lv_at hl 9 rfl) ?_
                            refine a_ineg (u := i.toInt) hx hb dX11_turns_118 (rfl) (by omega) (fun z_112 e_112 => ?_)
                            refine lv_iload hx hb dX11_turns_119 (lv_at hl 7 rfl) ?_
                            refine roP (va_runS (As := [.int z_112, .int nn]) (rest := [.int 6, .ref (q 7)]) ⟨hx, hb, hml, hown, hts⟩ (k_mod l D cI cR cM _  (by first | assumption | omega) (by first | assumption | omega)) (va_cwS 2 hts gX11_turns_X11_mod rfl rfl rfl (by decide +kernel) ⟨Nat.le_of_ble_eq_true rfl, Nat.le_of_ble_eq_true rfl⟩) (pre_S hK va_P_nil (va_D_nil (A := fun _ => True))) rfl rfl hl.1 rfl (lv_room (Nat.le_of_ble_eq_true rfl)) dX11_turns_121 ⟨Nat.le_of_ble_eq_true rfl, Nat.le_of_ble_eq_true rfl⟩) hS hA hP (fun r_113 H locs hw hP hS => ?_)
                            have h_113 : (0 ≤ r_113.toInt ∧ r_113.toInt < nn.toInt) := hw
                            refine a_imul (u := 6) (v := r_113.toInt) hx hb dX11_turns_124 (by decide) (rfl) (by omega) (fun z_114 e_114 => ?_)
                            refine lv_iload hx hb dX11_turns_125 (lv_at hl 0 rfl) ?_
                            refine a_if_ne (u := (9 - (z_17.toInt / 4))) (tgt := 134) hx hb dX11_turns_127 (by decide) (e_111) (fun c_115 => ?_) (fun c_115 => ?_)
                            · refine lv_iconst (v := 4) hx hb dX11_turns_134 (by decide) ?_
                              refine lv_iload hx hb dX11_turns_135 (lv_at hl 0 rfl) ?_
                              refine a_imul (u := 4) (v := (9 - (z_17.toInt / 4))) hx hb dX11_turns_137 (by decide) (e_111) (by omega) (fun z_116 e_116 => ?_)
                              refine ma_7 (u := (6 * r_113.toInt)) hx hb hK hP hD hS dX11_turns_138 (e_114) (by omega) (fun g_117 H locs eg_117 hP hD hS => ?_)
                              have hI6 : (6 * r_113.toInt) = 2 * (3 * r_113.toInt) := by omega
                              have hcx : CellX jn z_116 := ⟨by omega, by omega, by omega, by omega⟩
                              have hodd : (gc ((6 * r_113.toInt) + 1).toNat).toInt = 0 := by rw [show (6 * r_113.toInt) + 1 = 2 * (3 * r_113.toInt) + 1 by omega]; exact hO2 (by omega) (3 * r_113.toInt) (by omega) (by omega)
                              have hun : ∀ i9 : Int, 0 ≤ i9 → i9 ≠ (6 * r_113.toInt) → g_117 i9.toNat = gc i9.toNat := fun i9 h8 h9 => by rw [eg_117, un_i h8 (by omega) h9]
                              have hS3 : CellsX jn g_117 0 (6 * nn.toInt) := cx_set2 (x := (6 * r_113.toInt)) (k := 3 * r_113.toInt) hS2 (by omega) (by omega) (fun i9 h8 h9 _ => hun i9 h8 h9) (by rw [eg_117, pk_us]; exact hcx) (by rw [hun _ (by omega) (by omega)]; exact hS2.1 _ (by omega) (by omega)) (fun _ => by rw [hun _ (by omega) (by omega)]; exact hodd)
                              have hZ3 : ZX jn g_117 0 nn.toInt := fun b9 x9 b0 b1 x0 x1 => by rw [hun _ (by omega) (by omega)]; exact hZ2 b9 x9 b0 b1 x0 x1
                              have hO3 : what.toInt = 9 → ∀ k9 : Int, 0 ≤ k9 → 2 * k9 + 1 < 6 * nn.toInt → (g_117 (2 * k9 + 1).toNat).toInt = 0 := fun h7 k9 h8 h9 => by rw [hun _ (by omega) (by omega)]; exact hO2 h7 k9 h8 h9
                              refine lv_goto (tgt := 296) hx hb dX11_turns_139 (by decide) ?_
                              obtain ⟨z_118, q_118, e_118⟩ := i_inc (a := x.toInt) (1) (rfl) (by decide) (by omega) (by omega)
                              refine lv_iinc (v := z_118) (lv' := [(7, .int z_118), (10, .int z_111), (9, .int z_18), (8, .int z_17), (0, .ref mm), (1, .int what), (2, .int dd), (3, .int fro), (4, .int nn), (5, .int ge), (6, .int i)]) hx hb dX11_turns_296 hl (k := 10) rfl q_118 (by decide) rfl (fun ls hl => ?_)
                              refine lv_goto (tgt := 43) hx hb dX11_turns_299 (by decide) ?_
                              exact ih43 ge z_118 g_117 _ _ _ (by omega) (by first | assumption | omega) (by first | assumption | omega) (by first | assumption | omega) (by first | assumption | omega) (by first | assumption | omega) hP hD hS (lv_sub hl [4, 5, 6, 7, 8, 9, 10, 0] rfl)
                            · refine lv_iconst (v := 0) hx hb dX11_turns_130 (by decide) ?_
                              refine lv_goto (tgt := 138) hx hb dX11_turns_131 (by decide) ?_
                              refine ma_7 (u := (6 * r_113.toInt)) hx hb hK hP hD hS dX11_turns_138 (e_114) (by omega) (fun g_119 H locs eg_119 hP hD hS => ?_)
                              have hz_120 : (0 : Int32).toInt = 0 := by decide
                              have hI6 : (6 * r_113.toInt) = 2 * (3 * r_113.toInt) := by omega
                              have hcx : CellX jn (0 : Int32) := ⟨by omega, by omega, by omega, by omega⟩
                              have hodd : (gc ((6 * r_113.toInt) + 1).toNat).toInt = 0 := by rw [show (6 * r_113.toInt) + 1 = 2 * (3 * r_113.toInt) + 1 by omega]; exact hO2 (by omega) (3 * r_113.toInt) (by omega) (by omega)
                              have hun : ∀ i9 : Int, 0 ≤ i9 → i9 ≠ (6 * r_113.toInt) → g_119 i9.toNat = gc i9.toNat := fun i9 h8 h9 => by rw [eg_119, un_i h8 (by omega) h9]
                              have hS3 : CellsX jn g_119 0 (6 * nn.toInt) := cx_set2 (x := (6 * r_113.toInt)) (k := 3 * r_113.toInt) hS2 (by omega) (by omega) (fun i9 h8 h9 _ => hun i9 h8 h9) (by rw [eg_119, pk_us]; exact hcx) (by rw [hun _ (by omega) (by omega)]; exact hS2.1 _ (by omega) (by omega)) (fun _ => by rw [hun _ (by omega) (by omega)]; exact hodd)
                              have hZ3 : ZX jn g_119 0 nn.toInt := fun b9 x9 b0 b1 x0 x1 => by rw [hun _ (by omega) (by omega)]; exact hZ2 b9 x9 b0 b1 x0 x1
                              have hO3 : what.toInt = 9 → ∀ k9 : Int, 0 ≤ k9 → 2 * k9 + 1 < 6 * nn.toInt → (g_119 (2 * k9 + 1).toNat).toInt = 0 := fun h7 k9 h8 h9 => by rw [hun _ (by omega) (by omega)]; exact hO2 h7 k9 h8 h9
                              refine lv_goto (tgt := 296) hx hb dX11_turns_139 (by decide) ?_
                              obtain ⟨z_121, q_121, e_121⟩ := i_inc (a := x.toInt) (1) (rfl) (by decide) (by omega) (by omega)
                              refine lv_iinc (v := z_121) (lv' := [(7, .int z_121), (10, .int z_111), (9, .int z_18), (8, .int z_17), (0, .ref mm), (1, .int what), (2, .int dd), (3, .int fro), (4, .int nn), (5, .int ge), (6, .int i)]) hx hb dX11_turns_296 hl (k := 10) rfl q_121 (by decide) rfl (fun ls hl => ?_)
                              refine lv_goto (tgt := 43) hx hb dX11_turns_299 (by decide) ?_
                              exact ih43 ge z_121 g_119 _ _ _ (by omega) (by first | assumption | omega) (by first | assumption | omega) (by first | assumption | omega) (by first | assumption | omega) (by first | assumption | omega) hP hD hS (lv_sub hl [4, 5, 6, 7, 8, 9, 10, 0] rfl)
                        · refine lv_goto (tgt := 296) hx hb dX11_turns_92 (by decide) ?_
                          obtain ⟨z_122, q_122, e_122⟩ := i_inc (a := x.toInt) (1) (rfl) (by decide) (by omega) (by omega)
                          refine lv_iinc (v := z_122) (lv' := [(7, .int z_122), (9, .int z_18), (8, .int z_17), (0, .ref mm), (1, .int what), (2, .int dd), (3, .int fro), (4, .int nn), (5, .int ge), (6, .int i)]) hx hb dX11_turns_296 hl (k := 9) rfl q_122 (by decide) rfl (fun ls hl => ?_)
                          refine lv_goto (tgt := 43) hx hb dX11_turns_299 (by decide) ?_
                          exact ih43 ge z_122 gc _ _ _ (by omega) (by first | assumption | omega) (by first | assumption | omega) (by first | assumption | omega) (by first | assumption | omega) (by first | assumption | omega) hP hD hS (lv_sub hl [3, 4, 5, 6, 7, 8, 9, 0] rfl)
              have hz_123 : (0 : Int32).toInt = 0 := by decide
              exact loop43 ((6 - (0 : Int32).toInt).toNat + 1) gd (0 : Int32) gb _ _ _ (by omega) (by first | assumption | omega) (by first | assumption | omega) (by first | assumption | omega) (by first | assumption | omega) (by first | assumption | omega) hP hD hS (lv_sub hl [1, 2, 3, 4, 5, 6, 7, 0] rfl)
        have hz_124 : (1 : Int32).toInt = 1 := by decide
        have hz_125 : (0 : Int32).toInt = 0 := by decide
        exact loop33 ((nn.toInt - (0 : Int32).toInt).toNat + 1) (1 : Int32) (0 : Int32) ga _ _ _ (by omega) (by first | assumption | omega) (by first | assumption | omega) (by first | assumption | omega) (by first | assumption | omega) (by first | assumption | omega) hP hD hS (lv_sub hl [2, 3, 4, 5, 6, 1, 0] rfl)
      · refine lv_aload_n hx hb dX11_turns_13 rfl (lv_at hl 0 rfl) ?_
        refine va_get (D := D) (ci := 11) (v := .ref (q 7)) (C := RX11) (T := TX11) (N := 47) hx hb hts (by decide +kernel) hown hK.1 hP 0 rfl rfl 18 (by decide) (hts (.fieldLink RX11 39 "JugglingHallModel" "spare" "[I") (by decide +kernel)) (fun _ h9 => h9) rfl dX11_turns_14 ?_
        refine lv_iload hx hb dX11_turns_17 (lv_at hl 5 rfl) ?_
        refine lv_iconst (v := 0) hx hb dX11_turns_19 (by decide) ?_
        refine ma_7 (u := k.toInt) hx hb hK hP hD hS dX11_turns_20 (rfl) (by omega) (fun g_126 H locs eg_126 hP hD hS => ?_)
        obtain ⟨z_127, q_127, e_127⟩ := i_inc (a := k.toInt) (1) (rfl) (by decide) (by omega) (by omega)
        refine lv_iinc (v := z_127) (lv' := [(5, .int z_127), (0, .ref mm), (1, .int what), (2, .int dd), (3, .int fro), (4, .int nn)]) hx hb dX11_turns_21 hl (k := 5) rfl q_127 (by decide) rfl (fun ls hl => ?_)
        refine lv_goto (tgt := 3) hx hb dX11_turns_24 (by decide) ?_
        exact ih3 z_127 g_126 _ _ _ (by omega) (by first | assumption | omega) (fun i9 h8 h9 => by
          by_cases q : i9 = k.toInt
          · rw [eg_126, q, pk_us]; decide
          · rw [eg_126, un_i (by omega) (by omega) (by omega)]; exact hz0 i9 h8 (by omega)) hP hD hS (lv_sub hl [1, 2, 3, 4, 5, 0] rfl)
  have hz_128 : (0 : Int32).toInt = 0 := by decide
  exact loop3 ((6 * nn.toInt - (0 : Int32).toInt).toNat + 1) (0 : Int32) f7 _ _ _ (by omega) (by first | assumption | omega) (fun i9 h8 h9 => absurd h9 (by omega)) hP hD hS (lv_sub hl [1, 2, 3, 4, 5, 0] rfl)
