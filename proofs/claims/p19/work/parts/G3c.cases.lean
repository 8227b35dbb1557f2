theorem dL_law_247 : decode cL_law 247 = .ok (.aload_n 1, 1) := by decide +kernel
theorem dL_law_248 : decode cL_law 248 = .ok (.aload_n 0, 1) := by decide +kernel
theorem dL_law_249 : decode cL_law 249 = .ok (.iload_n 3, 1) := by decide +kernel
theorem dL_law_250 : decode cL_law 250 = .ok (.iconst 1, 1) := by decide +kernel
theorem dL_law_251 : decode cL_law 251 = .ok (.iadd, 1) := by decide +kernel
theorem dL_law_252 : decode cL_law 252 = .ok (.iaload, 1) := by decide +kernel
theorem dL_law_253 : decode cL_law 253 = .ok (.invokevirtual 36, 3) := by decide +kernel
theorem dL_law_256 : decode cL_law 256 = .ok (.pop, 1) := by decide +kernel
theorem dL_law_257 : decode cL_law 257 = .ok (.aload_n 2, 1) := by decide +kernel
theorem dL_law_258 : decode cL_law 258 = .ok (.aload_n 0, 1) := by decide +kernel
theorem dL_law_259 : decode cL_law 259 = .ok (.iload_n 3, 1) := by decide +kernel
theorem dL_law_260 : decode cL_law 260 = .ok (.iconst 1, 1) := by decide +kernel
theorem dL_law_261 : decode cL_law 261 = .ok (.iadd, 1) := by decide +kernel
theorem dL_law_262 : decode cL_law 262 = .ok (.iaload, 1) := by decide +kernel
theorem dL_law_263 : decode cL_law 263 = .ok (.invokevirtual 39, 3) := by decide +kernel
theorem dL_law_266 : decode cL_law 266 = .ok (.pop, 1) := by decide +kernel
theorem dL_law_267 : decode cL_law 267 = .ok (.goto 680, 3) := by decide +kernel
theorem dL_law_270 : decode cL_law 270 = .ok (.aload_n 1, 1) := by decide +kernel
theorem dL_law_271 : decode cL_law 271 = .ok (.aload_n 0, 1) := by decide +kernel
theorem dL_law_272 : decode cL_law 272 = .ok (.iload_n 3, 1) := by decide +kernel
theorem dL_law_273 : decode cL_law 273 = .ok (.iconst 1, 1) := by decide +kernel
theorem dL_law_274 : decode cL_law 274 = .ok (.iadd, 1) := by decide +kernel
theorem dL_law_275 : decode cL_law 275 = .ok (.iaload, 1) := by decide +kernel
theorem dL_law_276 : decode cL_law 276 = .ok (.invokevirtual 40, 3) := by decide +kernel
theorem dL_law_279 : decode cL_law 279 = .ok (.pop, 1) := by decide +kernel
theorem dL_law_280 : decode cL_law 280 = .ok (.aload_n 2, 1) := by decide +kernel
theorem dL_law_281 : decode cL_law 281 = .ok (.aload_n 0, 1) := by decide +kernel
theorem dL_law_282 : decode cL_law 282 = .ok (.iload_n 3, 1) := by decide +kernel
theorem dL_law_283 : decode cL_law 283 = .ok (.iconst 1, 1) := by decide +kernel
theorem dL_law_284 : decode cL_law 284 = .ok (.iadd, 1) := by decide +kernel
theorem dL_law_285 : decode cL_law 285 = .ok (.iaload, 1) := by decide +kernel
theorem dL_law_286 : decode cL_law 286 = .ok (.invokevirtual 44, 3) := by decide +kernel
theorem dL_law_289 : decode cL_law 289 = .ok (.pop, 1) := by decide +kernel
theorem dL_law_290 : decode cL_law 290 = .ok (.goto 657, 3) := by decide +kernel
theorem dL_law_293 : decode cL_law 293 = .ok (.aload_n 1, 1) := by decide +kernel
theorem dL_law_294 : decode cL_law 294 = .ok (.aload_n 0, 1) := by decide +kernel
theorem dL_law_295 : decode cL_law 295 = .ok (.iload_n 3, 1) := by decide +kernel
theorem dL_law_296 : decode cL_law 296 = .ok (.iconst 1, 1) := by decide +kernel
theorem dL_law_297 : decode cL_law 297 = .ok (.iadd, 1) := by decide +kernel
theorem dL_law_298 : decode cL_law 298 = .ok (.iaload, 1) := by decide +kernel
theorem dL_law_299 : decode cL_law 299 = .ok (.invokevirtual 45, 3) := by decide +kernel
theorem dL_law_302 : decode cL_law 302 = .ok (.pop, 1) := by decide +kernel
theorem dL_law_303 : decode cL_law 303 = .ok (.aload_n 2, 1) := by decide +kernel
theorem dL_law_304 : decode cL_law 304 = .ok (.aload_n 0, 1) := by decide +kernel
theorem dL_law_305 : decode cL_law 305 = .ok (.iload_n 3, 1) := by decide +kernel
theorem dL_law_306 : decode cL_law 306 = .ok (.iconst 1, 1) := by decide +kernel
theorem dL_law_307 : decode cL_law 307 = .ok (.iadd, 1) := by decide +kernel
theorem dL_law_308 : decode cL_law 308 = .ok (.iaload, 1) := by decide +kernel
theorem dL_law_309 : decode cL_law 309 = .ok (.invokevirtual 48, 3) := by decide +kernel
theorem dL_law_312 : decode cL_law 312 = .ok (.pop, 1) := by decide +kernel
theorem dL_law_313 : decode cL_law 313 = .ok (.goto 634, 3) := by decide +kernel
theorem dL_law_316 : decode cL_law 316 = .ok (.aload_n 1, 1) := by decide +kernel
theorem dL_law_317 : decode cL_law 317 = .ok (.aload_n 0, 1) := by decide +kernel
theorem dL_law_318 : decode cL_law 318 = .ok (.iload_n 3, 1) := by decide +kernel
theorem dL_law_319 : decode cL_law 319 = .ok (.iconst 1, 1) := by decide +kernel
theorem dL_law_320 : decode cL_law 320 = .ok (.iadd, 1) := by decide +kernel
theorem dL_law_321 : decode cL_law 321 = .ok (.iaload, 1) := by decide +kernel
theorem dL_law_322 : decode cL_law 322 = .ok (.aload_n 0, 1) := by decide +kernel
theorem dL_law_323 : decode cL_law 323 = .ok (.iload_n 3, 1) := by decide +kernel
theorem dL_law_324 : decode cL_law 324 = .ok (.iconst 2, 1) := by decide +kernel
theorem dL_law_325 : decode cL_law 325 = .ok (.iadd, 1) := by decide +kernel
theorem dL_law_326 : decode cL_law 326 = .ok (.iaload, 1) := by decide +kernel
theorem dL_law_327 : decode cL_law 327 = .ok (.aload_n 0, 1) := by decide +kernel
theorem dL_law_328 : decode cL_law 328 = .ok (.iload_n 3, 1) := by decide +kernel
theorem dL_law_329 : decode cL_law 329 = .ok (.iconst 3, 1) := by decide +kernel
theorem dL_law_330 : decode cL_law 330 = .ok (.iadd, 1) := by decide +kernel
theorem dL_law_331 : decode cL_law 331 = .ok (.iaload, 1) := by decide +kernel
theorem dL_law_332 : decode cL_law 332 = .ok (.aload_n 0, 1) := by decide +kernel
theorem dL_law_333 : decode cL_law 333 = .ok (.iload_n 3, 1) := by decide +kernel
theorem dL_law_334 : decode cL_law 334 = .ok (.iconst 4, 1) := by decide +kernel
theorem dL_law_335 : decode cL_law 335 = .ok (.iadd, 1) := by decide +kernel
theorem dL_law_336 : decode cL_law 336 = .ok (.iaload, 1) := by decide +kernel
theorem dL_law_337 : decode cL_law 337 = .ok (.aload_n 0, 1) := by decide +kernel
theorem dL_law_338 : decode cL_law 338 = .ok (.iload_n 3, 1) := by decide +kernel
theorem dL_law_339 : decode cL_law 339 = .ok (.iconst 5, 1) := by decide +kernel
theorem dL_law_340 : decode cL_law 340 = .ok (.iadd, 1) := by decide +kernel
theorem dL_law_341 : decode cL_law 341 = .ok (.iaload, 1) := by decide +kernel
theorem dL_law_342 : decode cL_law 342 = .ok (.invokevirtual 49, 3) := by decide +kernel
theorem dL_law_345 : decode cL_law 345 = .ok (.pop, 1) := by decide +kernel
theorem dL_law_346 : decode cL_law 346 = .ok (.aload_n 2, 1) := by decide +kernel
theorem dL_law_347 : decode cL_law 347 = .ok (.aload_n 0, 1) := by decide +kernel
theorem dL_law_348 : decode cL_law 348 = .ok (.iload_n 3, 1) := by decide +kernel
theorem dL_law_349 : decode cL_law 349 = .ok (.iconst 1, 1) := by decide +kernel
theorem dL_law_350 : decode cL_law 350 = .ok (.iadd, 1) := by decide +kernel
theorem dL_law_351 : decode cL_law 351 = .ok (.iaload, 1) := by decide +kernel
theorem dL_law_352 : decode cL_law 352 = .ok (.aload_n 0, 1) := by decide +kernel
theorem dL_law_353 : decode cL_law 353 = .ok (.iload_n 3, 1) := by decide +kernel
theorem dL_law_354 : decode cL_law 354 = .ok (.iconst 2, 1) := by decide +kernel
theorem dL_law_355 : decode cL_law 355 = .ok (.iadd, 1) := by decide +kernel
theorem dL_law_356 : decode cL_law 356 = .ok (.iaload, 1) := by decide +kernel
theorem dL_law_357 : decode cL_law 357 = .ok (.aload_n 0, 1) := by decide +kernel
theorem dL_law_358 : decode cL_law 358 = .ok (.iload_n 3, 1) := by decide +kernel
theorem dL_law_359 : decode cL_law 359 = .ok (.iconst 3, 1) := by decide +kernel
theorem dL_law_360 : decode cL_law 360 = .ok (.iadd, 1) := by decide +kernel
theorem dL_law_361 : decode cL_law 361 = .ok (.iaload, 1) := by decide +kernel
theorem dL_law_362 : decode cL_law 362 = .ok (.aload_n 0, 1) := by decide +kernel
theorem dL_law_363 : decode cL_law 363 = .ok (.iload_n 3, 1) := by decide +kernel
theorem dL_law_364 : decode cL_law 364 = .ok (.iconst 4, 1) := by decide +kernel
theorem dL_law_365 : decode cL_law 365 = .ok (.iadd, 1) := by decide +kernel
theorem dL_law_366 : decode cL_law 366 = .ok (.iaload, 1) := by decide +kernel
theorem dL_law_367 : decode cL_law 367 = .ok (.aload_n 0, 1) := by decide +kernel
theorem dL_law_368 : decode cL_law 368 = .ok (.iload_n 3, 1) := by decide +kernel
theorem dL_law_369 : decode cL_law 369 = .ok (.iconst 5, 1) := by decide +kernel
theorem dL_law_370 : decode cL_law 370 = .ok (.iadd, 1) := by decide +kernel
theorem dL_law_371 : decode cL_law 371 = .ok (.iaload, 1) := by decide +kernel
theorem dL_law_372 : decode cL_law 372 = .ok (.invokevirtual 52, 3) := by decide +kernel
theorem dL_law_375 : decode cL_law 375 = .ok (.pop, 1) := by decide +kernel
theorem dL_law_376 : decode cL_law 376 = .ok (.goto 571, 3) := by decide +kernel
set_option maxRecDepth 20000 in
theorem ggL_law_X10_fault : GoodIn wsL_law wsX10_fault := goodIn_r _ [655, 38, 1100, 1101, 1102, 1103, 1104, 1105, 1106, 1107, 1161, 1162, 1163, 1164, 1165, 1166, 1167, 1168, 1169, 1170, 1171] (by decide +kernel) (by decide +kernel)
set_option maxRecDepth 20000 in
theorem gL_law_X10_fault : GoodIn wsL_law (wsV RL 36 RX10 yX10_fault wsX10_fault) := goodIn_app (goodIn_of _ (by decide +kernel)) ggL_law_X10_fault
set_option maxRecDepth 20000 in
theorem ggL_law_X11_fault : GoodIn wsL_law wsX11_fault := goodIn_r _ [659, 142, 143, 1108, 1109, 1110, 1111, 1112, 1113, 1114, 1115, 1116, 1117, 1118, 1119, 1120, 1121, 1122, 1123, 1124, 1125, 1126, 1127, 1128, 1129, 1130, 1131, 1132, 1133, 1134, 1135, 1136, 1137, 1138, 1139, 1140, 1141, 1142, 1143, 1144, 1145, 1146, 1147, 1148, 1149, 1150, 1151, 1152, 1153, 1154] (by decide +kernel) (by decide +kernel)
set_option maxRecDepth 20000 in
theorem gL_law_X11_fault : GoodIn wsL_law (wsV RL 39 RX11 yX11_fault wsX11_fault) := goodIn_app (goodIn_of _ (by decide +kernel)) ggL_law_X11_fault
set_option maxRecDepth 20000 in
theorem ggL_law_X10_look : GoodIn wsL_law wsX10_look := goodIn_r _ [663, 31, 1100, 1101, 1102, 1103, 1104, 1105, 1106, 1107, 1157, 1158, 1159, 1160] (by decide +kernel) (by decide +kernel)
set_option maxRecDepth 20000 in
theorem gL_law_X10_look : GoodIn wsL_law (wsV RL 40 RX10 yX10_look wsX10_look) := goodIn_app (goodIn_of _ (by decide +kernel)) ggL_law_X10_look
set_option maxRecDepth 20000 in
theorem ggL_law_X11_look : GoodIn wsL_law wsX11_look := goodIn_r _ [667, 537, 539, 197, 198, 5, 199, 1108, 1109, 1110, 1111, 1112, 1113, 1114, 1115, 1116, 1117, 1118, 1119, 1120, 1121, 1122, 1123, 1124, 1125, 1126, 1127, 1128, 1129, 1130, 1131, 1132, 1133, 1134, 1135, 1136, 1137, 1138, 1139, 1140, 1141, 1142, 1143, 1144, 1145, 1146, 1147, 1148, 1149, 1150, 1151, 1152, 1153, 1154] (by decide +kernel) (by decide +kernel)
set_option maxRecDepth 20000 in
theorem gL_law_X11_look : GoodIn wsL_law (wsV RL 44 RX11 yX11_look wsX11_look) := goodIn_app (goodIn_of _ (by decide +kernel)) ggL_law_X11_look
set_option maxRecDepth 20000 in
theorem ggL_law_X10_beats : GoodIn wsL_law wsX10_beats := goodIn_r _ [671, 31, 672, 673, 674, 30, 675, 509, 400, 401, 402, 403, 64, 1100, 1101, 1102, 1103, 1104, 1105, 1106, 1107, 1202, 1203, 1204, 1205, 1157, 1158, 1159, 1160] (by decide +kernel) (by decide +kernel)
set_option maxRecDepth 20000 in
theorem gL_law_X10_beats : GoodIn wsL_law (wsV RL 45 RX10 yX10_beats wsX10_beats) := goodIn_app (goodIn_of _ (by decide +kernel)) ggL_law_X10_beats
set_option maxRecDepth 100000 in
set_option maxHeartbeats 4000000 in
theorem ggL_law_X11_beats : GoodIn wsL_law wsX11_beats := goodIn_r _ [679, 139, 680, 681, 682, 5, 683, 539, 197, 198, 199, 627, 628, 629, 630, 631, 632, 633, 1108, 1109, 1110, 1111, 1112, 1113, 1114, 1115, 1116, 1117, 1118, 1119, 1120, 1121, 1122, 1123, 1124, 1125, 1126, 1127, 1128, 1129, 1130, 1131, 1132, 1133, 1134, 1135, 1136, 1137, 1138, 1139, 1140, 1141, 1142, 1143, 1144, 1145, 1146, 1147, 1148, 1149, 1150, 1151, 1152, 1153, 1154] (by with_unfolding_all rfl) (by decide +kernel)
set_option maxRecDepth 20000 in
theorem gL_law_X11_beats : GoodIn wsL_law (wsV RL 48 RX11 yX11_beats wsX11_beats) := goodIn_app (goodIn_of _ (by decide +kernel)) ggL_law_X11_beats
set_option maxRecDepth 20000 in
theorem ggL_law_X10_thrown : GoodIn wsL_law wsX10_thrown := goodIn_r _ [687, 31, 672, 673, 674, 30, 675, 509, 400, 401, 402, 403, 64, 688, 689, 690, 93, 691, 386, 105, 106, 692, 447, 448, 449, 107, 693, 694, 695, 696, 697, 463, 464, 465, 1100, 1101, 1102, 1103, 1104, 1105, 1106, 1107, 1157, 1158, 1159, 1160, 1202, 1203, 1204, 1205] (by decide +kernel) (by decide +kernel)
set_option maxRecDepth 20000 in
theorem gL_law_X10_thrown : GoodIn wsL_law (wsV RL 49 RX10 yX10_thrown wsX10_thrown) := goodIn_app (goodIn_of _ (by decide +kernel)) ggL_law_X10_thrown
set_option maxRecDepth 100000 in
set_option maxHeartbeats 4000000 in
theorem ggL_law_X11_thrown : GoodIn wsL_law wsX11_thrown := goodIn_r _ [701, 680, 681, 682, 5, 683, 539, 197, 198, 199, 627, 628, 629, 630, 139, 631, 632, 633, 702, 703, 704, 705, 166, 706, 707, 708, 709, 710, 711, 712, 713, 1108, 1109, 1110, 1111, 1112, 1113, 1114, 1115, 1116, 1117, 1118, 1119, 1120, 1121, 1122, 1123, 1124, 1125, 1126, 1127, 1128, 1129, 1130, 1131, 1132, 1133, 1134, 1135, 1136, 1137, 1138, 1139, 1140, 1141, 1142, 1143, 1144, 1145, 1146, 1147, 1148, 1149, 1150, 1151, 1152, 1153, 1154] (by with_unfolding_all rfl) (by decide +kernel)
set_option maxRecDepth 20000 in
theorem gL_law_X11_thrown : GoodIn wsL_law (wsV RL 52 RX11 yX11_thrown wsX11_thrown) := goodIn_app (goodIn_of _ (by decide +kernel)) ggL_law_X11_thrown
set_option maxRecDepth 100000 in
set_option maxHeartbeats 4000000 in
theorem law_c3 {p : Program} {l : Launch} {e : Env} {s : State} {m : MethodId} {below : List Frame} {meth : Method} {c : Code} {b n9 : Nat} {xs : Nat → Int32} {A : Nat → Prop} {D : va_G} {cI cR cM : ClassId} {jn mm k N9 M9 : Nat} {g q : Nat → Nat} {H : Heap} {locs : List Loc} {ls : Array Slot} {adK adV : Nat → Nat} (C : LC p s m meth c b n9 xs A D cI cR cM) (hST : ST adK adV s.heap.size s) (hj : 1 ≤ jn ∧ jn ≤ 3) (hk : k + 5 < n9) (hn9 : n9 ≤ 3073) (hN9 : N9 + 18 ≤ room_1.cells) (hM9 : M9 + 1193 ≤ room_1.slots) (J : JS jn cI cR cM D g A mm q H) (hS : va_S A s.heap H locs) (hl : lv_has ls 4 [(0, .ref b), (1, .ref (g 10)), (2, .ref mm), (3, .int (nI k))]) (hend : ∀ (H1 : Heap) (locs1 : List Loc) (ls1 : Array Slot), JS jn cI cR cM D g A mm q H1 → va_S A s.heap H1 locs1 → lv_has ls1 4 [(0, .ref b), (1, .ref (g 10)), (2, .ref mm), (3, .int (nI k))] → W p l e room_1 s m #[Value.ref b] below meth c H1 locs1 (N9 + 18) (M9 + 1193) (lw_Z below #[Value.ref b] s) (F0 m 947 ls1 [])) : W p l e room_1 s m #[Value.ref b] below meth c H locs N9 M9 (lw_Z below #[Value.ref b] s) (F0 m 247 ls []) := by
  obtain ⟨hx, hb, hr, hml, hown, hts, hX, hbl, hlocks, hK, hA, hA2⟩ := C
  have hbA : ¬ A b := fun q => absurd (hA2 b q) (Nat.not_le.mpr hbl)
  obtain ⟨L, S, f, x0, x1, x2, x3, x4, x5, x6, x7, x8, x9, x10, x11, x12, x13, x14, x15, x16, x17, x18, x19, x20, f0, f1, f2, f3, f4, f5, f6, f7, f8, f9, f10, f11, f12, f13, f14, f15, f16, f17, f18, f19, f20, f21, f22, f23, f24, J, hP, hD, hap, hLK, hSX, h0, h1, h2, h18, hsc, hRX, hRZ, hSe, hFm, hMK, hwt⟩ := J
  have J0 := J
  obtain ⟨hG, hI, hTK, hP1, hD1⟩ := J0
  refine lv_aload_n hx hb dL_law_247 rfl (lv_at hl 1 rfl) ?_
  refine lv_aload_n hx hb dL_law_248 rfl (lv_at hl 0 rfl) ?_
  refine lv_iload_n hx hb dL_law_249 rfl (lv_at hl 3 rfl) ?_
  refine lv_iconst (v := 1) hx hb dL_law_250 (by decide) ?_
  refine lv_eqi (y := nI 1) rfl ?_
  refine lv_iadd hx hb dL_law_251 ?_
  refine lv_eqi (y := nI (k + 1)) (nI_add _ _) ?_
  refine va_sld hx hb hX hbl hbA hS (vp_in_nI (n := k + 1) (by omega) (by omega)) dL_law_252 ?_
  refine lv_eqi (y := xs (k + 1)) (congrArg xs (nI_clamp (by omega))) ?_
  refine law_ro (va_runV (As := [.int (xs (k + 1))]) (rest := []) ⟨hx, hb, hml, hown, hts⟩ (t_X10_fault l D cI cR cM _ hj hG hI) (cwV 1 hts gL_law_X10_fault rfl rfl rfl (by decide +kernel) ⟨Nat.le_of_ble_eq_true rfl, Nat.le_of_ble_eq_true rfl⟩) (pre_T hK hP1 hD1 (gm_10 hG) (hall_at hG hI) rfl) rfl rfl hl.1 rfl (lv_room (Nat.le_of_ble_eq_true rfl)) dL_law_253 ⟨by omega, by omega⟩) J hP hS hA (fun r1 H locs _ J hP hS => ?_)
  refine lv_pop hx hb dL_law_256 rfl ?_
  refine lv_aload_n hx hb dL_law_257 rfl (lv_at hl 2 rfl) ?_
  refine lv_aload_n hx hb dL_law_258 rfl (lv_at hl 0 rfl) ?_
  refine lv_iload_n hx hb dL_law_259 rfl (lv_at hl 3 rfl) ?_
  refine lv_iconst (v := 1) hx hb dL_law_260 (by decide) ?_
  refine lv_eqi (y := nI 1) rfl ?_
  refine lv_iadd hx hb dL_law_261 ?_
  refine lv_eqi (y := nI (k + 1)) (nI_add _ _) ?_
  refine va_sld hx hb hX hbl hbA hS (vp_in_nI (n := k + 1) (by omega) (by omega)) dL_law_262 ?_
  refine lv_eqi (y := xs (k + 1)) (congrArg xs (nI_clamp (by omega))) ?_
  refine law_ro (va_runV (As := [.int (xs (k + 1))]) (rest := []) ⟨hx, hb, hml, hown, hts⟩ (k_fault l D cI cR cM _ ) (cwV 1 hts gL_law_X11_fault rfl rfl rfl (by decide +kernel) ⟨Nat.le_of_ble_eq_true rfl, Nat.le_of_ble_eq_true rfl⟩) (pre_V hK hP hD 0 11 rfl rfl) rfl rfl hl.1 rfl (lv_room (Nat.le_of_ble_eq_true rfl)) dL_law_263 ⟨by omega, by omega⟩) J hP hS hA (fun r2 H locs hw J hP hS => ?_)
  refine lv_pop hx hb dL_law_266 rfl ?_
  refine lv_goto (tgt := 947) hx hb dL_law_267 (by decide) ?_
  refine W.widen (k := N9 + 18) (n := M9 + 1193) (by omega) (by omega) ?_
  exact hend _ _ _ ⟨L, S, f, x0, x1, x2, x3, x4, x5, x6, x7, x8, x9, x10, x11, x12, x13, x14, x15, x16, x17, x18, x19, x20, f0, f1, f2, f3, f4, f5, f6, f7, f8, f9, f10, f11, f12, f13, f14, f15, f16, f17, f18, f19, f20, f21, f22, f23, f24, J, hP, hD, hap, hLK, hSX, ⟨(by first | assumption | omega), (by first | assumption | omega), (by first | assumption | omega), (by first | assumption | omega), (by first | assumption | omega), (by first | assumption | omega), (by first | assumption | omega), (by first | assumption | omega), (by first | assumption | omega), (by first | assumption | omega), (by first | assumption | omega)⟩⟩ hS hl
set_option maxRecDepth 100000 in
set_option maxHeartbeats 4000000 in
theorem law_c4 {p : Program} {l : Launch} {e : Env} {s : State} {m : MethodId} {below : List Frame} {meth : Method} {c : Code} {b n9 : Nat} {xs : Nat → Int32} {A : Nat → Prop} {D : va_G} {cI cR cM : ClassId} {jn mm k N9 M9 : Nat} {g q : Nat → Nat} {H : Heap} {locs : List Loc} {ls : Array Slot} {adK adV : Nat → Nat} (C : LC p s m meth c b n9 xs A D cI cR cM) (hST : ST adK adV s.heap.size s) (hj : 1 ≤ jn ∧ jn ≤ 3) (hk : k + 5 < n9) (hn9 : n9 ≤ 3073) (hN9 : N9 + 18 ≤ room_1.cells) (hM9 : M9 + 1193 ≤ room_1.slots) (J : JS jn cI cR cM D g A mm q H) (hS : va_S A s.heap H locs) (hl : lv_has ls 4 [(0, .ref b), (1, .ref (g 10)), (2, .ref mm), (3, .int (nI k))]) (hend : ∀ (H1 : Heap) (locs1 : List Loc) (ls1 : Array Slot), JS jn cI cR cM D g A mm q H1 → va_S A s.heap H1 locs1 → lv_has ls1 4 [(0, .ref b), (1, .ref (g 10)), (2, .ref mm), (3, .int (nI k))] → W p l e room_1 s m #[Value.ref b] below meth c H1 locs1 (N9 + 18) (M9 + 1193) (lw_Z below #[Value.ref b] s) (F0 m 947 ls1 [])) : W p l e room_1 s m #[Value.ref b] below meth c H locs N9 M9 (lw_Z below #[Value.ref b] s) (F0 m 270 ls []) := by
  obtain ⟨hx, hb, hr, hml, hown, hts, hX, hbl, hlocks, hK, hA, hA2⟩ := C
  have hbA : ¬ A b := fun q => absurd (hA2 b q) (Nat.not_le.mpr hbl)
  obtain ⟨L, S, f, x0, x1, x2, x3, x4, x5, x6, x7, x8, x9, x10, x11, x12, x13, x14, x15, x16, x17, x18, x19, x20, f0, f1, f2, f3, f4, f5, f6, f7, f8, f9, f10, f11, f12, f13, f14, f15, f16, f17, f18, f19, f20, f21, f22, f23, f24, J, hP, hD, hap, hLK, hSX, h0, h1, h2, h18, hsc, hRX, hRZ, hSe, hFm, hMK, hwt⟩ := J
  have J0 := J
  obtain ⟨hG, hI, hTK, hP1, hD1⟩ := J0
  refine lv_aload_n hx hb dL_law_270 rfl (lv_at hl 1 rfl) ?_
  refine lv_aload_n hx hb dL_law_271 rfl (lv_at hl 0 rfl) ?_
  refine lv_iload_n hx hb dL_law_272 rfl (lv_at hl 3 rfl) ?_
  refine lv_iconst (v := 1) hx hb dL_law_273 (by decide) ?_
  refine lv_eqi (y := nI 1) rfl ?_
  refine lv_iadd hx hb dL_law_274 ?_
  refine lv_eqi (y := nI (k + 1)) (nI_add _ _) ?_
  refine va_sld hx hb hX hbl hbA hS (vp_in_nI (n := k + 1) (by omega) (by omega)) dL_law_275 ?_
  refine lv_eqi (y := xs (k + 1)) (congrArg xs (nI_clamp (by omega))) ?_
  by_cases hj1 : jn = 1
  · obtain ⟨lv, gr, Ev, cb, hcl, hRf, hEO, hRz, hTp⟩ := hLK hj1
    refine law_w (T := [12]) (va_runV (As := [.int (xs (k + 1))]) (rest := []) ⟨hx, hb, hml, hown, hts⟩ (t_X10_lookm l D cI cR cM _ (lv := lv) (gr := gr) (Ev := Ev) (cb := cb) (n9 := x2.toInt) (T9 := x0.toInt) (lk9 := x1.toInt) hj hG hI hj1 hcl) (cwV 1 hts gL_law_X10_look rfl rfl rfl (by decide +kernel) ⟨Nat.le_of_ble_eq_true rfl, Nat.le_of_ble_eq_true rfl⟩) (pre_T hK hP1 hD1 (gm_10 hG) (hall_at hG hI) rfl) rfl rfl hl.1 rfl (lv_room (Nat.le_of_ble_eq_true rfl)) dL_law_276 ⟨by omega, by omega⟩) (fun _ hu => ⟨hu.1, hu.2.1⟩) (by decide) (by decide) (by decide) J hP hap hS hA (fun r1 fc1 H locs hu1 J hP hS => ?_)
    refine lv_pop hx hb dL_law_279 rfl ?_
    refine lv_aload_n hx hb dL_law_280 rfl (lv_at hl 2 rfl) ?_
    refine lv_aload_n hx hb dL_law_281 rfl (lv_at hl 0 rfl) ?_
    refine lv_iload_n hx hb dL_law_282 rfl (lv_at hl 3 rfl) ?_
    refine lv_iconst (v := 1) hx hb dL_law_283 (by decide) ?_
    refine lv_eqi (y := nI 1) rfl ?_
    refine lv_iadd hx hb dL_law_284 ?_
    refine lv_eqi (y := nI (k + 1)) (nI_add _ _) ?_
    refine va_sld hx hb hX hbl hbA hS (vp_in_nI (n := k + 1) (by omega) (by omega)) dL_law_285 ?_
    refine lv_eqi (y := xs (k + 1)) (congrArg xs (nI_clamp (by omega))) ?_
    refine law_ms (wr := []) (va_runV (As := [.int (xs (k + 1))]) (rest := []) ⟨hx, hb, hml, hown, hts⟩ (k_look2 l D cI cR cM _  (by first | assumption | omega) (by first | assumption | omega)) (cwV 1 hts gL_law_X11_look rfl rfl rfl (by decide +kernel) ⟨Nat.le_of_ble_eq_true rfl, Nat.le_of_ble_eq_true rfl⟩) (pre_V hK hP hD 0 11 rfl rfl) rfl rfl hl.1 rfl (lv_room (Nat.le_of_ble_eq_true rfl)) dL_law_286 ⟨by omega, by omega⟩) J hP hD hap hS hA [0, 1, 2, 3, 4, 5, 6, 7, 8, 9, 10, 11, 12, 13, 14, 15, 16, 17, 18, 19, 20, 21, 22, 23, 24, 25] [] (by with_unfolding_all rfl) rfl (by decide) (by decide) (fun u2 H locs hw J hP hD hap hS => ?_)
    obtain ⟨r2, y1_2⟩ := u2
    have hP : va_P D vwCl (mX mm q jn cI x0 y1_2 x2 x3 x4 x5 x6 x7 x8 x9 x10 x11 x12 x13 x14 x15 x16 x17 x18 x19 x20 f0 f1 f2 f3 f4 f5 f6 f7 f8 f9 f10 f11 f12 f13 f14 f15 f16 f17 f18 f19 f20 f21 f22 f23 f24) H := hP
    have hD : va_D A (mX mm q jn cI x0 y1_2 x2 x3 x4 x5 x6 x7 x8 x9 x10 x11 x12 x13 x14 x15 x16 x17 x18 x19 x20 f0 f1 f2 f3 f4 f5 f6 f7 f8 f9 f10 f11 f12 f13 f14 f15 f16 f17 f18 f19 f20 f21 f22 f23 f24) := hD
    have hap : AP L (mX mm q jn cI x0 y1_2 x2 x3 x4 x5 x6 x7 x8 x9 x10 x11 x12 x13 x14 x15 x16 x17 x18 x19 x20 f0 f1 f2 f3 f4 f5 f6 f7 f8 f9 f10 f11 f12 f13 f14 f15 f16 f17 f18 f19 f20 f21 f22 f23 f24) := hap
    obtain ⟨h_2, hF_2⟩ : (0 ≤ y1_2.toInt ∧ y1_2.toInt ≤ x0.toInt) ∧ ((0 ≤ (xs (k + 1)).toInt ∧ (xs (k + 1)).toInt ≤ x0.toInt ∧ y1_2 = (xs (k + 1))) ∨ (¬ (0 ≤ (xs (k + 1)).toInt ∧ (xs (k + 1)).toInt ≤ x0.toInt) ∧ y1_2 = x1)) := hw
    have hSX := SCx_fr hSX hG (show FR S [12] f fc1 from hu1.2.1) (by decide)
    have hLK : LKx jn cI cR g L S fc1 x0 y1_2 x2 f0 f2 := fun _ => by
      rcases hu1.2.2.1 with ⟨a1, a2, a3⟩ | ⟨a1, a3⟩ <;> rcases hF_2 with ⟨b1, b2, b3⟩ | ⟨b1, b3⟩
      · rw [b3]; exact ⟨lv, gr, Ev, cb, a3, hRf, hEO, hRz, hTp⟩
      · exact absurd ⟨a1, a2⟩ b1
      · exact absurd ⟨b1, b2⟩ a1
      · rw [b3]; exact ⟨lv, gr, Ev, cb, a3, hRf, hEO, hRz, hTp⟩
    refine lv_pop hx hb dL_law_289 rfl ?_
    refine lv_goto (tgt := 947) hx hb dL_law_290 (by decide) ?_
    refine W.widen (k := N9 + 18) (n := M9 + 1193) (by omega) (by omega) ?_
    exact hend _ _ _ ⟨L, S, fc1, x0, y1_2, x2, x3, x4, x5, x6, x7, x8, x9, x10, x11, x12, x13, x14, x15, x16, x17, x18, x19, x20, f0, f1, f2, f3, f4, f5, f6, f7, f8, f9, f10, f11, f12, f13, f14, f15, f16, f17, f18, f19, f20, f21, f22, f23, f24, J, hP, hD, hap, hLK, hSX, ⟨(by first | assumption | omega), (by first | assumption | omega), (by first | assumption | omega), (by first | assumption | omega), (by first | assumption | omega), (by first | assumption | omega), (by first | assumption | omega), (by first | assumption | omega), (by first | assumption | omega), (by first | assumption | omega), (by first | assumption | omega)⟩⟩ hS hl
  · refine law_w (T := [12]) (va_runV (As := [.int (xs (k + 1))]) (rest := []) ⟨hx, hb, hml, hown, hts⟩ (t_X10_look l D cI cR cM _ hj hG hI) (cwV 1 hts gL_law_X10_look rfl rfl rfl (by decide +kernel) ⟨Nat.le_of_ble_eq_true rfl, Nat.le_of_ble_eq_true rfl⟩) (pre_T hK hP1 hD1 (gm_10 hG) (hall_at hG hI) rfl) rfl rfl hl.1 rfl (lv_room (Nat.le_of_ble_eq_true rfl)) dL_law_276 ⟨by omega, by omega⟩) (fun _ hu => ⟨hu.1, hu.2.1⟩) (by decide) (by decide) (by decide) J hP hap hS hA (fun r1 fc1 H locs hu1 J hP hS => ?_)
    refine lv_pop hx hb dL_law_279 rfl ?_
    refine lv_aload_n hx hb dL_law_280 rfl (lv_at hl 2 rfl) ?_
    refine lv_aload_n hx hb dL_law_281 rfl (lv_at hl 0 rfl) ?_
    refine lv_iload_n hx hb dL_law_282 rfl (lv_at hl 3 rfl) ?_
    refine lv_iconst (v := 1) hx hb dL_law_283 (by decide) ?_
    refine lv_eqi (y := nI 1) rfl ?_
    refine lv_iadd hx hb dL_law_284 ?_
    refine lv_eqi (y := nI (k + 1)) (nI_add _ _) ?_
    refine va_sld hx hb hX hbl hbA hS (vp_in_nI (n := k + 1) (by omega) (by omega)) dL_law_285 ?_
    refine lv_eqi (y := xs (k + 1)) (congrArg xs (nI_clamp (by omega))) ?_
    refine law_ms (wr := []) (va_runV (As := [.int (xs (k + 1))]) (rest := []) ⟨hx, hb, hml, hown, hts⟩ (k_look2 l D cI cR cM _  (by first | assumption | omega) (by first | assumption | omega)) (cwV 1 hts gL_law_X11_look rfl rfl rfl (by decide +kernel) ⟨Nat.le_of_ble_eq_true rfl, Nat.le_of_ble_eq_true rfl⟩) (pre_V hK hP hD 0 11 rfl rfl) rfl rfl hl.1 rfl (lv_room (Nat.le_of_ble_eq_true rfl)) dL_law_286 ⟨by omega, by omega⟩) J hP hD hap hS hA [0, 1, 2, 3, 4, 5, 6, 7, 8, 9, 10, 11, 12, 13, 14, 15, 16, 17, 18, 19, 20, 21, 22, 23, 24, 25] [] (by with_unfolding_all rfl) rfl (by decide) (by decide) (fun u2 H locs hw J hP hD hap hS => ?_)
    obtain ⟨r2, y1_2⟩ := u2
    have hP : va_P D vwCl (mX mm q jn cI x0 y1_2 x2 x3 x4 x5 x6 x7 x8 x9 x10 x11 x12 x13 x14 x15 x16 x17 x18 x19 x20 f0 f1 f2 f3 f4 f5 f6 f7 f8 f9 f10 f11 f12 f13 f14 f15 f16 f17 f18 f19 f20 f21 f22 f23 f24) H := hP
    have hD : va_D A (mX mm q jn cI x0 y1_2 x2 x3 x4 x5 x6 x7 x8 x9 x10 x11 x12 x13 x14 x15 x16 x17 x18 x19 x20 f0 f1 f2 f3 f4 f5 f6 f7 f8 f9 f10 f11 f12 f13 f14 f15 f16 f17 f18 f19 f20 f21 f22 f23 f24) := hD
    have hap : AP L (mX mm q jn cI x0 y1_2 x2 x3 x4 x5 x6 x7 x8 x9 x10 x11 x12 x13 x14 x15 x16 x17 x18 x19 x20 f0 f1 f2 f3 f4 f5 f6 f7 f8 f9 f10 f11 f12 f13 f14 f15 f16 f17 f18 f19 f20 f21 f22 f23 f24) := hap
    obtain ⟨h_2, hF_2⟩ : (0 ≤ y1_2.toInt ∧ y1_2.toInt ≤ x0.toInt) ∧ ((0 ≤ (xs (k + 1)).toInt ∧ (xs (k + 1)).toInt ≤ x0.toInt ∧ y1_2 = (xs (k + 1))) ∨ (¬ (0 ≤ (xs (k + 1)).toInt ∧ (xs (k + 1)).toInt ≤ x0.toInt) ∧ y1_2 = x1)) := hw
    have hSX := SCx_fr hSX hG (show FR S [12] f fc1 from hu1.2.1) (by decide)
    have hLK : LKx jn cI cR g L S fc1 x0 y1_2 x2 f0 f2 := fun e9 => absurd e9 hj1
    refine lv_pop hx hb dL_law_289 rfl ?_
    refine lv_goto (tgt := 947) hx hb dL_law_290 (by decide) ?_
    refine W.widen (k := N9 + 18) (n := M9 + 1193) (by omega) (by omega) ?_
    exact hend _ _ _ ⟨L, S, fc1, x0, y1_2, x2, x3, x4, x5, x6, x7, x8, x9, x10, x11, x12, x13, x14, x15, x16, x17, x18, x19, x20, f0, f1, f2, f3, f4, f5, f6, f7, f8, f9, f10, f11, f12, f13, f14, f15, f16, f17, f18, f19, f20, f21, f22, f23, f24, J, hP, hD, hap, hLK, hSX, ⟨(by first | assumption | omega), (by first | assumption | omega), (by first | assumption | omega), (by first | assumption | omega), (by first | assumption | omega), (by first | assumption | omega), (by first | assumption | omega), (by first | assumption | omega), (by first | assumption | omega), (by first | assumption | omega), (by first | assumption | omega)⟩⟩ hS hl
set_option maxRecDepth 100000 in
set_option maxHeartbeats 4000000 in
theorem law_c5 {p : Program} {l : Launch} {e : Env} {s : State} {m : MethodId} {below : List Frame} {meth : Method} {c : Code} {b n9 : Nat} {xs : Nat → Int32} {A : Nat → Prop} {D : va_G} {cI cR cM : ClassId} {jn mm k N9 M9 : Nat} {g q : Nat → Nat} {H : Heap} {locs : List Loc} {ls : Array Slot} {adK adV : Nat → Nat} (C : LC p s m meth c b n9 xs A D cI cR cM) (hST : ST adK adV s.heap.size s) (hj : 1 ≤ jn ∧ jn ≤ 3) (hk : k + 5 < n9) (hn9 : n9 ≤ 3073) (hN9 : N9 + 18 ≤ room_1.cells) (hM9 : M9 + 1193 ≤ room_1.slots) (J : JS jn cI cR cM D g A mm q H) (hS : va_S A s.heap H locs) (hl : lv_has ls 4 [(0, .ref b), (1, .ref (g 10)), (2, .ref mm), (3, .int (nI k))]) (hend : ∀ (H1 : Heap) (locs1 : List Loc) (ls1 : Array Slot), JS jn cI cR cM D g A mm q H1 → va_S A s.heap H1 locs1 → lv_has ls1 4 [(0, .ref b), (1, .ref (g 10)), (2, .ref mm), (3, .int (nI k))] → W p l e room_1 s m #[Value.ref b] below meth c H1 locs1 (N9 + 18) (M9 + 1193) (lw_Z below #[Value.ref b] s) (F0 m 947 ls1 [])) : W p l e room_1 s m #[Value.ref b] below meth c H locs N9 M9 (lw_Z below #[Value.ref b] s) (F0 m 293 ls []) := by
  obtain ⟨hx, hb, hr, hml, hown, hts, hX, hbl, hlocks, hK, hA, hA2⟩ := C
  have hbA : ¬ A b := fun q => absurd (hA2 b q) (Nat.not_le.mpr hbl)
  obtain ⟨L, S, f, x0, x1, x2, x3, x4, x5, x6, x7, x8, x9, x10, x11, x12, x13, x14, x15, x16, x17, x18, x19, x20, f0, f1, f2, f3, f4, f5, f6, f7, f8, f9, f10, f11, f12, f13, f14, f15, f16, f17, f18, f19, f20, f21, f22, f23, f24, J, hP, hD, hap, hLK, hSX, h0, h1, h2, h18, hsc, hRX, hRZ, hSe, hFm, hMK, hwt⟩ := J
  have J0 := J
  obtain ⟨hG, hI, hTK, hP1, hD1⟩ := J0
  refine lv_aload_n hx hb dL_law_293 rfl (lv_at hl 1 rfl) ?_
  refine lv_aload_n hx hb dL_law_294 rfl (lv_at hl 0 rfl) ?_
  refine lv_iload_n hx hb dL_law_295 rfl (lv_at hl 3 rfl) ?_
  refine lv_iconst (v := 1) hx hb dL_law_296 (by decide) ?_
  refine lv_eqi (y := nI 1) rfl ?_
  refine lv_iadd hx hb dL_law_297 ?_
  refine lv_eqi (y := nI (k + 1)) (nI_add _ _) ?_
  refine va_sld hx hb hX hbl hbA hS (vp_in_nI (n := k + 1) (by omega) (by omega)) dL_law_298 ?_
  refine lv_eqi (y := xs (k + 1)) (congrArg xs (nI_clamp (by omega))) ?_
  refine law_ro (va_runV (As := [.int (xs (k + 1))]) (rest := []) ⟨hx, hb, hml, hown, hts⟩ (t_X10_beats l D cI cR cM _ hj hG hI) (cwV 1 hts gL_law_X10_beats rfl rfl rfl (by decide +kernel) ⟨Nat.le_of_ble_eq_true rfl, Nat.le_of_ble_eq_true rfl⟩) (pre_T hK hP1 hD1 (gm_10 hG) (hall_at hG hI) rfl) rfl rfl hl.1 rfl (lv_room (Nat.le_of_ble_eq_true rfl)) dL_law_299 ⟨by omega, by omega⟩) J hP hS hA (fun r1 H locs _ J hP hS => ?_)
  refine lv_pop hx hb dL_law_302 rfl ?_
  refine lv_aload_n hx hb dL_law_303 rfl (lv_at hl 2 rfl) ?_
  refine lv_aload_n hx hb dL_law_304 rfl (lv_at hl 0 rfl) ?_
  refine lv_iload_n hx hb dL_law_305 rfl (lv_at hl 3 rfl) ?_
  refine lv_iconst (v := 1) hx hb dL_law_306 (by decide) ?_
  refine lv_eqi (y := nI 1) rfl ?_
  refine lv_iadd hx hb dL_law_307 ?_
  refine lv_eqi (y := nI (k + 1)) (nI_add _ _) ?_
  refine va_sld hx hb hX hbl hbA hS (vp_in_nI (n := k + 1) (by omega) (by omega)) dL_law_308 ?_
  refine lv_eqi (y := xs (k + 1)) (congrArg xs (nI_clamp (by omega))) ?_
  refine law_ro (va_runV (As := [.int (xs (k + 1))]) (rest := []) ⟨hx, hb, hml, hown, hts⟩ (k_beats l D cI cR cM _ (by first | assumption | omega) (by first | assumption | omega) (by first | assumption | omega) (by first | assumption | omega)) (cwV 1 hts gL_law_X11_beats rfl rfl rfl (by decide +kernel) ⟨Nat.le_of_ble_eq_true rfl, Nat.le_of_ble_eq_true rfl⟩) (pre_V hK hP hD 0 11 rfl rfl) rfl rfl hl.1 rfl (lv_room (Nat.le_of_ble_eq_true rfl)) dL_law_309 ⟨by omega, by omega⟩) J hP hS hA (fun r2 H locs hw J hP hS => ?_)
  refine lv_pop hx hb dL_law_312 rfl ?_
  refine lv_goto (tgt := 947) hx hb dL_law_313 (by decide) ?_
  refine W.widen (k := N9 + 18) (n := M9 + 1193) (by omega) (by omega) ?_
  exact hend _ _ _ ⟨L, S, f, x0, x1, x2, x3, x4, x5, x6, x7, x8, x9, x10, x11, x12, x13, x14, x15, x16, x17, x18, x19, x20, f0, f1, f2, f3, f4, f5, f6, f7, f8, f9, f10, f11, f12, f13, f14, f15, f16, f17, f18, f19, f20, f21, f22, f23, f24, J, hP, hD, hap, hLK, hSX, ⟨(by first | assumption | omega), (by first | assumption | omega), (by first | assumption | omega), (by first | assumption | omega), (by first | assumption | omega), (by first | assumption | omega), (by first | assumption | omega), (by first | assumption | omega), (by first | assumption | omega), (by first | assumption | omega), (by first | assumption | omega)⟩⟩ hS hl
set_option maxRecDepth 100000 in
set_option maxHeartbeats 4000000 in
theorem law_c6 {p : Program} {l : Launch} {e : Env} {s : State} {m : MethodId} {below : List Frame} {meth : Method} {c : Code} {b n9 : Nat} {xs : Nat → Int32} {A : Nat → Prop} {D : va_G} {cI cR cM : ClassId} {jn mm k N9 M9 : Nat} {g q : Nat → Nat} {H : Heap} {locs : List Loc} {ls : Array Slot} {adK adV : Nat → Nat} (C : LC p s m meth c b n9 xs A D cI cR cM) (hST : ST adK adV s.heap.size s) (hj : 1 ≤ jn ∧ jn ≤ 3) (hk : k + 5 < n9) (hn9 : n9 ≤ 3073) (hN9 : N9 + 18 ≤ room_1.cells) (hM9 : M9 + 1193 ≤ room_1.slots) (J : JS jn cI cR cM D g A mm q H) (hS : va_S A s.heap H locs) (hl : lv_has ls 4 [(0, .ref b), (1, .ref (g 10)), (2, .ref mm), (3, .int (nI k))]) (hend : ∀ (H1 : Heap) (locs1 : List Loc) (ls1 : Array Slot), JS jn cI cR cM D g A mm q H1 → va_S A s.heap H1 locs1 → lv_has ls1 4 [(0, .ref b), (1, .ref (g 10)), (2, .ref mm), (3, .int (nI k))] → W p l e room_1 s m #[Value.ref b] below meth c H1 locs1 (N9 + 18) (M9 + 1193) (lw_Z below #[Value.ref b] s) (F0 m 947 ls1 [])) : W p l e room_1 s m #[Value.ref b] below meth c H locs N9 M9 (lw_Z below #[Value.ref b] s) (F0 m 316 ls []) := by
  obtain ⟨hx, hb, hr, hml, hown, hts, hX, hbl, hlocks, hK, hA, hA2⟩ := C
  have hbA : ¬ A b := fun q => absurd (hA2 b q) (Nat.not_le.mpr hbl)
  obtain ⟨L, S, f, x0, x1, x2, x3, x4, x5, x6, x7, x8, x9, x10, x11, x12, x13, x14, x15, x16, x17, x18, x19, x20, f0, f1, f2, f3, f4, f5, f6, f7, f8, f9, f10, f11, f12, f13, f14, f15, f16, f17, f18, f19, f20, f21, f22, f23, f24, J, hP, hD, hap, hLK, hSX, h0, h1, h2, h18, hsc, hRX, hRZ, hSe, hFm, hMK, hwt⟩ := J
  have J0 := J
  obtain ⟨hG, hI, hTK, hP1, hD1⟩ := J0
  refine lv_aload_n hx hb dL_law_316 rfl (lv_at hl 1 rfl) ?_
  refine lv_aload_n hx hb dL_law_317 rfl (lv_at hl 0 rfl) ?_
  refine lv_iload_n hx hb dL_law_318 rfl (lv_at hl 3 rfl) ?_
  refine lv_iconst (v := 1) hx hb dL_law_319 (by decide) ?_
  refine lv_eqi (y := nI 1) rfl ?_
  refine lv_iadd hx hb dL_law_320 ?_
  refine lv_eqi (y := nI (k + 1)) (nI_add _ _) ?_
  refine va_sld hx hb hX hbl hbA hS (vp_in_nI (n := k + 1) (by omega) (by omega)) dL_law_321 ?_
  refine lv_eqi (y := xs (k + 1)) (congrArg xs (nI_clamp (by omega))) ?_
  refine lv_aload_n hx hb dL_law_322 rfl (lv_at hl 0 rfl) ?_
  refine lv_iload_n hx hb dL_law_323 rfl (lv_at hl 3 rfl) ?_
  refine lv_iconst (v := 2) hx hb dL_law_324 (by decide) ?_
  refine lv_eqi (y := nI 2) rfl ?_
  refine lv_iadd hx hb dL_law_325 ?_
  refine lv_eqi (y := nI (k + 2)) (nI_add _ _) ?_
  refine va_sld hx hb hX hbl hbA hS (vp_in_nI (n := k + 2) (by omega) (by omega)) dL_law_326 ?_
  refine lv_eqi (y := xs (k + 2)) (congrArg xs (nI_clamp (by omega))) ?_
  refine lv_aload_n hx hb dL_law_327 rfl (lv_at hl 0 rfl) ?_
  refine lv_iload_n hx hb dL_law_328 rfl (lv_at hl 3 rfl) ?_
  refine lv_iconst (v := 3) hx hb dL_law_329 (by decide) ?_
  refine lv_eqi (y := nI 3) rfl ?_
  refine lv_iadd hx hb dL_law_330 ?_
  refine lv_eqi (y := nI (k + 3)) (nI_add _ _) ?_
  refine va_sld hx hb hX hbl hbA hS (vp_in_nI (n := k + 3) (by omega) (by omega)) dL_law_331 ?_
  refine lv_eqi (y := xs (k + 3)) (congrArg xs (nI_clamp (by omega))) ?_
  refine lv_aload_n hx hb dL_law_332 rfl (lv_at hl 0 rfl) ?_
  refine lv_iload_n hx hb dL_law_333 rfl (lv_at hl 3 rfl) ?_
  refine lv_iconst (v := 4) hx hb dL_law_334 (by decide) ?_
  refine lv_eqi (y := nI 4) rfl ?_
  refine lv_iadd hx hb dL_law_335 ?_
  refine lv_eqi (y := nI (k + 4)) (nI_add _ _) ?_
  refine va_sld hx hb hX hbl hbA hS (vp_in_nI (n := k + 4) (by omega) (by omega)) dL_law_336 ?_
  refine lv_eqi (y := xs (k + 4)) (congrArg xs (nI_clamp (by omega))) ?_
  refine lv_aload_n hx hb dL_law_337 rfl (lv_at hl 0 rfl) ?_
  refine lv_iload_n hx hb dL_law_338 rfl (lv_at hl 3 rfl) ?_
  refine lv_iconst (v := 5) hx hb dL_law_339 (by decide) ?_
  refine lv_eqi (y := nI 5) rfl ?_
  refine lv_iadd hx hb dL_law_340 ?_
  refine lv_eqi (y := nI (k + 5)) (nI_add _ _) ?_
  refine va_sld hx hb hX hbl hbA hS (vp_in_nI (n := k + 5) (by omega) (by omega)) dL_law_341 ?_
  refine lv_eqi (y := xs (k + 5)) (congrArg xs (nI_clamp (by omega))) ?_
  refine law_ro (va_runV (As := [.int (xs (k + 1)), .int (xs (k + 2)), .int (xs (k + 3)), .int (xs (k + 4)), .int (xs (k + 5))]) (rest := []) ⟨hx, hb, hml, hown, hts⟩ (t_X10_thrown l D cI cR cM _ hj hG hI) (cwV 5 hts gL_law_X10_thrown rfl rfl rfl (by decide +kernel) ⟨Nat.le_of_ble_eq_true rfl, Nat.le_of_ble_eq_true rfl⟩) (pre_T hK hP1 hD1 (gm_10 hG) (hall_at hG hI) rfl) rfl rfl hl.1 rfl (lv_room (Nat.le_of_ble_eq_true rfl)) dL_law_342 ⟨by omega, by omega⟩) J hP hS hA (fun r1 H locs _ J hP hS => ?_)
  refine lv_pop hx hb dL_law_345 rfl ?_
  refine lv_aload_n hx hb dL_law_346 rfl (lv_at hl 2 rfl) ?_
  refine lv_aload_n hx hb dL_law_347 rfl (lv_at hl 0 rfl) ?_
  refine lv_iload_n hx hb dL_law_348 rfl (lv_at hl 3 rfl) ?_
  refine lv_iconst (v := 1) hx hb dL_law_349 (by decide) ?_
  refine lv_eqi (y := nI 1) rfl ?_
  refine lv_iadd hx hb dL_law_350 ?_
  refine lv_eqi (y := nI (k + 1)) (nI_add _ _) ?_
  refine va_sld hx hb hX hbl hbA hS (vp_in_nI (n := k + 1) (by omega) (by omega)) dL_law_351 ?_
  refine lv_eqi (y := xs (k + 1)) (congrArg xs (nI_clamp (by omega))) ?_
  refine lv_aload_n hx hb dL_law_352 rfl (lv_at hl 0 rfl) ?_
  refine lv_iload_n hx hb dL_law_353 rfl (lv_at hl 3 rfl) ?_
  refine lv_iconst (v := 2) hx hb dL_law_354 (by decide) ?_
  refine lv_eqi (y := nI 2) rfl ?_
  refine lv_iadd hx hb dL_law_355 ?_
  refine lv_eqi (y := nI (k + 2)) (nI_add _ _) ?_
  refine va_sld hx hb hX hbl hbA hS (vp_in_nI (n := k + 2) (by omega) (by omega)) dL_law_356 ?_
  refine lv_eqi (y := xs (k + 2)) (congrArg xs (nI_clamp (by omega))) ?_
  refine lv_aload_n hx hb dL_law_357 rfl (lv_at hl 0 rfl) ?_
  refine lv_iload_n hx hb dL_law_358 rfl (lv_at hl 3 rfl) ?_
  refine lv_iconst (v := 3) hx hb dL_law_359 (by decide) ?_
  refine lv_eqi (y := nI 3) rfl ?_
  refine lv_iadd hx hb dL_law_360 ?_
  refine lv_eqi (y := nI (k + 3)) (nI_add _ _) ?_
  refine va_sld hx hb hX hbl hbA hS (vp_in_nI (n := k + 3) (by omega) (by omega)) dL_law_361 ?_
  refine lv_eqi (y := xs (k + 3)) (congrArg xs (nI_clamp (by omega))) ?_
  refine lv_aload_n hx hb dL_law_362 rfl (lv_at hl 0 rfl) ?_
  refine lv_iload_n hx hb dL_law_363 rfl (lv_at hl 3 rfl) ?_
  refine lv_iconst (v := 4) hx hb dL_law_364 (by decide) ?_
  refine lv_eqi (y := nI 4) rfl ?_
  refine lv_iadd hx hb dL_law_365 ?_
  refine lv_eqi (y := nI (k + 4)) (nI_add _ _) ?_
  refine va_sld hx hb hX hbl hbA hS (vp_in_nI (n := k + 4) (by omega) (by omega)) dL_law_366 ?_
  refine lv_eqi (y := xs (k + 4)) (congrArg xs (nI_clamp (by omega))) ?_
  refine lv_aload_n hx hb dL_law_367 rfl (lv_at hl 0 rfl) ?_
  refine lv_iload_n hx hb dL_law_368 rfl (lv_at hl 3 rfl) ?_
  refine lv_iconst (v := 5) hx hb dL_law_369 (by decide) ?_
  refine lv_eqi (y := nI 5) rfl ?_
  refine lv_iadd hx hb dL_law_370 ?_
  refine lv_eqi (y := nI (k + 5)) (nI_add _ _) ?_
  refine va_sld hx hb hX hbl hbA hS (vp_in_nI (n := k + 5) (by omega) (by omega)) dL_law_371 ?_
  refine lv_eqi (y := xs (k + 5)) (congrArg xs (nI_clamp (by omega))) ?_
  refine law_ro (va_runV (As := [.int (xs (k + 1)), .int (xs (k + 2)), .int (xs (k + 3)), .int (xs (k + 4)), .int (xs (k + 5))]) (rest := []) ⟨hx, hb, hml, hown, hts⟩ (k_thrown l D cI cR cM _ (by first | assumption | omega) (by first | assumption | omega) (by first | assumption | omega) (by first | assumption | omega)) (cwV 5 hts gL_law_X11_thrown rfl rfl rfl (by decide +kernel) ⟨Nat.le_of_ble_eq_true rfl, Nat.le_of_ble_eq_true rfl⟩) (pre_V hK hP hD 0 11 rfl rfl) rfl rfl hl.1 rfl (lv_room (Nat.le_of_ble_eq_true rfl)) dL_law_372 ⟨by omega, by omega⟩) J hP hS hA (fun r2 H locs hw J hP hS => ?_)
  refine lv_pop hx hb dL_law_375 rfl ?_
  refine lv_goto (tgt := 947) hx hb dL_law_376 (by decide) ?_
  refine W.widen (k := N9 + 18) (n := M9 + 1193) (by omega) (by omega) ?_
  exact hend _ _ _ ⟨L, S, f, x0, x1, x2, x3, x4, x5, x6, x7, x8, x9, x10, x11, x12, x13, x14, x15, x16, x17, x18, x19, x20, f0, f1, f2, f3, f4, f5, f6, f7, f8, f9, f10, f11, f12, f13, f14, f15, f16, f17, f18, f19, f20, f21, f22, f23, f24, J, hP, hD, hap, hLK, hSX, ⟨(by first | assumption | omega), (by first | assumption | omega), (by first | assumption | omega), (by first | assumption | omega), (by first | assumption | omega), (by first | assumption | omega), (by first | assumption | omega), (by first | assumption | omega), (by first | assumption | omega), (by first | assumption | omega), (by first | assumption | omega)⟩⟩ hS hl
