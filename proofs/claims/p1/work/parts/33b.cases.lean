theorem dL_law_270 : decode cL_law 270 = .ok (.aload_n 1, 1) := by decide +kernel
theorem dL_law_271 : decode cL_law 271 = .ok (.aload_n 0, 1) := by decide +kernel
theorem dL_law_272 : decode cL_law 272 = .ok (.iload_n 3, 1) := by decide +kernel
theorem dL_law_273 : decode cL_law 273 = .ok (.iconst 1, 1) := by decide +kernel
theorem dL_law_274 : decode cL_law 274 = .ok (.iadd, 1) := by decide +kernel
theorem dL_law_275 : decode cL_law 275 = .ok (.iaload, 1) := by decide +kernel
theorem dL_law_276 : decode cL_law 276 = .ok (.invokevirtual 40, 3) := by decide +kernel
theorem dL_law_279 : decode cL_law 279 = .ok (.aload_n 2, 1) := by decide +kernel
theorem dL_law_280 : decode cL_law 280 = .ok (.aload_n 0, 1) := by decide +kernel
theorem dL_law_281 : decode cL_law 281 = .ok (.iload_n 3, 1) := by decide +kernel
theorem dL_law_282 : decode cL_law 282 = .ok (.iconst 1, 1) := by decide +kernel
theorem dL_law_283 : decode cL_law 283 = .ok (.iadd, 1) := by decide +kernel
theorem dL_law_284 : decode cL_law 284 = .ok (.iaload, 1) := by decide +kernel
theorem dL_law_285 : decode cL_law 285 = .ok (.invokevirtual 44, 3) := by decide +kernel
theorem dL_law_288 : decode cL_law 288 = .ok (.if_icmp .eq 659, 3) := by decide +kernel
theorem dL_law_293 : decode cL_law 293 = .ok (.aload_n 1, 1) := by decide +kernel
theorem dL_law_294 : decode cL_law 294 = .ok (.aload_n 0, 1) := by decide +kernel
theorem dL_law_295 : decode cL_law 295 = .ok (.iload_n 3, 1) := by decide +kernel
theorem dL_law_296 : decode cL_law 296 = .ok (.iconst 1, 1) := by decide +kernel
theorem dL_law_297 : decode cL_law 297 = .ok (.iadd, 1) := by decide +kernel
theorem dL_law_298 : decode cL_law 298 = .ok (.iaload, 1) := by decide +kernel
theorem dL_law_299 : decode cL_law 299 = .ok (.invokevirtual 45, 3) := by decide +kernel
theorem dL_law_302 : decode cL_law 302 = .ok (.aload_n 2, 1) := by decide +kernel
theorem dL_law_303 : decode cL_law 303 = .ok (.aload_n 0, 1) := by decide +kernel
theorem dL_law_304 : decode cL_law 304 = .ok (.iload_n 3, 1) := by decide +kernel
theorem dL_law_305 : decode cL_law 305 = .ok (.iconst 1, 1) := by decide +kernel
theorem dL_law_306 : decode cL_law 306 = .ok (.iadd, 1) := by decide +kernel
theorem dL_law_307 : decode cL_law 307 = .ok (.iaload, 1) := by decide +kernel
theorem dL_law_308 : decode cL_law 308 = .ok (.invokevirtual 48, 3) := by decide +kernel
theorem dL_law_311 : decode cL_law 311 = .ok (.if_icmp .eq 636, 3) := by decide +kernel
theorem dL_law_316 : decode cL_law 316 = .ok (.aload_n 1, 1) := by decide +kernel
theorem dL_law_317 : decode cL_law 317 = .ok (.aload_n 0, 1) := by decide +kernel
theorem dL_law_318 : decode cL_law 318 = .ok (.iload_n 3, 1) := by decide +kernel
theorem dL_law_319 : decode cL_law 319 = .ok (.iconst 1, 1) := by decide +kernel
theorem dL_law_320 : decode cL_law 320 = .ok (.iadd, 1) := by decide +kernel
theorem dL_law_321 : decode cL_law 321 = .ok (.iaload, 1) := by decide +kernel
theorem dL_law_322 : decode cL_law 322 = .ok (.aload_n 0, 1) := by decide +kernel
theorem dL_law_323 : decode cL_law 323 = .ok (.iload_n 3, 1) := by decide +kernel
theorem dL_law_324 : decode cL_law 324 = .ok (.iconst 2, 1) := by decide +kernel
theorem dL_law_325 : decode cL_law 325 = .ok (.iadd, 1) := by decide +kernel
theorem dL_law_326 : decode cL_law 326 = .ok (.iaload, 1) := by decide +kernel
theorem dL_law_327 : decode cL_law 327 = .ok (.aload_n 0, 1) := by decide +kernel
theorem dL_law_328 : decode cL_law 328 = .ok (.iload_n 3, 1) := by decide +kernel
theorem dL_law_329 : decode cL_law 329 = .ok (.iconst 3, 1) := by decide +kernel
theorem dL_law_330 : decode cL_law 330 = .ok (.iadd, 1) := by decide +kernel
theorem dL_law_331 : decode cL_law 331 = .ok (.iaload, 1) := by decide +kernel
theorem dL_law_332 : decode cL_law 332 = .ok (.aload_n 0, 1) := by decide +kernel
theorem dL_law_333 : decode cL_law 333 = .ok (.iload_n 3, 1) := by decide +kernel
theorem dL_law_334 : decode cL_law 334 = .ok (.iconst 4, 1) := by decide +kernel
theorem dL_law_335 : decode cL_law 335 = .ok (.iadd, 1) := by decide +kernel
theorem dL_law_336 : decode cL_law 336 = .ok (.iaload, 1) := by decide +kernel
theorem dL_law_337 : decode cL_law 337 = .ok (.aload_n 0, 1) := by decide +kernel
theorem dL_law_338 : decode cL_law 338 = .ok (.iload_n 3, 1) := by decide +kernel
theorem dL_law_339 : decode cL_law 339 = .ok (.iconst 5, 1) := by decide +kernel
theorem dL_law_340 : decode cL_law 340 = .ok (.iadd, 1) := by decide +kernel
theorem dL_law_341 : decode cL_law 341 = .ok (.iaload, 1) := by decide +kernel
theorem dL_law_342 : decode cL_law 342 = .ok (.invokevirtual 49, 3) := by decide +kernel
theorem dL_law_345 : decode cL_law 345 = .ok (.aload_n 2, 1) := by decide +kernel
theorem dL_law_346 : decode cL_law 346 = .ok (.aload_n 0, 1) := by decide +kernel
theorem dL_law_347 : decode cL_law 347 = .ok (.iload_n 3, 1) := by decide +kernel
theorem dL_law_348 : decode cL_law 348 = .ok (.iconst 1, 1) := by decide +kernel
theorem dL_law_349 : decode cL_law 349 = .ok (.iadd, 1) := by decide +kernel
theorem dL_law_350 : decode cL_law 350 = .ok (.iaload, 1) := by decide +kernel
theorem dL_law_351 : decode cL_law 351 = .ok (.aload_n 0, 1) := by decide +kernel
theorem dL_law_352 : decode cL_law 352 = .ok (.iload_n 3, 1) := by decide +kernel
theorem dL_law_353 : decode cL_law 353 = .ok (.iconst 2, 1) := by decide +kernel
theorem dL_law_354 : decode cL_law 354 = .ok (.iadd, 1) := by decide +kernel
theorem dL_law_355 : decode cL_law 355 = .ok (.iaload, 1) := by decide +kernel
theorem dL_law_356 : decode cL_law 356 = .ok (.aload_n 0, 1) := by decide +kernel
theorem dL_law_357 : decode cL_law 357 = .ok (.iload_n 3, 1) := by decide +kernel
theorem dL_law_358 : decode cL_law 358 = .ok (.iconst 3, 1) := by decide +kernel
theorem dL_law_359 : decode cL_law 359 = .ok (.iadd, 1) := by decide +kernel
theorem dL_law_360 : decode cL_law 360 = .ok (.iaload, 1) := by decide +kernel
theorem dL_law_361 : decode cL_law 361 = .ok (.aload_n 0, 1) := by decide +kernel
theorem dL_law_362 : decode cL_law 362 = .ok (.iload_n 3, 1) := by decide +kernel
theorem dL_law_363 : decode cL_law 363 = .ok (.iconst 4, 1) := by decide +kernel
theorem dL_law_364 : decode cL_law 364 = .ok (.iadd, 1) := by decide +kernel
theorem dL_law_365 : decode cL_law 365 = .ok (.iaload, 1) := by decide +kernel
theorem dL_law_366 : decode cL_law 366 = .ok (.aload_n 0, 1) := by decide +kernel
theorem dL_law_367 : decode cL_law 367 = .ok (.iload_n 3, 1) := by decide +kernel
theorem dL_law_368 : decode cL_law 368 = .ok (.iconst 5, 1) := by decide +kernel
theorem dL_law_369 : decode cL_law 369 = .ok (.iadd, 1) := by decide +kernel
theorem dL_law_370 : decode cL_law 370 = .ok (.iaload, 1) := by decide +kernel
theorem dL_law_371 : decode cL_law 371 = .ok (.invokevirtual 52, 3) := by decide +kernel
theorem dL_law_374 : decode cL_law 374 = .ok (.if_icmp .eq 573, 3) := by decide +kernel
theorem dL_law_379 : decode cL_law 379 = .ok (.aload_n 1, 1) := by decide +kernel
theorem dL_law_380 : decode cL_law 380 = .ok (.aload_n 0, 1) := by decide +kernel
theorem dL_law_381 : decode cL_law 381 = .ok (.iload_n 3, 1) := by decide +kernel
theorem dL_law_382 : decode cL_law 382 = .ok (.iconst 1, 1) := by decide +kernel
theorem dL_law_383 : decode cL_law 383 = .ok (.iadd, 1) := by decide +kernel
theorem dL_law_384 : decode cL_law 384 = .ok (.iaload, 1) := by decide +kernel
theorem dL_law_385 : decode cL_law 385 = .ok (.aload_n 0, 1) := by decide +kernel
theorem dL_law_386 : decode cL_law 386 = .ok (.iload_n 3, 1) := by decide +kernel
theorem dL_law_387 : decode cL_law 387 = .ok (.iconst 2, 1) := by decide +kernel
theorem dL_law_388 : decode cL_law 388 = .ok (.iadd, 1) := by decide +kernel
theorem dL_law_389 : decode cL_law 389 = .ok (.iaload, 1) := by decide +kernel
theorem dL_law_390 : decode cL_law 390 = .ok (.invokevirtual 53, 3) := by decide +kernel
theorem dL_law_393 : decode cL_law 393 = .ok (.aload_n 2, 1) := by decide +kernel
theorem dL_law_394 : decode cL_law 394 = .ok (.aload_n 0, 1) := by decide +kernel
theorem dL_law_395 : decode cL_law 395 = .ok (.iload_n 3, 1) := by decide +kernel
theorem dL_law_396 : decode cL_law 396 = .ok (.iconst 1, 1) := by decide +kernel
theorem dL_law_397 : decode cL_law 397 = .ok (.iadd, 1) := by decide +kernel
theorem dL_law_398 : decode cL_law 398 = .ok (.iaload, 1) := by decide +kernel
theorem dL_law_399 : decode cL_law 399 = .ok (.aload_n 0, 1) := by decide +kernel
theorem dL_law_400 : decode cL_law 400 = .ok (.iload_n 3, 1) := by decide +kernel
theorem dL_law_401 : decode cL_law 401 = .ok (.iconst 2, 1) := by decide +kernel
theorem dL_law_402 : decode cL_law 402 = .ok (.iadd, 1) := by decide +kernel
theorem dL_law_403 : decode cL_law 403 = .ok (.iaload, 1) := by decide +kernel
theorem dL_law_404 : decode cL_law 404 = .ok (.invokevirtual 57, 3) := by decide +kernel
theorem dL_law_407 : decode cL_law 407 = .ok (.if_icmp .eq 540, 3) := by decide +kernel
theorem dL_law_412 : decode cL_law 412 = .ok (.aload_n 1, 1) := by decide +kernel
theorem dL_law_413 : decode cL_law 413 = .ok (.aload_n 0, 1) := by decide +kernel
theorem dL_law_414 : decode cL_law 414 = .ok (.iload_n 3, 1) := by decide +kernel
theorem dL_law_415 : decode cL_law 415 = .ok (.iconst 1, 1) := by decide +kernel
theorem dL_law_416 : decode cL_law 416 = .ok (.iadd, 1) := by decide +kernel
theorem dL_law_417 : decode cL_law 417 = .ok (.iaload, 1) := by decide +kernel
theorem dL_law_418 : decode cL_law 418 = .ok (.invokevirtual 58, 3) := by decide +kernel
theorem dL_law_421 : decode cL_law 421 = .ok (.aload_n 2, 1) := by decide +kernel
theorem dL_law_422 : decode cL_law 422 = .ok (.aload_n 0, 1) := by decide +kernel
theorem dL_law_423 : decode cL_law 423 = .ok (.iload_n 3, 1) := by decide +kernel
theorem dL_law_424 : decode cL_law 424 = .ok (.iconst 1, 1) := by decide +kernel
theorem dL_law_425 : decode cL_law 425 = .ok (.iadd, 1) := by decide +kernel
theorem dL_law_426 : decode cL_law 426 = .ok (.iaload, 1) := by decide +kernel
theorem dL_law_427 : decode cL_law 427 = .ok (.invokevirtual 61, 3) := by decide +kernel
theorem dL_law_430 : decode cL_law 430 = .ok (.if_icmp .eq 517, 3) := by decide +kernel
set_option maxRecDepth 20000 in
theorem ggL_law_X10_look : GoodIn wsL_law wsX10_look := goodIn_r _ [663, 31, 1100, 1101, 1102, 1103, 1104, 1105, 1106, 1107, 1157, 1158, 1159, 1160] (by decide +kernel) (by decide +kernel)
set_option maxRecDepth 20000 in
theorem gL_law_X10_look : GoodIn wsL_law (wsV RL 40 RX10 yX10_look wsX10_look) := goodIn_app (goodIn_of _ (by decide +kernel)) ggL_law_X10_look
set_option maxRecDepth 20000 in
theorem ggL_law_X11_look : GoodIn wsL_law wsX11_look := goodIn_r _ [667, 537, 539, 197, 198, 5, 199, 1108, 1109, 1110, 1111, 1112, 1113, 1114, 1115, 1116, 1117, 1118, 1119, 1120, 1121, 1122, 1123, 1124, 1125, 1126, 1127, 1128, 1129, 1130, 1131, 1132, 1133, 1134, 1135, 1136, 1137, 1138, 1139, 1140, 1141, 1142, 1143, 1144, 1145, 1146, 1147, 1148, 1149, 1150, 1151, 1152, 1153, 1154] (by decide +kernel) (by decide +kernel)
set_option maxRecDepth 20000 in
theorem gL_law_X11_look : GoodIn wsL_law (wsV RL 44 RX11 yX11_look wsX11_look) := goodIn_app (goodIn_of _ (by decide +kernel)) ggL_law_X11_look
set_option maxRecDepth 20000 in
theorem ggL_law_X10_beats : GoodIn wsL_law wsX10_beats := goodIn_r _ [671, 31, 672, 673, 674, 30, 675, 509, 400, 401, 402, 403, 64, 1100, 1101, 1102, 1103, 1104, 1105, 1106, 1107, 1202, 1203, 1204, 1205, 1157, 1158, 1159, 1160] (by decide +kernel) (by decide +kernel)
set_option maxRecDepth 20000 in
theorem gL_law_X10_beats : GoodIn wsL_law (wsV RL 45 RX10 yX10_beats wsX10_beats) := goodIn_app (goodIn_of _ (by decide +kernel)) ggL_law_X10_beats
set_option maxRecDepth 100000 in
set_option maxHeartbeats 4000000 in
theorem ggL_law_X11_beats : GoodIn wsL_law wsX11_beats := goodIn_r _ [679, 139, 680, 681, 682, 5, 683, 539, 197, 198, 199, 627, 628, 629, 630, 631, 632, 633, 1108, 1109, 1110, 1111, 1112, 1113, 1114, 1115, 1116, 1117, 1118, 1119, 1120, 1121, 1122, 1123, 1124, 1125, 1126, 1127, 1128, 1129, 1130, 1131, 1132, 1133, 1134, 1135, 1136, 1137, 1138, 1139, 1140, 1141, 1142, 1143, 1144, 1145, 1146, 1147, 1148, 1149, 1150, 1151, 1152, 1153, 1154] (by with_unfolding_all rfl) (by decide +kernel)
set_option maxRecDepth 20000 in
theorem gL_law_X11_beats : GoodIn wsL_law (wsV RL 48 RX11 yX11_beats wsX11_beats) := goodIn_app (goodIn_of _ (by decide +kernel)) ggL_law_X11_beats
set_option maxRecDepth 20000 in
theorem ggL_law_X10_thrown : GoodIn wsL_law wsX10_thrown := goodIn_r _ [687, 31, 672, 673, 674, 30, 675, 509, 400, 401, 402, 403, 64, 688, 689, 690, 93, 691, 386, 105, 106, 692, 447, 448, 449, 107, 693, 694, 695, 696, 697, 463, 464, 465, 1100, 1101, 1102, 1103, 1104, 1105, 1106, 1107, 1157, 1158, 1159, 1160, 1202, 1203, 1204, 1205] (by decide +kernel) (by decide +kernel)
set_option maxRecDepth 20000 in
theorem gL_law_X10_thrown : GoodIn wsL_law (wsV RL 49 RX10 yX10_thrown wsX10_thrown) := goodIn_app (goodIn_of _ (by decide +kernel)) ggL_law_X10_thrown
set_option maxRecDepth 100000 in
set_option maxHeartbeats 4000000 in
theorem ggL_law_X11_thrown : GoodIn wsL_law wsX11_thrown := goodIn_r _ [701, 680, 681, 682, 5, 683, 539, 197, 198, 199, 627, 628, 629, 630, 139, 631, 632, 633, 702, 703, 704, 705, 166, 706, 707, 708, 709, 710, 711, 712, 713, 1108, 1109, 1110, 1111, 1112, 1113, 1114, 1115, 1116, 1117, 1118, 1119, 1120, 1121, 1122, 1123, 1124, 1125, 1126, 1127, 1128, 1129, 1130, 1131, 1132, 1133, 1134, 1135, 1136, 1137, 1138, 1139, 1140, 1141, 1142, 1143, 1144, 1145, 1146, 1147, 1148, 1149, 1150, 1151, 1152, 1153, 1154] (by with_unfolding_all rfl) (by decide +kernel)
set_option maxRecDepth 20000 in
theorem gL_law_X11_thrown : GoodIn wsL_law (wsV RL 52 RX11 yX11_thrown wsX11_thrown) := goodIn_app (goodIn_of _ (by decide +kernel)) ggL_law_X11_thrown
set_option maxRecDepth 100000 in
set_option maxHeartbeats 4000000 in
theorem ggL_law_X10_good : GoodIn wsL_law wsX10_good := goodIn_r _ [717, 31, 42, 672, 673, 674, 30, 675, 509, 400, 401, 402, 403, 64, 718, 719, 720, 41, 721, 111, 722, 17, 18, 19, 723, 418, 419, 420, 724, 443, 444, 93, 445, 386, 106, 725, 694, 695, 696, 107, 726, 727, 728, 729, 105, 450, 451, 452, 453, 446, 447, 448, 449, 454, 455, 456, 457, 458, 459, 460, 461, 462, 463, 464, 465, 730, 731, 467, 468, 469, 732, 733, 734, 735, 442, 736, 737, 738, 739, 740, 480, 481, 482, 1100, 1101, 1102, 1103, 1104, 1105, 1106, 1107, 1157, 1158, 1159, 1160, 1182, 1183, 1184, 1185, 1186, 1187, 1188, 1189, 1202, 1203, 1204, 1205] (by with_unfolding_all rfl) (by decide +kernel)
set_option maxRecDepth 20000 in
theorem gL_law_X10_good : GoodIn wsL_law (wsV RL 53 RX10 yX10_good wsX10_good) := goodIn_app (goodIn_of _ (by decide +kernel)) ggL_law_X10_good
set_option maxRecDepth 100000 in
set_option maxHeartbeats 4000000 in
theorem ggL_law_X11_good : GoodIn wsL_law wsX11_good := goodIn_r _ [744, 745, 746, 139, 680, 681, 682, 5, 683, 539, 197, 198, 199, 627, 628, 629, 630, 631, 632, 633, 747, 748, 749, 750, 153, 706, 707, 708, 709, 710, 711, 712, 713, 751, 752, 753, 754, 166, 1108, 1109, 1110, 1111, 1112, 1113, 1114, 1115, 1116, 1117, 1118, 1119, 1120, 1121, 1122, 1123, 1124, 1125, 1126, 1127, 1128, 1129, 1130, 1131, 1132, 1133, 1134, 1135, 1136, 1137, 1138, 1139, 1140, 1141, 1142, 1143, 1144, 1145, 1146, 1147, 1148, 1149, 1150, 1151, 1152, 1153, 1154] (by with_unfolding_all rfl) (by decide +kernel)
set_option maxRecDepth 20000 in
theorem gL_law_X11_good : GoodIn wsL_law (wsV RL 57 RX11 yX11_good wsX11_good) := goodIn_app (goodIn_of _ (by decide +kernel)) ggL_law_X11_good
set_option maxRecDepth 100000 in
set_option maxHeartbeats 4000000 in
theorem ggL_law_X10_cycles : GoodIn wsL_law wsX10_cycles := goodIn_r _ [758, 42, 31, 672, 673, 674, 30, 675, 509, 400, 401, 402, 403, 64, 759, 760, 761, 41, 762, 763, 112, 113, 764, 765, 719, 720, 721, 111, 722, 17, 18, 19, 723, 418, 419, 420, 724, 443, 444, 93, 445, 386, 106, 725, 694, 695, 696, 107, 726, 727, 728, 729, 105, 450, 451, 452, 453, 446, 447, 448, 449, 454, 455, 456, 457, 458, 459, 460, 461, 462, 463, 464, 465, 766, 767, 768, 769, 770, 771, 772, 773, 774, 775, 776, 777, 778, 114, 115, 116, 1100, 1101, 1102, 1103, 1104, 1105, 1106, 1107, 1182, 1183, 1184, 1185, 1186, 1187, 1188, 1189, 1157, 1158, 1159, 1160, 1202, 1203, 1204, 1205] (by with_unfolding_all rfl) (by decide +kernel)
set_option maxRecDepth 20000 in
theorem gL_law_X10_cycles : GoodIn wsL_law (wsV RL 58 RX10 yX10_cycles wsX10_cycles) := goodIn_app (goodIn_of _ (by decide +kernel)) ggL_law_X10_cycles
set_option maxRecDepth 100000 in
set_option maxHeartbeats 4000000 in
theorem ggL_law_X11_cycles : GoodIn wsL_law wsX11_cycles := goodIn_r _ [782, 783, 784, 785, 786, 5, 787, 680, 681, 682, 683, 539, 197, 198, 199, 627, 628, 629, 630, 139, 631, 632, 633, 788, 789, 790, 791, 745, 747, 748, 749, 750, 153, 746, 706, 707, 708, 709, 710, 711, 712, 713, 792, 793, 794, 795, 154, 155, 156, 166, 157, 796, 797, 798, 799, 800, 801, 802, 803, 804, 805, 806, 807, 1108, 1109, 1110, 1111, 1112, 1113, 1114, 1115, 1116, 1117, 1118, 1119, 1120, 1121, 1122, 1123, 1124, 1125, 1126, 1127, 1128, 1129, 1130, 1131, 1132, 1133, 1134, 1135, 1136, 1137, 1138, 1139, 1140, 1141, 1142, 1143, 1144, 1145, 1146, 1147, 1148, 1149, 1150, 1151, 1152, 1153, 1154] (by with_unfolding_all rfl) (by decide +kernel)
set_option maxRecDepth 20000 in
theorem gL_law_X11_cycles : GoodIn wsL_law (wsV RL 61 RX11 yX11_cycles wsX11_cycles) := goodIn_app (goodIn_of _ (by decide +kernel)) ggL_law_X11_cycles
set_option maxRecDepth 100000 in
set_option maxHeartbeats 4000000 in
theorem law_c4 {p : Program} {l : Launch} {e : Env} {s : State} {m : MethodId} {below : List Frame} {meth : Method} {c : Code} {b : Nat} {xs : Nat → Int32} {A : Nat → Prop} {D : va_G} {cI cR cM : ClassId} {jn : Nat} {hh mm : Nat} {uh um : Nat → Nat} {H : Heap} {locs : List Loc} {ls : Array Slot} (C : LC p s m meth c b 7 xs A D cI cR cM) (hP : va_P D vwCl [(hh, .inr (10, [.int (nI jn), .ref (uh 0), .ref (uh 1), .ref (uh 2), .ref (uh 3), .ref (uh 4), .ref (uh 5), .ref (uh 6)])), (uh 1, .inr (0, [.ref (uh 8), .ref (uh 9), .int 0, .int 0])), (mm, .inr (11, [.int (nI jn), .ref (um 0), .ref (um 1), .int 0, .int 0, .ref (um 2), .int 0, .int (-1), .int (-1), .int 0, .int 0, .int 0, .int 0, .int 0, .ref (um 3), .ref (um 4), .ref (um 5), .ref (um 6), .ref (um 7), .int 0, .int 0, .int 0, .ref (um 8), .ref (um 9), .ref (um 10), .int 0, .int 0, .ref (um 11), .int 0, .int 0, .ref (um 12), .ref (um 13), .ref (um 14), .ref (um 15), .ref (um 16), .int 0, .ref (um 17), .ref (um 18), .ref (um 19), .ref (um 20), .ref (um 21), .ref (um 22), .int 0, .int 0, .int 0, .ref (um 23), .ref (um 24)]))] H) (hD : va_D A [(hh, .inr (10, [.int (nI jn), .ref (uh 0), .ref (uh 1), .ref (uh 2), .ref (uh 3), .ref (uh 4), .ref (uh 5), .ref (uh 6)])), (uh 1, .inr (0, [.ref (uh 8), .ref (uh 9), .int 0, .int 0])), (mm, .inr (11, [.int (nI jn), .ref (um 0), .ref (um 1), .int 0, .int 0, .ref (um 2), .int 0, .int (-1), .int (-1), .int 0, .int 0, .int 0, .int 0, .int 0, .ref (um 3), .ref (um 4), .ref (um 5), .ref (um 6), .ref (um 7), .int 0, .int 0, .int 0, .ref (um 8), .ref (um 9), .ref (um 10), .int 0, .int 0, .ref (um 11), .int 0, .int 0, .ref (um 12), .ref (um 13), .ref (um 14), .ref (um 15), .ref (um 16), .int 0, .ref (um 17), .ref (um 18), .ref (um 19), .ref (um 20), .ref (um 21), .ref (um 22), .int 0, .int 0, .int 0, .ref (um 23), .ref (um 24)]))]) (hS : va_S A s.heap H locs) (hl : lv_has ls 4 [(0, .ref b), (1, .ref hh), (2, .ref mm), (3, .int 1)]) : W p l e room_1 s m #[Value.ref b] below meth c H locs 92 95787 (lw_Z below #[Value.ref b] s) (F0 m 270 ls []) := by
  have C0 := C
  obtain ⟨hx, hb, hr, hml, hown, hts, hX, hbl, hlocks, hK, hA, hA2⟩ := C
  have hbA : ¬ A b := fun q => absurd (hA2 b q) (Nat.not_le.mpr hbl)
  refine lv_aload_n hx hb dL_law_270 rfl (lv_at hl 1 rfl) ?_
  refine lv_aload_n hx hb dL_law_271 rfl (lv_at hl 0 rfl) ?_
  refine lv_iload_n hx hb dL_law_272 rfl (lv_at hl 3 rfl) ?_
  refine lv_iconst (v := 1) hx hb dL_law_273 (by decide) ?_
  refine lv_iadd hx hb dL_law_274 ?_
  refine lv_eqi (y := 2) (by decide) ?_
  refine va_sld hx hb hX hbl hbA hS (vp_in_nI (n := 2) (by decide) (by decide)) dL_law_275 ?_
  refine lv_eqi (y := xs 2) rfl ?_
  have hPc := hP.sub (ws' := [(hh, .inr (10, [.int (nI jn), .ref (uh 0), .ref (uh 1), .ref (uh 2), .ref (uh 3), .ref (uh 4), .ref (uh 5), .ref (uh 6)])), (uh 1, .inr (0, [.ref (uh 8), .ref (uh 9), .int 0, .int 0]))]) [0, 1] rfl
  have hDc := hD.sub (ws' := [(hh, .inr (10, [.int (nI jn), .ref (uh 0), .ref (uh 1), .ref (uh 2), .ref (uh 3), .ref (uh 4), .ref (uh 5), .ref (uh 6)])), (uh 1, .inr (0, [.ref (uh 8), .ref (uh 9), .int 0, .int 0]))]) [0, 1] (by decide) rfl
  refine call_g (wr := [(mm, .inr (11, [.int (nI jn), .ref (um 0), .ref (um 1), .int 0, .int 0, .ref (um 2), .int 0, .int (-1), .int (-1), .int 0, .int 0, .int 0, .int 0, .int 0, .ref (um 3), .ref (um 4), .ref (um 5), .ref (um 6), .ref (um 7), .int 0, .int 0, .int 0, .ref (um 8), .ref (um 9), .ref (um 10), .int 0, .int 0, .ref (um 11), .int 0, .int 0, .ref (um 12), .ref (um 13), .ref (um 14), .ref (um 15), .ref (um 16), .int 0, .ref (um 17), .ref (um 18), .ref (um 19), .ref (um 20), .ref (um 21), .ref (um 22), .int 0, .int 0, .int 0, .ref (um 23), .ref (um 24)]))]) (va_runV (As := [.int (xs 2)]) (rest := []) ⟨hx, hb, hml, hown, hts⟩ (c_look l D cI cR cM _ (xs 2) hh (.int (nI jn)) (.ref (uh 0)) (.ref (uh 2)) (.ref (uh 3)) (.ref (uh 4)) (.ref (uh 5)) (.ref (uh 6)) (uh 1) (uh 8) (uh 9)) (cwV 1 hts gL_law_X10_look rfl rfl rfl (by decide +kernel) ⟨Nat.le_of_ble_eq_true rfl, Nat.le_of_ble_eq_true rfl⟩) (pre_V hK hPc hDc 0 10 rfl rfl) rfl rfl hl.1 rfl (lv_room (Nat.le_of_ble_eq_true rfl)) dL_law_276 ⟨Nat.le_of_ble_eq_true rfl, Nat.le_of_ble_eq_true rfl⟩) hP hD hS hA [0, 1] [2] rfl rfl (by decide) (by decide) (fun _u H locs hw hP hD hS => ?_)
  have hP : va_P D vwCl [(mm, .inr (11, [.int (nI jn), .ref (um 0), .ref (um 1), .int 0, .int 0, .ref (um 2), .int 0, .int (-1), .int (-1), .int 0, .int 0, .int 0, .int 0, .int 0, .ref (um 3), .ref (um 4), .ref (um 5), .ref (um 6), .ref (um 7), .int 0, .int 0, .int 0, .ref (um 8), .ref (um 9), .ref (um 10), .int 0, .int 0, .ref (um 11), .int 0, .int 0, .ref (um 12), .ref (um 13), .ref (um 14), .ref (um 15), .ref (um 16), .int 0, .ref (um 17), .ref (um 18), .ref (um 19), .ref (um 20), .ref (um 21), .ref (um 22), .int 0, .int 0, .int 0, .ref (um 23), .ref (um 24)]))] H := hP
  have hD : va_D A [(mm, .inr (11, [.int (nI jn), .ref (um 0), .ref (um 1), .int 0, .int 0, .ref (um 2), .int 0, .int (-1), .int (-1), .int 0, .int 0, .int 0, .int 0, .int 0, .ref (um 3), .ref (um 4), .ref (um 5), .ref (um 6), .ref (um 7), .int 0, .int 0, .int 0, .ref (um 8), .ref (um 9), .ref (um 10), .int 0, .int 0, .ref (um 11), .int 0, .int 0, .ref (um 12), .ref (um 13), .ref (um 14), .ref (um 15), .ref (um 16), .int 0, .ref (um 17), .ref (um 18), .ref (um 19), .ref (um 20), .ref (um 21), .ref (um 22), .int 0, .int 0, .int 0, .ref (um 23), .ref (um 24)]))] := hD
  refine lv_aload_n hx hb dL_law_279 rfl (lv_at hl 2 rfl) ?_
  refine lv_aload_n hx hb dL_law_280 rfl (lv_at hl 0 rfl) ?_
  refine lv_iload_n hx hb dL_law_281 rfl (lv_at hl 3 rfl) ?_
  refine lv_iconst (v := 1) hx hb dL_law_282 (by decide) ?_
  refine lv_iadd hx hb dL_law_283 ?_
  refine lv_eqi (y := 2) (by decide) ?_
  refine va_sld hx hb hX hbl hbA hS (vp_in_nI (n := 2) (by decide) (by decide)) dL_law_284 ?_
  refine lv_eqi (y := xs 2) rfl ?_
  have hPc := hP.sub (ws' := [(mm, .inr (11, [.int (nI jn), .ref (um 0), .ref (um 1), .int 0, .int 0, .ref (um 2), .int 0, .int (-1), .int (-1), .int 0, .int 0, .int 0, .int 0, .int 0, .ref (um 3), .ref (um 4), .ref (um 5), .ref (um 6), .ref (um 7), .int 0, .int 0, .int 0, .ref (um 8), .ref (um 9), .ref (um 10), .int 0, .int 0, .ref (um 11), .int 0, .int 0, .ref (um 12), .ref (um 13), .ref (um 14), .ref (um 15), .ref (um 16), .int 0, .ref (um 17), .ref (um 18), .ref (um 19), .ref (um 20), .ref (um 21), .ref (um 22), .int 0, .int 0, .int 0, .ref (um 23), .ref (um 24)]))]) [0] rfl
  have hDc := hD.sub (ws' := [(mm, .inr (11, [.int (nI jn), .ref (um 0), .ref (um 1), .int 0, .int 0, .ref (um 2), .int 0, .int (-1), .int (-1), .int 0, .int 0, .int 0, .int 0, .int 0, .ref (um 3), .ref (um 4), .ref (um 5), .ref (um 6), .ref (um 7), .int 0, .int 0, .int 0, .ref (um 8), .ref (um 9), .ref (um 10), .int 0, .int 0, .ref (um 11), .int 0, .int 0, .ref (um 12), .ref (um 13), .ref (um 14), .ref (um 15), .ref (um 16), .int 0, .ref (um 17), .ref (um 18), .ref (um 19), .ref (um 20), .ref (um 21), .ref (um 22), .int 0, .int 0, .int 0, .ref (um 23), .ref (um 24)]))]) [0] (by decide) rfl
  refine call_g (wr := []) (va_runV (As := [.int (xs 2)]) (rest := [.int (if xs 2 = 0 then 1 else 0)]) ⟨hx, hb, hml, hown, hts⟩ (c_mlook l D cI cR cM _ (xs 2) mm (.int (nI jn)) (.ref (um 0)) (.ref (um 1)) (.int 0) (.ref (um 2)) (.int 0) (.int (-1)) (.int (-1)) (.int 0) (.int 0) (.int 0) (.int 0) (.int 0) (.ref (um 3)) (.ref (um 4)) (.ref (um 5)) (.ref (um 6)) (.ref (um 7)) (.int 0) (.int 0) (.int 0) (.ref (um 8)) (.ref (um 9)) (.ref (um 10)) (.int 0) (.int 0) (.ref (um 11)) (.int 0) (.int 0) (.ref (um 12)) (.ref (um 13)) (.ref (um 14)) (.ref (um 15)) (.ref (um 16)) (.int 0) (.ref (um 17)) (.ref (um 18)) (.ref (um 19)) (.ref (um 20)) (.ref (um 21)) (.ref (um 22)) (.int 0) (.int 0) (.int 0) (.ref (um 23)) (.ref (um 24))) (cwV 1 hts gL_law_X11_look rfl rfl rfl (by decide +kernel) ⟨Nat.le_of_ble_eq_true rfl, Nat.le_of_ble_eq_true rfl⟩) (pre_V hK hPc hDc 0 11 rfl rfl) rfl rfl hl.1 rfl (lv_room (Nat.le_of_ble_eq_true rfl)) dL_law_285 ⟨Nat.le_of_ble_eq_true rfl, Nat.le_of_ble_eq_true rfl⟩) hP hD hS hA [0] [] rfl rfl (by decide) (by decide) (fun _u H locs hw hP hD hS => ?_)
  have hP : va_P D vwCl [] H := hP
  have hD : va_D A [] := hD
  refine lv_icmp_eq (tgt := 947) hx hb dL_law_288 (by decide) (fun c288 => ?_) (fun c288 => absurd (rfl) c288)
  exact law_end C0 _ _ _ hS (lv_sub hl [0, 3] rfl)
set_option maxRecDepth 100000 in
set_option maxHeartbeats 4000000 in
theorem law_c5 {p : Program} {l : Launch} {e : Env} {s : State} {m : MethodId} {below : List Frame} {meth : Method} {c : Code} {b : Nat} {xs : Nat → Int32} {A : Nat → Prop} {D : va_G} {cI cR cM : ClassId} {jn : Nat} {hh mm : Nat} {uh um : Nat → Nat} {H : Heap} {locs : List Loc} {ls : Array Slot} (C : LC p s m meth c b 7 xs A D cI cR cM) (hP : va_P D vwCl [(hh, .inr (10, [.int (nI jn), .ref (uh 0), .ref (uh 1), .ref (uh 2), .ref (uh 3), .ref (uh 4), .ref (uh 5), .ref (uh 6)])), (uh 1, .inr (0, [.ref (uh 8), .ref (uh 9), .int 0, .int 0])), (uh 8, .inl (cR, 488, .inr (.inr (.inr (.inr (fun _ => none)))))), (mm, .inr (11, [.int (nI jn), .ref (um 0), .ref (um 1), .int 0, .int 0, .ref (um 2), .int 0, .int (-1), .int (-1), .int 0, .int 0, .int 0, .int 0, .int 0, .ref (um 3), .ref (um 4), .ref (um 5), .ref (um 6), .ref (um 7), .int 0, .int 0, .int 0, .ref (um 8), .ref (um 9), .ref (um 10), .int 0, .int 0, .ref (um 11), .int 0, .int 0, .ref (um 12), .ref (um 13), .ref (um 14), .ref (um 15), .ref (um 16), .int 0, .ref (um 17), .ref (um 18), .ref (um 19), .ref (um 20), .ref (um 21), .ref (um 22), .int 0, .int 0, .int 0, .ref (um 23), .ref (um 24)]))] H) (hD : va_D A [(hh, .inr (10, [.int (nI jn), .ref (uh 0), .ref (uh 1), .ref (uh 2), .ref (uh 3), .ref (uh 4), .ref (uh 5), .ref (uh 6)])), (uh 1, .inr (0, [.ref (uh 8), .ref (uh 9), .int 0, .int 0])), (uh 8, .inl (cR, 488, .inr (.inr (.inr (.inr (fun _ => none)))))), (mm, .inr (11, [.int (nI jn), .ref (um 0), .ref (um 1), .int 0, .int 0, .ref (um 2), .int 0, .int (-1), .int (-1), .int 0, .int 0, .int 0, .int 0, .int 0, .ref (um 3), .ref (um 4), .ref (um 5), .ref (um 6), .ref (um 7), .int 0, .int 0, .int 0, .ref (um 8), .ref (um 9), .ref (um 10), .int 0, .int 0, .ref (um 11), .int 0, .int 0, .ref (um 12), .ref (um 13), .ref (um 14), .ref (um 15), .ref (um 16), .int 0, .ref (um 17), .ref (um 18), .ref (um 19), .ref (um 20), .ref (um 21), .ref (um 22), .int 0, .int 0, .int 0, .ref (um 23), .ref (um 24)]))]) (hS : va_S A s.heap H locs) (hl : lv_has ls 4 [(0, .ref b), (1, .ref hh), (2, .ref mm), (3, .int 1)]) : W p l e room_1 s m #[Value.ref b] below meth c H locs 92 95787 (lw_Z below #[Value.ref b] s) (F0 m 293 ls []) := by
  have C0 := C
  obtain ⟨hx, hb, hr, hml, hown, hts, hX, hbl, hlocks, hK, hA, hA2⟩ := C
  have hbA : ¬ A b := fun q => absurd (hA2 b q) (Nat.not_le.mpr hbl)
  refine lv_aload_n hx hb dL_law_293 rfl (lv_at hl 1 rfl) ?_
  refine lv_aload_n hx hb dL_law_294 rfl (lv_at hl 0 rfl) ?_
  refine lv_iload_n hx hb dL_law_295 rfl (lv_at hl 3 rfl) ?_
  refine lv_iconst (v := 1) hx hb dL_law_296 (by decide) ?_
  refine lv_iadd hx hb dL_law_297 ?_
  refine lv_eqi (y := 2) (by decide) ?_
  refine va_sld hx hb hX hbl hbA hS (vp_in_nI (n := 2) (by decide) (by decide)) dL_law_298 ?_
  refine lv_eqi (y := xs 2) rfl ?_
  have hPc := hP.sub (ws' := [(hh, .inr (10, [.int (nI jn), .ref (uh 0), .ref (uh 1), .ref (uh 2), .ref (uh 3), .ref (uh 4), .ref (uh 5), .ref (uh 6)])), (uh 1, .inr (0, [.ref (uh 8), .ref (uh 9), .int 0, .int 0])), (uh 8, .inl (cR, 488, .inr (.inr (.inr (.inr (fun _ => none))))))]) [0, 1, 2] rfl
  have hDc := hD.sub (ws' := [(hh, .inr (10, [.int (nI jn), .ref (uh 0), .ref (uh 1), .ref (uh 2), .ref (uh 3), .ref (uh 4), .ref (uh 5), .ref (uh 6)])), (uh 1, .inr (0, [.ref (uh 8), .ref (uh 9), .int 0, .int 0])), (uh 8, .inl (cR, 488, .inr (.inr (.inr (.inr (fun _ => none))))))]) [0, 1, 2] (by decide) rfl
  refine ro (va_runV (As := [.int (xs 2)]) (rest := []) ⟨hx, hb, hml, hown, hts⟩ (c_beats l D cI cR cM _ (xs 2) hh (.int (nI jn)) (.ref (uh 0)) (.ref (uh 2)) (.ref (uh 3)) (.ref (uh 4)) (.ref (uh 5)) (.ref (uh 6)) (uh 1) (uh 8) (uh 9)) (cwV 1 hts gL_law_X10_beats rfl rfl rfl (by decide +kernel) ⟨Nat.le_of_ble_eq_true rfl, Nat.le_of_ble_eq_true rfl⟩) (pre_V hK hPc hDc 0 10 rfl rfl) rfl rfl hl.1 rfl (lv_room (Nat.le_of_ble_eq_true rfl)) dL_law_299 ⟨Nat.le_of_ble_eq_true rfl, Nat.le_of_ble_eq_true rfl⟩) hS hA hP (fun H locs hP hS => ?_)
  refine lv_aload_n hx hb dL_law_302 rfl (lv_at hl 2 rfl) ?_
  refine lv_aload_n hx hb dL_law_303 rfl (lv_at hl 0 rfl) ?_
  refine lv_iload_n hx hb dL_law_304 rfl (lv_at hl 3 rfl) ?_
  refine lv_iconst (v := 1) hx hb dL_law_305 (by decide) ?_
  refine lv_iadd hx hb dL_law_306 ?_
  refine lv_eqi (y := 2) (by decide) ?_
  refine va_sld hx hb hX hbl hbA hS (vp_in_nI (n := 2) (by decide) (by decide)) dL_law_307 ?_
  refine lv_eqi (y := xs 2) rfl ?_
  have hPc := hP.sub (ws' := [(mm, .inr (11, [.int (nI jn), .ref (um 0), .ref (um 1), .int 0, .int 0, .ref (um 2), .int 0, .int (-1), .int (-1), .int 0, .int 0, .int 0, .int 0, .int 0, .ref (um 3), .ref (um 4), .ref (um 5), .ref (um 6), .ref (um 7), .int 0, .int 0, .int 0, .ref (um 8), .ref (um 9), .ref (um 10), .int 0, .int 0, .ref (um 11), .int 0, .int 0, .ref (um 12), .ref (um 13), .ref (um 14), .ref (um 15), .ref (um 16), .int 0, .ref (um 17), .ref (um 18), .ref (um 19), .ref (um 20), .ref (um 21), .ref (um 22), .int 0, .int 0, .int 0, .ref (um 23), .ref (um 24)]))]) [3] rfl
  have hDc := hD.sub (ws' := [(mm, .inr (11, [.int (nI jn), .ref (um 0), .ref (um 1), .int 0, .int 0, .ref (um 2), .int 0, .int (-1), .int (-1), .int 0, .int 0, .int 0, .int 0, .int 0, .ref (um 3), .ref (um 4), .ref (um 5), .ref (um 6), .ref (um 7), .int 0, .int 0, .int 0, .ref (um 8), .ref (um 9), .ref (um 10), .int 0, .int 0, .ref (um 11), .int 0, .int 0, .ref (um 12), .ref (um 13), .ref (um 14), .ref (um 15), .ref (um 16), .int 0, .ref (um 17), .ref (um 18), .ref (um 19), .ref (um 20), .ref (um 21), .ref (um 22), .int 0, .int 0, .int 0, .ref (um 23), .ref (um 24)]))]) [3] (by decide) rfl
  refine ro (va_runV (As := [.int (xs 2)]) (rest := [.int (-1)]) ⟨hx, hb, hml, hown, hts⟩ (c_mbeats l D cI cR cM _ (xs 2) mm [.int (nI jn), .ref (um 0), .ref (um 1), .int 0, .int 0, .ref (um 2), .int 0, .int (-1), .int (-1), .int 0, .int 0, .int 0, .int 0, .int 0, .ref (um 3), .ref (um 4), .ref (um 5), .ref (um 6), .ref (um 7), .int 0, .int 0, .int 0, .ref (um 8), .ref (um 9), .ref (um 10), .int 0, .int 0, .ref (um 11), .int 0, .int 0, .ref (um 12), .ref (um 13), .ref (um 14), .ref (um 15), .ref (um 16), .int 0, .ref (um 17), .ref (um 18), .ref (um 19), .ref (um 20), .ref (um 21), .ref (um 22), .int 0, .int 0, .int 0, .ref (um 23), .ref (um 24)] rfl) (cwV 1 hts gL_law_X11_beats rfl rfl rfl (by decide +kernel) ⟨Nat.le_of_ble_eq_true rfl, Nat.le_of_ble_eq_true rfl⟩) (pre_V hK hPc hDc 0 11 rfl rfl) rfl rfl hl.1 rfl (lv_room (Nat.le_of_ble_eq_true rfl)) dL_law_308 ⟨Nat.le_of_ble_eq_true rfl, Nat.le_of_ble_eq_true rfl⟩) hS hA hP (fun H locs hP hS => ?_)
  refine lv_icmp_eq (tgt := 947) hx hb dL_law_311 (by decide) (fun c311 => ?_) (fun c311 => absurd (rfl) c311)
  exact law_end C0 _ _ _ hS (lv_sub hl [0, 3] rfl)
set_option maxRecDepth 100000 in
set_option maxHeartbeats 4000000 in
theorem law_c6 {p : Program} {l : Launch} {e : Env} {s : State} {m : MethodId} {below : List Frame} {meth : Method} {c : Code} {b : Nat} {xs : Nat → Int32} {A : Nat → Prop} {D : va_G} {cI cR cM : ClassId} {jn : Nat} {hh mm : Nat} {uh um : Nat → Nat} {H : Heap} {locs : List Loc} {ls : Array Slot} (C : LC p s m meth c b 7 xs A D cI cR cM) (hP : va_P D vwCl [(hh, .inr (10, [.int (nI jn), .ref (uh 0), .ref (uh 1), .ref (uh 2), .ref (uh 3), .ref (uh 4), .ref (uh 5), .ref (uh 6)])), (uh 1, .inr (0, [.ref (uh 8), .ref (uh 9), .int 0, .int 0])), (uh 8, .inl (cR, 488, .inr (.inr (.inr (.inr (fun _ => none)))))), (mm, .inr (11, [.int (nI jn), .ref (um 0), .ref (um 1), .int 0, .int 0, .ref (um 2), .int 0, .int (-1), .int (-1), .int 0, .int 0, .int 0, .int 0, .int 0, .ref (um 3), .ref (um 4), .ref (um 5), .ref (um 6), .ref (um 7), .int 0, .int 0, .int 0, .ref (um 8), .ref (um 9), .ref (um 10), .int 0, .int 0, .ref (um 11), .int 0, .int 0, .ref (um 12), .ref (um 13), .ref (um 14), .ref (um 15), .ref (um 16), .int 0, .ref (um 17), .ref (um 18), .ref (um 19), .ref (um 20), .ref (um 21), .ref (um 22), .int 0, .int 0, .int 0, .ref (um 23), .ref (um 24)]))] H) (hD : va_D A [(hh, .inr (10, [.int (nI jn), .ref (uh 0), .ref (uh 1), .ref (uh 2), .ref (uh 3), .ref (uh 4), .ref (uh 5), .ref (uh 6)])), (uh 1, .inr (0, [.ref (uh 8), .ref (uh 9), .int 0, .int 0])), (uh 8, .inl (cR, 488, .inr (.inr (.inr (.inr (fun _ => none)))))), (mm, .inr (11, [.int (nI jn), .ref (um 0), .ref (um 1), .int 0, .int 0, .ref (um 2), .int 0, .int (-1), .int (-1), .int 0, .int 0, .int 0, .int 0, .int 0, .ref (um 3), .ref (um 4), .ref (um 5), .ref (um 6), .ref (um 7), .int 0, .int 0, .int 0, .ref (um 8), .ref (um 9), .ref (um 10), .int 0, .int 0, .ref (um 11), .int 0, .int 0, .ref (um 12), .ref (um 13), .ref (um 14), .ref (um 15), .ref (um 16), .int 0, .ref (um 17), .ref (um 18), .ref (um 19), .ref (um 20), .ref (um 21), .ref (um 22), .int 0, .int 0, .int 0, .ref (um 23), .ref (um 24)]))]) (hS : va_S A s.heap H locs) (hl : lv_has ls 4 [(0, .ref b), (1, .ref hh), (2, .ref mm), (3, .int 1)]) : W p l e room_1 s m #[Value.ref b] below meth c H locs 92 95787 (lw_Z below #[Value.ref b] s) (F0 m 316 ls []) := by
  have C0 := C
  obtain ⟨hx, hb, hr, hml, hown, hts, hX, hbl, hlocks, hK, hA, hA2⟩ := C
  have hbA : ¬ A b := fun q => absurd (hA2 b q) (Nat.not_le.mpr hbl)
  refine lv_aload_n hx hb dL_law_316 rfl (lv_at hl 1 rfl) ?_
  refine lv_aload_n hx hb dL_law_317 rfl (lv_at hl 0 rfl) ?_
  refine lv_iload_n hx hb dL_law_318 rfl (lv_at hl 3 rfl) ?_
  refine lv_iconst (v := 1) hx hb dL_law_319 (by decide) ?_
  refine lv_iadd hx hb dL_law_320 ?_
  refine lv_eqi (y := 2) (by decide) ?_
  refine va_sld hx hb hX hbl hbA hS (vp_in_nI (n := 2) (by decide) (by decide)) dL_law_321 ?_
  refine lv_eqi (y := xs 2) rfl ?_
  refine lv_aload_n hx hb dL_law_322 rfl (lv_at hl 0 rfl) ?_
  refine lv_iload_n hx hb dL_law_323 rfl (lv_at hl 3 rfl) ?_
  refine lv_iconst (v := 2) hx hb dL_law_324 (by decide) ?_
  refine lv_iadd hx hb dL_law_325 ?_
  refine lv_eqi (y := 3) (by decide) ?_
  refine va_sld hx hb hX hbl hbA hS (vp_in_nI (n := 3) (by decide) (by decide)) dL_law_326 ?_
  refine lv_eqi (y := xs 3) rfl ?_
  refine lv_aload_n hx hb dL_law_327 rfl (lv_at hl 0 rfl) ?_
  refine lv_iload_n hx hb dL_law_328 rfl (lv_at hl 3 rfl) ?_
  refine lv_iconst (v := 3) hx hb dL_law_329 (by decide) ?_
  refine lv_iadd hx hb dL_law_330 ?_
  refine lv_eqi (y := 4) (by decide) ?_
  refine va_sld hx hb hX hbl hbA hS (vp_in_nI (n := 4) (by decide) (by decide)) dL_law_331 ?_
  refine lv_eqi (y := xs 4) rfl ?_
  refine lv_aload_n hx hb dL_law_332 rfl (lv_at hl 0 rfl) ?_
  refine lv_iload_n hx hb dL_law_333 rfl (lv_at hl 3 rfl) ?_
  refine lv_iconst (v := 4) hx hb dL_law_334 (by decide) ?_
  refine lv_iadd hx hb dL_law_335 ?_
  refine lv_eqi (y := 5) (by decide) ?_
  refine va_sld hx hb hX hbl hbA hS (vp_in_nI (n := 5) (by decide) (by decide)) dL_law_336 ?_
  refine lv_eqi (y := xs 5) rfl ?_
  refine lv_aload_n hx hb dL_law_337 rfl (lv_at hl 0 rfl) ?_
  refine lv_iload_n hx hb dL_law_338 rfl (lv_at hl 3 rfl) ?_
  refine lv_iconst (v := 5) hx hb dL_law_339 (by decide) ?_
  refine lv_iadd hx hb dL_law_340 ?_
  refine lv_eqi (y := 6) (by decide) ?_
  refine va_sld hx hb hX hbl hbA hS (vp_in_nI (n := 6) (by decide) (by decide)) dL_law_341 ?_
  refine lv_eqi (y := xs 6) rfl ?_
  have hPc := hP.sub (ws' := [(hh, .inr (10, [.int (nI jn), .ref (uh 0), .ref (uh 1), .ref (uh 2), .ref (uh 3), .ref (uh 4), .ref (uh 5), .ref (uh 6)])), (uh 1, .inr (0, [.ref (uh 8), .ref (uh 9), .int 0, .int 0])), (uh 8, .inl (cR, 488, .inr (.inr (.inr (.inr (fun _ => none))))))]) [0, 1, 2] rfl
  have hDc := hD.sub (ws' := [(hh, .inr (10, [.int (nI jn), .ref (uh 0), .ref (uh 1), .ref (uh 2), .ref (uh 3), .ref (uh 4), .ref (uh 5), .ref (uh 6)])), (uh 1, .inr (0, [.ref (uh 8), .ref (uh 9), .int 0, .int 0])), (uh 8, .inl (cR, 488, .inr (.inr (.inr (.inr (fun _ => none))))))]) [0, 1, 2] (by decide) rfl
  refine ro (va_runV (As := [.int (xs 2), .int (xs 3), .int (xs 4), .int (xs 5), .int (xs 6)]) (rest := []) ⟨hx, hb, hml, hown, hts⟩ (c_thrown l D cI cR cM _ (xs 2) (xs 3) (xs 4) (xs 5) (xs 6) hh (.int (nI jn)) (.ref (uh 0)) (.ref (uh 2)) (.ref (uh 3)) (.ref (uh 4)) (.ref (uh 5)) (.ref (uh 6)) (uh 1) (uh 8) (uh 9)) (cwV 5 hts gL_law_X10_thrown rfl rfl rfl (by decide +kernel) ⟨Nat.le_of_ble_eq_true rfl, Nat.le_of_ble_eq_true rfl⟩) (pre_V hK hPc hDc 0 10 rfl rfl) rfl rfl hl.1 rfl (lv_room (Nat.le_of_ble_eq_true rfl)) dL_law_342 ⟨Nat.le_of_ble_eq_true rfl, Nat.le_of_ble_eq_true rfl⟩) hS hA hP (fun H locs hP hS => ?_)
  refine lv_aload_n hx hb dL_law_345 rfl (lv_at hl 2 rfl) ?_
  refine lv_aload_n hx hb dL_law_346 rfl (lv_at hl 0 rfl) ?_
  refine lv_iload_n hx hb dL_law_347 rfl (lv_at hl 3 rfl) ?_
  refine lv_iconst (v := 1) hx hb dL_law_348 (by decide) ?_
  refine lv_iadd hx hb dL_law_349 ?_
  refine lv_eqi (y := 2) (by decide) ?_
  refine va_sld hx hb hX hbl hbA hS (vp_in_nI (n := 2) (by decide) (by decide)) dL_law_350 ?_
  refine lv_eqi (y := xs 2) rfl ?_
  refine lv_aload_n hx hb dL_law_351 rfl (lv_at hl 0 rfl) ?_
  refine lv_iload_n hx hb dL_law_352 rfl (lv_at hl 3 rfl) ?_
  refine lv_iconst (v := 2) hx hb dL_law_353 (by decide) ?_
  refine lv_iadd hx hb dL_law_354 ?_
  refine lv_eqi (y := 3) (by decide) ?_
  refine va_sld hx hb hX hbl hbA hS (vp_in_nI (n := 3) (by decide) (by decide)) dL_law_355 ?_
  refine lv_eqi (y := xs 3) rfl ?_
  refine lv_aload_n hx hb dL_law_356 rfl (lv_at hl 0 rfl) ?_
  refine lv_iload_n hx hb dL_law_357 rfl (lv_at hl 3 rfl) ?_
  refine lv_iconst (v := 3) hx hb dL_law_358 (by decide) ?_
  refine lv_iadd hx hb dL_law_359 ?_
  refine lv_eqi (y := 4) (by decide) ?_
  refine va_sld hx hb hX hbl hbA hS (vp_in_nI (n := 4) (by decide) (by decide)) dL_law_360 ?_
  refine lv_eqi (y := xs 4) rfl ?_
  refine lv_aload_n hx hb dL_law_361 rfl (lv_at hl 0 rfl) ?_
  refine lv_iload_n hx hb dL_law_362 rfl (lv_at hl 3 rfl) ?_
  refine lv_iconst (v := 4) hx hb dL_law_363 (by decide) ?_
  refine lv_iadd hx hb dL_law_364 ?_
  refine lv_eqi (y := 5) (by decide) ?_
  refine va_sld hx hb hX hbl hbA hS (vp_in_nI (n := 5) (by decide) (by decide)) dL_law_365 ?_
  refine lv_eqi (y := xs 5) rfl ?_
  refine lv_aload_n hx hb dL_law_366 rfl (lv_at hl 0 rfl) ?_
  refine lv_iload_n hx hb dL_law_367 rfl (lv_at hl 3 rfl) ?_
  refine lv_iconst (v := 5) hx hb dL_law_368 (by decide) ?_
  refine lv_iadd hx hb dL_law_369 ?_
  refine lv_eqi (y := 6) (by decide) ?_
  refine va_sld hx hb hX hbl hbA hS (vp_in_nI (n := 6) (by decide) (by decide)) dL_law_370 ?_
  refine lv_eqi (y := xs 6) rfl ?_
  have hPc := hP.sub (ws' := [(mm, .inr (11, [.int (nI jn), .ref (um 0), .ref (um 1), .int 0, .int 0, .ref (um 2), .int 0, .int (-1), .int (-1), .int 0, .int 0, .int 0, .int 0, .int 0, .ref (um 3), .ref (um 4), .ref (um 5), .ref (um 6), .ref (um 7), .int 0, .int 0, .int 0, .ref (um 8), .ref (um 9), .ref (um 10), .int 0, .int 0, .ref (um 11), .int 0, .int 0, .ref (um 12), .ref (um 13), .ref (um 14), .ref (um 15), .ref (um 16), .int 0, .ref (um 17), .ref (um 18), .ref (um 19), .ref (um 20), .ref (um 21), .ref (um 22), .int 0, .int 0, .int 0, .ref (um 23), .ref (um 24)]))]) [3] rfl
  have hDc := hD.sub (ws' := [(mm, .inr (11, [.int (nI jn), .ref (um 0), .ref (um 1), .int 0, .int 0, .ref (um 2), .int 0, .int (-1), .int (-1), .int 0, .int 0, .int 0, .int 0, .int 0, .ref (um 3), .ref (um 4), .ref (um 5), .ref (um 6), .ref (um 7), .int 0, .int 0, .int 0, .ref (um 8), .ref (um 9), .ref (um 10), .int 0, .int 0, .ref (um 11), .int 0, .int 0, .ref (um 12), .ref (um 13), .ref (um 14), .ref (um 15), .ref (um 16), .int 0, .ref (um 17), .ref (um 18), .ref (um 19), .ref (um 20), .ref (um 21), .ref (um 22), .int 0, .int 0, .int 0, .ref (um 23), .ref (um 24)]))]) [3] (by decide) rfl
  refine ro (va_runV (As := [.int (xs 2), .int (xs 3), .int (xs 4), .int (xs 5), .int (xs 6)]) (rest := [.int (-1)]) ⟨hx, hb, hml, hown, hts⟩ (c_mthrown l D cI cR cM _ (xs 2) (xs 3) (xs 4) (xs 5) (xs 6) mm [.int (nI jn), .ref (um 0), .ref (um 1), .int 0, .int 0, .ref (um 2), .int 0, .int (-1), .int (-1), .int 0, .int 0, .int 0, .int 0, .int 0, .ref (um 3), .ref (um 4), .ref (um 5), .ref (um 6), .ref (um 7), .int 0, .int 0, .int 0, .ref (um 8), .ref (um 9), .ref (um 10), .int 0, .int 0, .ref (um 11), .int 0, .int 0, .ref (um 12), .ref (um 13), .ref (um 14), .ref (um 15), .ref (um 16), .int 0, .ref (um 17), .ref (um 18), .ref (um 19), .ref (um 20), .ref (um 21), .ref (um 22), .int 0, .int 0, .int 0, .ref (um 23), .ref (um 24)] rfl) (cwV 5 hts gL_law_X11_thrown rfl rfl rfl (by decide +kernel) ⟨Nat.le_of_ble_eq_true rfl, Nat.le_of_ble_eq_true rfl⟩) (pre_V hK hPc hDc 0 11 rfl rfl) rfl rfl hl.1 rfl (lv_room (Nat.le_of_ble_eq_true rfl)) dL_law_371 ⟨Nat.le_of_ble_eq_true rfl, Nat.le_of_ble_eq_true rfl⟩) hS hA hP (fun H locs hP hS => ?_)
  refine lv_icmp_eq (tgt := 947) hx hb dL_law_374 (by decide) (fun c374 => ?_) (fun c374 => absurd (rfl) c374)
  exact law_end C0 _ _ _ hS (lv_sub hl [0, 3] rfl)
set_option maxRecDepth 100000 in
set_option maxHeartbeats 4000000 in
theorem law_c7 {p : Program} {l : Launch} {e : Env} {s : State} {m : MethodId} {below : List Frame} {meth : Method} {c : Code} {b : Nat} {xs : Nat → Int32} {A : Nat → Prop} {D : va_G} {cI cR cM : ClassId} {jn : Nat} {hh mm : Nat} {uh um : Nat → Nat} {H : Heap} {locs : List Loc} {ls : Array Slot} (C : LC p s m meth c b 7 xs A D cI cR cM) (hP : va_P D vwCl [(hh, .inr (10, [.int (nI jn), .ref (uh 0), .ref (uh 1), .ref (uh 2), .ref (uh 3), .ref (uh 4), .ref (uh 5), .ref (uh 6)])), (uh 1, .inr (0, [.ref (uh 8), .ref (uh 9), .int 0, .int 0])), (uh 8, .inl (cR, 488, .inr (.inr (.inr (.inr (fun _ => none)))))), (mm, .inr (11, [.int (nI jn), .ref (um 0), .ref (um 1), .int 0, .int 0, .ref (um 2), .int 0, .int (-1), .int (-1), .int 0, .int 0, .int 0, .int 0, .int 0, .ref (um 3), .ref (um 4), .ref (um 5), .ref (um 6), .ref (um 7), .int 0, .int 0, .int 0, .ref (um 8), .ref (um 9), .ref (um 10), .int 0, .int 0, .ref (um 11), .int 0, .int 0, .ref (um 12), .ref (um 13), .ref (um 14), .ref (um 15), .ref (um 16), .int 0, .ref (um 17), .ref (um 18), .ref (um 19), .ref (um 20), .ref (um 21), .ref (um 22), .int 0, .int 0, .int 0, .ref (um 23), .ref (um 24)]))] H) (hD : va_D A [(hh, .inr (10, [.int (nI jn), .ref (uh 0), .ref (uh 1), .ref (uh 2), .ref (uh 3), .ref (uh 4), .ref (uh 5), .ref (uh 6)])), (uh 1, .inr (0, [.ref (uh 8), .ref (uh 9), .int 0, .int 0])), (uh 8, .inl (cR, 488, .inr (.inr (.inr (.inr (fun _ => none)))))), (mm, .inr (11, [.int (nI jn), .ref (um 0), .ref (um 1), .int 0, .int 0, .ref (um 2), .int 0, .int (-1), .int (-1), .int 0, .int 0, .int 0, .int 0, .int 0, .ref (um 3), .ref (um 4), .ref (um 5), .ref (um 6), .ref (um 7), .int 0, .int 0, .int 0, .ref (um 8), .ref (um 9), .ref (um 10), .int 0, .int 0, .ref (um 11), .int 0, .int 0, .ref (um 12), .ref (um 13), .ref (um 14), .ref (um 15), .ref (um 16), .int 0, .ref (um 17), .ref (um 18), .ref (um 19), .ref (um 20), .ref (um 21), .ref (um 22), .int 0, .int 0, .int 0, .ref (um 23), .ref (um 24)]))]) (hS : va_S A s.heap H locs) (hl : lv_has ls 4 [(0, .ref b), (1, .ref hh), (2, .ref mm), (3, .int 1)]) : W p l e room_1 s m #[Value.ref b] below meth c H locs 92 95787 (lw_Z below #[Value.ref b] s) (F0 m 379 ls []) := by
  have C0 := C
  obtain ⟨hx, hb, hr, hml, hown, hts, hX, hbl, hlocks, hK, hA, hA2⟩ := C
  have hbA : ¬ A b := fun q => absurd (hA2 b q) (Nat.not_le.mpr hbl)
  refine lv_aload_n hx hb dL_law_379 rfl (lv_at hl 1 rfl) ?_
  refine lv_aload_n hx hb dL_law_380 rfl (lv_at hl 0 rfl) ?_
  refine lv_iload_n hx hb dL_law_381 rfl (lv_at hl 3 rfl) ?_
  refine lv_iconst (v := 1) hx hb dL_law_382 (by decide) ?_
  refine lv_iadd hx hb dL_law_383 ?_
  refine lv_eqi (y := 2) (by decide) ?_
  refine va_sld hx hb hX hbl hbA hS (vp_in_nI (n := 2) (by decide) (by decide)) dL_law_384 ?_
  refine lv_eqi (y := xs 2) rfl ?_
  refine lv_aload_n hx hb dL_law_385 rfl (lv_at hl 0 rfl) ?_
  refine lv_iload_n hx hb dL_law_386 rfl (lv_at hl 3 rfl) ?_
  refine lv_iconst (v := 2) hx hb dL_law_387 (by decide) ?_
  refine lv_iadd hx hb dL_law_388 ?_
  refine lv_eqi (y := 3) (by decide) ?_
  refine va_sld hx hb hX hbl hbA hS (vp_in_nI (n := 3) (by decide) (by decide)) dL_law_389 ?_
  refine lv_eqi (y := xs 3) rfl ?_
  have hPc := hP.sub (ws' := [(hh, .inr (10, [.int (nI jn), .ref (uh 0), .ref (uh 1), .ref (uh 2), .ref (uh 3), .ref (uh 4), .ref (uh 5), .ref (uh 6)])), (uh 1, .inr (0, [.ref (uh 8), .ref (uh 9), .int 0, .int 0])), (uh 8, .inl (cR, 488, .inr (.inr (.inr (.inr (fun _ => none))))))]) [0, 1, 2] rfl
  have hDc := hD.sub (ws' := [(hh, .inr (10, [.int (nI jn), .ref (uh 0), .ref (uh 1), .ref (uh 2), .ref (uh 3), .ref (uh 4), .ref (uh 5), .ref (uh 6)])), (uh 1, .inr (0, [.ref (uh 8), .ref (uh 9), .int 0, .int 0])), (uh 8, .inl (cR, 488, .inr (.inr (.inr (.inr (fun _ => none))))))]) [0, 1, 2] (by decide) rfl
  refine ro (va_runV (As := [.int (xs 2), .int (xs 3)]) (rest := []) ⟨hx, hb, hml, hown, hts⟩ (c_good l D cI cR cM _ (xs 2) (xs 3) hh (.int (nI jn)) (.ref (uh 0)) (.ref (uh 2)) (.ref (uh 3)) (.ref (uh 4)) (.ref (uh 5)) (.ref (uh 6)) (uh 1) (uh 8) (uh 9)) (cwV 2 hts gL_law_X10_good rfl rfl rfl (by decide +kernel) ⟨Nat.le_of_ble_eq_true rfl, Nat.le_of_ble_eq_true rfl⟩) (pre_V hK hPc hDc 0 10 rfl rfl) rfl rfl hl.1 rfl (lv_room (Nat.le_of_ble_eq_true rfl)) dL_law_390 ⟨Nat.le_of_ble_eq_true rfl, Nat.le_of_ble_eq_true rfl⟩) hS hA hP (fun H locs hP hS => ?_)
  refine lv_aload_n hx hb dL_law_393 rfl (lv_at hl 2 rfl) ?_
  refine lv_aload_n hx hb dL_law_394 rfl (lv_at hl 0 rfl) ?_
  refine lv_iload_n hx hb dL_law_395 rfl (lv_at hl 3 rfl) ?_
  refine lv_iconst (v := 1) hx hb dL_law_396 (by decide) ?_
  refine lv_iadd hx hb dL_law_397 ?_
  refine lv_eqi (y := 2) (by decide) ?_
  refine va_sld hx hb hX hbl hbA hS (vp_in_nI (n := 2) (by decide) (by decide)) dL_law_398 ?_
  refine lv_eqi (y := xs 2) rfl ?_
  refine lv_aload_n hx hb dL_law_399 rfl (lv_at hl 0 rfl) ?_
  refine lv_iload_n hx hb dL_law_400 rfl (lv_at hl 3 rfl) ?_
  refine lv_iconst (v := 2) hx hb dL_law_401 (by decide) ?_
  refine lv_iadd hx hb dL_law_402 ?_
  refine lv_eqi (y := 3) (by decide) ?_
  refine va_sld hx hb hX hbl hbA hS (vp_in_nI (n := 3) (by decide) (by decide)) dL_law_403 ?_
  refine lv_eqi (y := xs 3) rfl ?_
  have hPc := hP.sub (ws' := [(mm, .inr (11, [.int (nI jn), .ref (um 0), .ref (um 1), .int 0, .int 0, .ref (um 2), .int 0, .int (-1), .int (-1), .int 0, .int 0, .int 0, .int 0, .int 0, .ref (um 3), .ref (um 4), .ref (um 5), .ref (um 6), .ref (um 7), .int 0, .int 0, .int 0, .ref (um 8), .ref (um 9), .ref (um 10), .int 0, .int 0, .ref (um 11), .int 0, .int 0, .ref (um 12), .ref (um 13), .ref (um 14), .ref (um 15), .ref (um 16), .int 0, .ref (um 17), .ref (um 18), .ref (um 19), .ref (um 20), .ref (um 21), .ref (um 22), .int 0, .int 0, .int 0, .ref (um 23), .ref (um 24)]))]) [3] rfl
  have hDc := hD.sub (ws' := [(mm, .inr (11, [.int (nI jn), .ref (um 0), .ref (um 1), .int 0, .int 0, .ref (um 2), .int 0, .int (-1), .int (-1), .int 0, .int 0, .int 0, .int 0, .int 0, .ref (um 3), .ref (um 4), .ref (um 5), .ref (um 6), .ref (um 7), .int 0, .int 0, .int 0, .ref (um 8), .ref (um 9), .ref (um 10), .int 0, .int 0, .ref (um 11), .int 0, .int 0, .ref (um 12), .ref (um 13), .ref (um 14), .ref (um 15), .ref (um 16), .int 0, .ref (um 17), .ref (um 18), .ref (um 19), .ref (um 20), .ref (um 21), .ref (um 22), .int 0, .int 0, .int 0, .ref (um 23), .ref (um 24)]))]) [3] (by decide) rfl
  refine ro (va_runV (As := [.int (xs 2), .int (xs 3)]) (rest := [.int (-1)]) ⟨hx, hb, hml, hown, hts⟩ (c_mgood l D cI cR cM _ (xs 2) (xs 3) mm [.int (nI jn), .ref (um 0), .ref (um 1), .int 0, .int 0, .ref (um 2), .int 0, .int (-1), .int (-1), .int 0, .int 0, .int 0, .int 0, .int 0, .ref (um 3), .ref (um 4), .ref (um 5), .ref (um 6), .ref (um 7), .int 0, .int 0, .int 0, .ref (um 8), .ref (um 9), .ref (um 10), .int 0, .int 0, .ref (um 11), .int 0, .int 0, .ref (um 12), .ref (um 13), .ref (um 14), .ref (um 15), .ref (um 16), .int 0, .ref (um 17), .ref (um 18), .ref (um 19), .ref (um 20), .ref (um 21), .ref (um 22), .int 0, .int 0, .int 0, .ref (um 23), .ref (um 24)] rfl) (cwV 2 hts gL_law_X11_good rfl rfl rfl (by decide +kernel) ⟨Nat.le_of_ble_eq_true rfl, Nat.le_of_ble_eq_true rfl⟩) (pre_V hK hPc hDc 0 11 rfl rfl) rfl rfl hl.1 rfl (lv_room (Nat.le_of_ble_eq_true rfl)) dL_law_404 ⟨Nat.le_of_ble_eq_true rfl, Nat.le_of_ble_eq_true rfl⟩) hS hA hP (fun H locs hP hS => ?_)
  refine lv_icmp_eq (tgt := 947) hx hb dL_law_407 (by decide) (fun c407 => ?_) (fun c407 => absurd (rfl) c407)
  exact law_end C0 _ _ _ hS (lv_sub hl [0, 3] rfl)
set_option maxRecDepth 100000 in
set_option maxHeartbeats 4000000 in
theorem law_c8 {p : Program} {l : Launch} {e : Env} {s : State} {m : MethodId} {below : List Frame} {meth : Method} {c : Code} {b : Nat} {xs : Nat → Int32} {A : Nat → Prop} {D : va_G} {cI cR cM : ClassId} {jn : Nat} {hh mm : Nat} {uh um : Nat → Nat} {H : Heap} {locs : List Loc} {ls : Array Slot} (C : LC p s m meth c b 7 xs A D cI cR cM) (hP : va_P D vwCl [(hh, .inr (10, [.int (nI jn), .ref (uh 0), .ref (uh 1), .ref (uh 2), .ref (uh 3), .ref (uh 4), .ref (uh 5), .ref (uh 6)])), (uh 1, .inr (0, [.ref (uh 8), .ref (uh 9), .int 0, .int 0])), (uh 8, .inl (cR, 488, .inr (.inr (.inr (.inr (fun _ => none)))))), (uh 3, .inr (1, [.ref (uh 37), .ref (uh 38), .ref (uh 39), .ref (uh 40), .ref (uh 41), .ref (uh 42), .int 0, .null])), (mm, .inr (11, [.int (nI jn), .ref (um 0), .ref (um 1), .int 0, .int 0, .ref (um 2), .int 0, .int (-1), .int (-1), .int 0, .int 0, .int 0, .int 0, .int 0, .ref (um 3), .ref (um 4), .ref (um 5), .ref (um 6), .ref (um 7), .int 0, .int 0, .int 0, .ref (um 8), .ref (um 9), .ref (um 10), .int 0, .int 0, .ref (um 11), .int 0, .int 0, .ref (um 12), .ref (um 13), .ref (um 14), .ref (um 15), .ref (um 16), .int 0, .ref (um 17), .ref (um 18), .ref (um 19), .ref (um 20), .ref (um 21), .ref (um 22), .int 0, .int 0, .int 0, .ref (um 23), .ref (um 24)]))] H) (hD : va_D A [(hh, .inr (10, [.int (nI jn), .ref (uh 0), .ref (uh 1), .ref (uh 2), .ref (uh 3), .ref (uh 4), .ref (uh 5), .ref (uh 6)])), (uh 1, .inr (0, [.ref (uh 8), .ref (uh 9), .int 0, .int 0])), (uh 8, .inl (cR, 488, .inr (.inr (.inr (.inr (fun _ => none)))))), (uh 3, .inr (1, [.ref (uh 37), .ref (uh 38), .ref (uh 39), .ref (uh 40), .ref (uh 41), .ref (uh 42), .int 0, .null])), (mm, .inr (11, [.int (nI jn), .ref (um 0), .ref (um 1), .int 0, .int 0, .ref (um 2), .int 0, .int (-1), .int (-1), .int 0, .int 0, .int 0, .int 0, .int 0, .ref (um 3), .ref (um 4), .ref (um 5), .ref (um 6), .ref (um 7), .int 0, .int 0, .int 0, .ref (um 8), .ref (um 9), .ref (um 10), .int 0, .int 0, .ref (um 11), .int 0, .int 0, .ref (um 12), .ref (um 13), .ref (um 14), .ref (um 15), .ref (um 16), .int 0, .ref (um 17), .ref (um 18), .ref (um 19), .ref (um 20), .ref (um 21), .ref (um 22), .int 0, .int 0, .int 0, .ref (um 23), .ref (um 24)]))]) (hS : va_S A s.heap H locs) (hl : lv_has ls 4 [(0, .ref b), (1, .ref hh), (2, .ref mm), (3, .int 1)]) : W p l e room_1 s m #[Value.ref b] below meth c H locs 92 95787 (lw_Z below #[Value.ref b] s) (F0 m 412 ls []) := by
  have C0 := C
  obtain ⟨hx, hb, hr, hml, hown, hts, hX, hbl, hlocks, hK, hA, hA2⟩ := C
  have hbA : ¬ A b := fun q => absurd (hA2 b q) (Nat.not_le.mpr hbl)
  refine lv_aload_n hx hb dL_law_412 rfl (lv_at hl 1 rfl) ?_
  refine lv_aload_n hx hb dL_law_413 rfl (lv_at hl 0 rfl) ?_
  refine lv_iload_n hx hb dL_law_414 rfl (lv_at hl 3 rfl) ?_
  refine lv_iconst (v := 1) hx hb dL_law_415 (by decide) ?_
  refine lv_iadd hx hb dL_law_416 ?_
  refine lv_eqi (y := 2) (by decide) ?_
  refine va_sld hx hb hX hbl hbA hS (vp_in_nI (n := 2) (by decide) (by decide)) dL_law_417 ?_
  refine lv_eqi (y := xs 2) rfl ?_
  have hPc := hP.sub (ws' := [(hh, .inr (10, [.int (nI jn), .ref (uh 0), .ref (uh 1), .ref (uh 2), .ref (uh 3), .ref (uh 4), .ref (uh 5), .ref (uh 6)])), (uh 1, .inr (0, [.ref (uh 8), .ref (uh 9), .int 0, .int 0])), (uh 8, .inl (cR, 488, .inr (.inr (.inr (.inr (fun _ => none)))))), (uh 3, .inr (1, [.ref (uh 37), .ref (uh 38), .ref (uh 39), .ref (uh 40), .ref (uh 41), .ref (uh 42), .int 0, .null]))]) [0, 1, 2, 3] rfl
  have hDc := hD.sub (ws' := [(hh, .inr (10, [.int (nI jn), .ref (uh 0), .ref (uh 1), .ref (uh 2), .ref (uh 3), .ref (uh 4), .ref (uh 5), .ref (uh 6)])), (uh 1, .inr (0, [.ref (uh 8), .ref (uh 9), .int 0, .int 0])), (uh 8, .inl (cR, 488, .inr (.inr (.inr (.inr (fun _ => none)))))), (uh 3, .inr (1, [.ref (uh 37), .ref (uh 38), .ref (uh 39), .ref (uh 40), .ref (uh 41), .ref (uh 42), .int 0, .null]))]) [0, 1, 2, 3] (by decide) rfl
  refine ro (va_runV (As := [.int (xs 2)]) (rest := []) ⟨hx, hb, hml, hown, hts⟩ (c_cycles l D cI cR cM _ (xs 2) hh (.int (nI jn)) (.ref (uh 0)) (.ref (uh 2)) (.ref (uh 4)) (.ref (uh 5)) (.ref (uh 6)) (uh 1) (uh 8) (uh 9) (uh 3) (.ref (uh 37)) (.ref (uh 38)) (.ref (uh 39)) (.ref (uh 40)) (.ref (uh 41)) (.ref (uh 42)) (.int 0) .null) (cwV 1 hts gL_law_X10_cycles rfl rfl rfl (by decide +kernel) ⟨Nat.le_of_ble_eq_true rfl, Nat.le_of_ble_eq_true rfl⟩) (pre_V hK hPc hDc 0 10 rfl rfl) rfl rfl hl.1 rfl (lv_room (Nat.le_of_ble_eq_true rfl)) dL_law_418 ⟨Nat.le_of_ble_eq_true rfl, Nat.le_of_ble_eq_true rfl⟩) hS hA hP (fun H locs hP hS => ?_)
  refine lv_aload_n hx hb dL_law_421 rfl (lv_at hl 2 rfl) ?_
  refine lv_aload_n hx hb dL_law_422 rfl (lv_at hl 0 rfl) ?_
  refine lv_iload_n hx hb dL_law_423 rfl (lv_at hl 3 rfl) ?_
  refine lv_iconst (v := 1) hx hb dL_law_424 (by decide) ?_
  refine lv_iadd hx hb dL_law_425 ?_
  refine lv_eqi (y := 2) (by decide) ?_
  refine va_sld hx hb hX hbl hbA hS (vp_in_nI (n := 2) (by decide) (by decide)) dL_law_426 ?_
  refine lv_eqi (y := xs 2) rfl ?_
  have hPc := hP.sub (ws' := [(mm, .inr (11, [.int (nI jn), .ref (um 0), .ref (um 1), .int 0, .int 0, .ref (um 2), .int 0, .int (-1), .int (-1), .int 0, .int 0, .int 0, .int 0, .int 0, .ref (um 3), .ref (um 4), .ref (um 5), .ref (um 6), .ref (um 7), .int 0, .int 0, .int 0, .ref (um 8), .ref (um 9), .ref (um 10), .int 0, .int 0, .ref (um 11), .int 0, .int 0, .ref (um 12), .ref (um 13), .ref (um 14), .ref (um 15), .ref (um 16), .int 0, .ref (um 17), .ref (um 18), .ref (um 19), .ref (um 20), .ref (um 21), .ref (um 22), .int 0, .int 0, .int 0, .ref (um 23), .ref (um 24)]))]) [4] rfl
  have hDc := hD.sub (ws' := [(mm, .inr (11, [.int (nI jn), .ref (um 0), .ref (um 1), .int 0, .int 0, .ref (um 2), .int 0, .int (-1), .int (-1), .int 0, .int 0, .int 0, .int 0, .int 0, .ref (um 3), .ref (um 4), .ref (um 5), .ref (um 6), .ref (um 7), .int 0, .int 0, .int 0, .ref (um 8), .ref (um 9), .ref (um 10), .int 0, .int 0, .ref (um 11), .int 0, .int 0, .ref (um 12), .ref (um 13), .ref (um 14), .ref (um 15), .ref (um 16), .int 0, .ref (um 17), .ref (um 18), .ref (um 19), .ref (um 20), .ref (um 21), .ref (um 22), .int 0, .int 0, .int 0, .ref (um 23), .ref (um 24)]))]) [4] (by decide) rfl
  refine ro (va_runV (As := [.int (xs 2)]) (rest := [.int (-1)]) ⟨hx, hb, hml, hown, hts⟩ (c_mcycles l D cI cR cM _ (xs 2) mm [.int (nI jn), .ref (um 0), .ref (um 1), .int 0, .int 0, .ref (um 2), .int 0, .int (-1), .int (-1), .int 0, .int 0, .int 0, .int 0, .int 0, .ref (um 3), .ref (um 4), .ref (um 5), .ref (um 6), .ref (um 7), .int 0, .int 0, .int 0, .ref (um 8), .ref (um 9), .ref (um 10), .int 0, .int 0, .ref (um 11), .int 0, .int 0, .ref (um 12), .ref (um 13), .ref (um 14), .ref (um 15), .ref (um 16), .int 0, .ref (um 17), .ref (um 18), .ref (um 19), .ref (um 20), .ref (um 21), .ref (um 22), .int 0, .int 0, .int 0, .ref (um 23), .ref (um 24)] rfl) (cwV 1 hts gL_law_X11_cycles rfl rfl rfl (by decide +kernel) ⟨Nat.le_of_ble_eq_true rfl, Nat.le_of_ble_eq_true rfl⟩) (pre_V hK hPc hDc 0 11 rfl rfl) rfl rfl hl.1 rfl (lv_room (Nat.le_of_ble_eq_true rfl)) dL_law_427 ⟨Nat.le_of_ble_eq_true rfl, Nat.le_of_ble_eq_true rfl⟩) hS hA hP (fun H locs hP hS => ?_)
  refine lv_icmp_eq (tgt := 947) hx hb dL_law_430 (by decide) (fun c430 => ?_) (fun c430 => absurd (rfl) c430)
  exact law_end C0 _ _ _ hS (lv_sub hl [0, 3] rfl)
