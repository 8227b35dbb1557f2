theorem dL_law_531 : decode cL_law 531 = .ok (.aload_n 1, 1) := by decide +kernel
theorem dL_law_532 : decode cL_law 532 = .ok (.aload_n 0, 1) := by decide +kernel
theorem dL_law_533 : decode cL_law 533 = .ok (.iload_n 3, 1) := by decide +kernel
theorem dL_law_534 : decode cL_law 534 = .ok (.iconst 1, 1) := by decide +kernel
theorem dL_law_535 : decode cL_law 535 = .ok (.iadd, 1) := by decide +kernel
theorem dL_law_536 : decode cL_law 536 = .ok (.iaload, 1) := by decide +kernel
theorem dL_law_537 : decode cL_law 537 = .ok (.aload_n 0, 1) := by decide +kernel
theorem dL_law_538 : decode cL_law 538 = .ok (.iload_n 3, 1) := by decide +kernel
theorem dL_law_539 : decode cL_law 539 = .ok (.iconst 2, 1) := by decide +kernel
theorem dL_law_540 : decode cL_law 540 = .ok (.iadd, 1) := by decide +kernel
theorem dL_law_541 : decode cL_law 541 = .ok (.iaload, 1) := by decide +kernel
theorem dL_law_542 : decode cL_law 542 = .ok (.aload_n 0, 1) := by decide +kernel
theorem dL_law_543 : decode cL_law 543 = .ok (.iload_n 3, 1) := by decide +kernel
theorem dL_law_544 : decode cL_law 544 = .ok (.iconst 3, 1) := by decide +kernel
theorem dL_law_545 : decode cL_law 545 = .ok (.iadd, 1) := by decide +kernel
theorem dL_law_546 : decode cL_law 546 = .ok (.iaload, 1) := by decide +kernel
theorem dL_law_547 : decode cL_law 547 = .ok (.aload_n 0, 1) := by decide +kernel
theorem dL_law_548 : decode cL_law 548 = .ok (.iload_n 3, 1) := by decide +kernel
theorem dL_law_549 : decode cL_law 549 = .ok (.iconst 4, 1) := by decide +kernel
theorem dL_law_550 : decode cL_law 550 = .ok (.iadd, 1) := by decide +kernel
theorem dL_law_551 : decode cL_law 551 = .ok (.iaload, 1) := by decide +kernel
theorem dL_law_552 : decode cL_law 552 = .ok (.aload_n 0, 1) := by decide +kernel
theorem dL_law_553 : decode cL_law 553 = .ok (.iload_n 3, 1) := by decide +kernel
theorem dL_law_554 : decode cL_law 554 = .ok (.iconst 5, 1) := by decide +kernel
theorem dL_law_555 : decode cL_law 555 = .ok (.iadd, 1) := by decide +kernel
theorem dL_law_556 : decode cL_law 556 = .ok (.iaload, 1) := by decide +kernel
theorem dL_law_557 : decode cL_law 557 = .ok (.invokevirtual 72, 3) := by decide +kernel
theorem dL_law_560 : decode cL_law 560 = .ok (.pop, 1) := by decide +kernel
theorem dL_law_561 : decode cL_law 561 = .ok (.aload_n 2, 1) := by decide +kernel
theorem dL_law_562 : decode cL_law 562 = .ok (.aload_n 0, 1) := by decide +kernel
theorem dL_law_563 : decode cL_law 563 = .ok (.iload_n 3, 1) := by decide +kernel
theorem dL_law_564 : decode cL_law 564 = .ok (.iconst 1, 1) := by decide +kernel
theorem dL_law_565 : decode cL_law 565 = .ok (.iadd, 1) := by decide +kernel
theorem dL_law_566 : decode cL_law 566 = .ok (.iaload, 1) := by decide +kernel
theorem dL_law_567 : decode cL_law 567 = .ok (.aload_n 0, 1) := by decide +kernel
theorem dL_law_568 : decode cL_law 568 = .ok (.iload_n 3, 1) := by decide +kernel
theorem dL_law_569 : decode cL_law 569 = .ok (.iconst 2, 1) := by decide +kernel
theorem dL_law_570 : decode cL_law 570 = .ok (.iadd, 1) := by decide +kernel
theorem dL_law_571 : decode cL_law 571 = .ok (.iaload, 1) := by decide +kernel
theorem dL_law_572 : decode cL_law 572 = .ok (.aload_n 0, 1) := by decide +kernel
theorem dL_law_573 : decode cL_law 573 = .ok (.iload_n 3, 1) := by decide +kernel
theorem dL_law_574 : decode cL_law 574 = .ok (.iconst 3, 1) := by decide +kernel
theorem dL_law_575 : decode cL_law 575 = .ok (.iadd, 1) := by decide +kernel
theorem dL_law_576 : decode cL_law 576 = .ok (.iaload, 1) := by decide +kernel
theorem dL_law_577 : decode cL_law 577 = .ok (.aload_n 0, 1) := by decide +kernel
theorem dL_law_578 : decode cL_law 578 = .ok (.iload_n 3, 1) := by decide +kernel
theorem dL_law_579 : decode cL_law 579 = .ok (.iconst 4, 1) := by decide +kernel
theorem dL_law_580 : decode cL_law 580 = .ok (.iadd, 1) := by decide +kernel
theorem dL_law_581 : decode cL_law 581 = .ok (.iaload, 1) := by decide +kernel
theorem dL_law_582 : decode cL_law 582 = .ok (.aload_n 0, 1) := by decide +kernel
theorem dL_law_583 : decode cL_law 583 = .ok (.iload_n 3, 1) := by decide +kernel
theorem dL_law_584 : decode cL_law 584 = .ok (.iconst 5, 1) := by decide +kernel
theorem dL_law_585 : decode cL_law 585 = .ok (.iadd, 1) := by decide +kernel
theorem dL_law_586 : decode cL_law 586 = .ok (.iaload, 1) := by decide +kernel
theorem dL_law_587 : decode cL_law 587 = .ok (.invokevirtual 75, 3) := by decide +kernel
theorem dL_law_590 : decode cL_law 590 = .ok (.pop, 1) := by decide +kernel
theorem dL_law_591 : decode cL_law 591 = .ok (.goto 356, 3) := by decide +kernel
theorem dL_law_594 : decode cL_law 594 = .ok (.aload_n 1, 1) := by decide +kernel
theorem dL_law_595 : decode cL_law 595 = .ok (.aload_n 0, 1) := by decide +kernel
theorem dL_law_596 : decode cL_law 596 = .ok (.iload_n 3, 1) := by decide +kernel
theorem dL_law_597 : decode cL_law 597 = .ok (.iconst 1, 1) := by decide +kernel
theorem dL_law_598 : decode cL_law 598 = .ok (.iadd, 1) := by decide +kernel
theorem dL_law_599 : decode cL_law 599 = .ok (.iaload, 1) := by decide +kernel
theorem dL_law_600 : decode cL_law 600 = .ok (.aload_n 0, 1) := by decide +kernel
theorem dL_law_601 : decode cL_law 601 = .ok (.iload_n 3, 1) := by decide +kernel
theorem dL_law_602 : decode cL_law 602 = .ok (.iconst 2, 1) := by decide +kernel
theorem dL_law_603 : decode cL_law 603 = .ok (.iadd, 1) := by decide +kernel
theorem dL_law_604 : decode cL_law 604 = .ok (.iaload, 1) := by decide +kernel
theorem dL_law_605 : decode cL_law 605 = .ok (.invokevirtual 76, 3) := by decide +kernel
theorem dL_law_608 : decode cL_law 608 = .ok (.pop, 1) := by decide +kernel
theorem dL_law_609 : decode cL_law 609 = .ok (.aload_n 2, 1) := by decide +kernel
theorem dL_law_610 : decode cL_law 610 = .ok (.aload_n 0, 1) := by decide +kernel
theorem dL_law_611 : decode cL_law 611 = .ok (.iload_n 3, 1) := by decide +kernel
theorem dL_law_612 : decode cL_law 612 = .ok (.iconst 1, 1) := by decide +kernel
theorem dL_law_613 : decode cL_law 613 = .ok (.iadd, 1) := by decide +kernel
theorem dL_law_614 : decode cL_law 614 = .ok (.iaload, 1) := by decide +kernel
theorem dL_law_615 : decode cL_law 615 = .ok (.aload_n 0, 1) := by decide +kernel
theorem dL_law_616 : decode cL_law 616 = .ok (.iload_n 3, 1) := by decide +kernel
theorem dL_law_617 : decode cL_law 617 = .ok (.iconst 2, 1) := by decide +kernel
theorem dL_law_618 : decode cL_law 618 = .ok (.iadd, 1) := by decide +kernel
theorem dL_law_619 : decode cL_law 619 = .ok (.iaload, 1) := by decide +kernel
theorem dL_law_620 : decode cL_law 620 = .ok (.invokevirtual 79, 3) := by decide +kernel
theorem dL_law_623 : decode cL_law 623 = .ok (.pop, 1) := by decide +kernel
theorem dL_law_624 : decode cL_law 624 = .ok (.goto 323, 3) := by decide +kernel
set_option maxRecDepth 100000 in
set_option maxHeartbeats 4000000 in
theorem ggL_law_X10_caught : GoodIn wsL_law wsX10_caught := goodIn_r _ [832, 31, 42, 672, 673, 674, 30, 675, 509, 400, 401, 402, 403, 64, 759, 760, 761, 41, 762, 763, 112, 113, 764, 765, 719, 720, 721, 111, 722, 17, 18, 19, 723, 418, 419, 420, 724, 443, 444, 93, 445, 386, 106, 725, 694, 695, 696, 107, 726, 727, 728, 729, 105, 450, 451, 452, 453, 446, 447, 448, 449, 454, 455, 456, 457, 458, 459, 460, 461, 462, 463, 464, 465, 766, 767, 768, 769, 770, 771, 772, 773, 774, 775, 776, 777, 778, 114, 115, 116, 833, 688, 689, 690, 691, 693, 834, 835, 836, 837, 838, 839, 840, 841, 842, 692, 731, 467, 468, 469, 813, 814, 815, 816, 1100, 1101, 1102, 1103, 1104, 1105, 1106, 1107, 1182, 1183, 1184, 1185, 1186, 1187, 1188, 1189, 1157, 1158, 1159, 1160, 1202, 1203, 1204, 1205] (by with_unfolding_all rfl) (by decide +kernel)
set_option maxRecDepth 20000 in
theorem gL_law_X10_caught : GoodIn wsL_law (wsV RL 72 RX10 yX10_caught wsX10_caught) := goodIn_app (goodIn_of _ (by decide +kernel)) ggL_law_X10_caught
set_option maxRecDepth 100000 in
set_option maxHeartbeats 4000000 in
theorem ggL_law_X11_caught : GoodIn wsL_law wsX11_caught := goodIn_r _ [846, 139, 155, 784, 785, 786, 5, 787, 680, 681, 682, 683, 539, 197, 198, 199, 627, 628, 629, 630, 631, 632, 633, 788, 789, 790, 791, 745, 747, 748, 749, 750, 153, 746, 706, 707, 708, 709, 710, 711, 712, 713, 792, 793, 794, 795, 154, 156, 166, 157, 783, 796, 797, 798, 799, 800, 801, 802, 803, 804, 805, 806, 807, 702, 703, 704, 705, 847, 848, 849, 850, 851, 852, 853, 854, 1108, 1109, 1110, 1111, 1112, 1113, 1114, 1115, 1116, 1117, 1118, 1119, 1120, 1121, 1122, 1123, 1124, 1125, 1126, 1127, 1128, 1129, 1130, 1131, 1132, 1133, 1134, 1135, 1136, 1137, 1138, 1139, 1140, 1141, 1142, 1143, 1144, 1145, 1146, 1147, 1148, 1149, 1150, 1151, 1152, 1153, 1154] (by with_unfolding_all rfl) (by decide +kernel)
set_option maxRecDepth 20000 in
theorem gL_law_X11_caught : GoodIn wsL_law (wsV RL 75 RX11 yX11_caught wsX11_caught) := goodIn_app (goodIn_of _ (by decide +kernel)) ggL_law_X11_caught
set_option maxRecDepth 100000 in
set_option maxHeartbeats 4000000 in
theorem ggL_law_X10_state : GoodIn wsL_law wsX10_state := goodIn_r _ [858, 31, 672, 673, 674, 30, 675, 509, 400, 401, 402, 403, 64, 859, 860, 861, 2, 862, 42, 740, 480, 481, 93, 482, 105, 386, 107, 106, 718, 719, 720, 41, 721, 111, 722, 17, 18, 19, 723, 418, 419, 420, 724, 443, 444, 445, 725, 694, 695, 696, 726, 727, 728, 729, 450, 451, 452, 453, 446, 447, 448, 449, 454, 455, 456, 457, 458, 459, 460, 461, 462, 463, 464, 465, 863, 864, 45, 865, 866, 867, 689, 690, 691, 868, 1100, 1101, 1102, 1103, 1104, 1105, 1106, 1107, 1202, 1203, 1204, 1205, 1157, 1158, 1159, 1160, 1182, 1183, 1184, 1185, 1186, 1187, 1188, 1189] (by with_unfolding_all rfl) (by decide +kernel)
set_option maxRecDepth 20000 in
theorem gL_law_X10_state : GoodIn wsL_law (wsV RL 76 RX10 yX10_state wsX10_state) := goodIn_app (goodIn_of _ (by decide +kernel)) ggL_law_X10_state
set_option maxRecDepth 100000 in
set_option maxHeartbeats 4000000 in
theorem ggL_law_X11_state : GoodIn wsL_law wsX11_state := goodIn_r _ [872, 139, 680, 681, 682, 5, 683, 539, 197, 198, 199, 627, 628, 629, 630, 631, 632, 633, 873, 874, 875, 876, 788, 789, 790, 791, 745, 747, 748, 749, 750, 153, 746, 706, 707, 708, 709, 710, 711, 712, 713, 751, 752, 753, 754, 166, 877, 878, 879, 880, 605, 606, 607, 1108, 1109, 1110, 1111, 1112, 1113, 1114, 1115, 1116, 1117, 1118, 1119, 1120, 1121, 1122, 1123, 1124, 1125, 1126, 1127, 1128, 1129, 1130, 1131, 1132, 1133, 1134, 1135, 1136, 1137, 1138, 1139, 1140, 1141, 1142, 1143, 1144, 1145, 1146, 1147, 1148, 1149, 1150, 1151, 1152, 1153, 1154] (by with_unfolding_all rfl) (by decide +kernel)
set_option maxRecDepth 20000 in
theorem gL_law_X11_state : GoodIn wsL_law (wsV RL 79 RX11 yX11_state wsX11_state) := goodIn_app (goodIn_of _ (by decide +kernel)) ggL_law_X11_state
set_option maxRecDepth 100000 in
set_option maxHeartbeats 4000000 in
theorem law_c11 {p : Program} {l : Launch} {e : Env} {s : State} {m : MethodId} {below : List Frame} {meth : Method} {c : Code} {b n9 : Nat} {xs : Nat → Int32} {A : Nat → Prop} {D : va_G} {cI cR cM : ClassId} {jn mm k N9 M9 : Nat} {g q : Nat → Nat} {H : Heap} {locs : List Loc} {ls : Array Slot} {adK adV : Nat → Nat} (C : LC p s m meth c b n9 xs A D cI cR cM) (hST : ST adK adV s.heap.size s) (hj : 1 ≤ jn ∧ jn ≤ 3) (hk : k + 5 < n9) (hn9 : n9 ≤ 3073) (hN9 : N9 + 18 ≤ room_1.cells) (hM9 : M9 + 1193 ≤ room_1.slots) (J : JS jn cI cR cM D g A mm q H) (hS : va_S A s.heap H locs) (hl : lv_has ls 4 [(0, .ref b), (1, .ref (g 10)), (2, .ref mm), (3, .int (nI k))]) (hend : ∀ (H1 : Heap) (locs1 : List Loc) (ls1 : Array Slot), JS jn cI cR cM D g A mm q H1 → va_S A s.heap H1 locs1 → lv_has ls1 4 [(0, .ref b), (1, .ref (g 10)), (2, .ref mm), (3, .int (nI k))] → W p l e room_1 s m #[Value.ref b] below meth c H1 locs1 (N9 + 18) (M9 + 1193) (lw_Z below #[Value.ref b] s) (F0 m 947 ls1 [])) : W p l e room_1 s m #[Value.ref b] below meth c H locs N9 M9 (lw_Z below #[Value.ref b] s) (F0 m 531 ls []) := by
  obtain ⟨hx, hb, hr, hml, hown, hts, hX, hbl, hlocks, hK, hA, hA2⟩ := C
  have hbA : ¬ A b := fun q => absurd (hA2 b q) (Nat.not_le.mpr hbl)
  obtain ⟨L, S, f, x0, x1, x2, x3, x4, x5, x6, x7, x8, x9, x10, x11, x12, x13, x14, x15, x16, x17, x18, x19, x20, f0, f1, f2, f3, f4, f5, f6, f7, f8, f9, f10, f11, f12, f13, f14, f15, f16, f17, f18, f19, f20, f21, f22, f23, f24, J, hP, hD, hap, hLK, hSX, h0, h1, h2, h18, hsc, hRX, hRZ, hSe, hFm, hMK, hwt⟩ := J
  have J0 := J
  obtain ⟨hG, hI, hTK, hP1, hD1⟩ := J0
  refine lv_aload_n hx hb dL_law_531 rfl (lv_at hl 1 rfl) ?_
  refine lv_aload_n hx hb dL_law_532 rfl (lv_at hl 0 rfl) ?_
  refine lv_iload_n hx hb dL_law_533 rfl (lv_at hl 3 rfl) ?_
  refine lv_iconst (v := 1) hx hb dL_law_534 (by decide) ?_
  refine lv_eqi (y := nI 1) rfl ?_
  refine lv_iadd hx hb dL_law_535 ?_
  refine lv_eqi (y := nI (k + 1)) (nI_add _ _) ?_
  refine va_sld hx hb hX hbl hbA hS (vp_in_nI (n := k + 1) (by omega) (by omega)) dL_law_536 ?_
  refine lv_eqi (y := xs (k + 1)) (congrArg xs (nI_clamp (by omega))) ?_
  refine lv_aload_n hx hb dL_law_537 rfl (lv_at hl 0 rfl) ?_
  refine lv_iload_n hx hb dL_law_538 rfl (lv_at hl 3 rfl) ?_
  refine lv_iconst (v := 2) hx hb dL_law_539 (by decide) ?_
  refine lv_eqi (y := nI 2) rfl ?_
  refine lv_iadd hx hb dL_law_540 ?_
  refine lv_eqi (y := nI (k + 2)) (nI_add _ _) ?_
  refine va_sld hx hb hX hbl hbA hS (vp_in_nI (n := k + 2) (by omega) (by omega)) dL_law_541 ?_
  refine lv_eqi (y := xs (k + 2)) (congrArg xs (nI_clamp (by omega))) ?_
  refine lv_aload_n hx hb dL_law_542 rfl (lv_at hl 0 rfl) ?_
  refine lv_iload_n hx hb dL_law_543 rfl (lv_at hl 3 rfl) ?_
  refine lv_iconst (v := 3) hx hb dL_law_544 (by decide) ?_
  refine lv_eqi (y := nI 3) rfl ?_
  refine lv_iadd hx hb dL_law_545 ?_
  refine lv_eqi (y := nI (k + 3)) (nI_add _ _) ?_
  refine va_sld hx hb hX hbl hbA hS (vp_in_nI (n := k + 3) (by omega) (by omega)) dL_law_546 ?_
  refine lv_eqi (y := xs (k + 3)) (congrArg xs (nI_clamp (by omega))) ?_
  refine lv_aload_n hx hb dL_law_547 rfl (lv_at hl 0 rfl) ?_
  refine lv_iload_n hx hb dL_law_548 rfl (lv_at hl 3 rfl) ?_
  refine lv_iconst (v := 4) hx hb dL_law_549 (by decide) ?_
  refine lv_eqi (y := nI 4) rfl ?_
  refine lv_iadd hx hb dL_law_550 ?_
  refine lv_eqi (y := nI (k + 4)) (nI_add _ _) ?_
  refine va_sld hx hb hX hbl hbA hS (vp_in_nI (n := k + 4) (by omega) (by omega)) dL_law_551 ?_
  refine lv_eqi (y := xs (k + 4)) (congrArg xs (nI_clamp (by omega))) ?_
  refine lv_aload_n hx hb dL_law_552 rfl (lv_at hl 0 rfl) ?_
  refine lv_iload_n hx hb dL_law_553 rfl (lv_at hl 3 rfl) ?_
  refine lv_iconst (v := 5) hx hb dL_law_554 (by decide) ?_
  refine lv_eqi (y := nI 5) rfl ?_
  refine lv_iadd hx hb dL_law_555 ?_
  refine lv_eqi (y := nI (k + 5)) (nI_add _ _) ?_
  refine va_sld hx hb hX hbl hbA hS (vp_in_nI (n := k + 5) (by omega) (by omega)) dL_law_556 ?_
  refine lv_eqi (y := xs (k + 5)) (congrArg xs (nI_clamp (by omega))) ?_
  refine law_w (T := [15, 27, 35, 36, 37, 38, 39]) (va_runV (As := [.int (xs (k + 1)), .int (xs (k + 2)), .int (xs (k + 3)), .int (xs (k + 4)), .int (xs (k + 5))]) (rest := []) ⟨hx, hb, hml, hown, hts⟩ (t_X10_caught l D cI cR cM _ hj hG hI) (cwV 5 hts gL_law_X10_caught rfl rfl rfl (by decide +kernel) ⟨Nat.le_of_ble_eq_true rfl, Nat.le_of_ble_eq_true rfl⟩) (pre_T hK hP1 hD1 (gm_10 hG) (hall_at hG hI) rfl) rfl rfl hl.1 rfl (lv_room (Nat.le_of_ble_eq_true rfl)) dL_law_557 ⟨by omega, by omega⟩) (fun _ hu => hu) (by decide) (by decide) (by decide) J hP hap hS hA (fun r1 fc1 H locs hu1 J hP hS => ?_)
  have hLK := LKx_fr hLK hG (show FR S [15, 27, 35, 36, 37, 38, 39] f fc1 from hu1.2) (by decide)
  have hSX := SCx_fr hSX hG (show FR S [15, 27, 35, 36, 37, 38, 39] f fc1 from hu1.2) (by decide)
  refine lv_pop hx hb dL_law_560 rfl ?_
  refine lv_aload_n hx hb dL_law_561 rfl (lv_at hl 2 rfl) ?_
  refine lv_aload_n hx hb dL_law_562 rfl (lv_at hl 0 rfl) ?_
  refine lv_iload_n hx hb dL_law_563 rfl (lv_at hl 3 rfl) ?_
  refine lv_iconst (v := 1) hx hb dL_law_564 (by decide) ?_
  refine lv_eqi (y := nI 1) rfl ?_
  refine lv_iadd hx hb dL_law_565 ?_
  refine lv_eqi (y := nI (k + 1)) (nI_add _ _) ?_
  refine va_sld hx hb hX hbl hbA hS (vp_in_nI (n := k + 1) (by omega) (by omega)) dL_law_566 ?_
  refine lv_eqi (y := xs (k + 1)) (congrArg xs (nI_clamp (by omega))) ?_
  refine lv_aload_n hx hb dL_law_567 rfl (lv_at hl 0 rfl) ?_
  refine lv_iload_n hx hb dL_law_568 rfl (lv_at hl 3 rfl) ?_
  refine lv_iconst (v := 2) hx hb dL_law_569 (by decide) ?_
  refine lv_eqi (y := nI 2) rfl ?_
  refine lv_iadd hx hb dL_law_570 ?_
  refine lv_eqi (y := nI (k + 2)) (nI_add _ _) ?_
  refine va_sld hx hb hX hbl hbA hS (vp_in_nI (n := k + 2) (by omega) (by omega)) dL_law_571 ?_
  refine lv_eqi (y := xs (k + 2)) (congrArg xs (nI_clamp (by omega))) ?_
  refine lv_aload_n hx hb dL_law_572 rfl (lv_at hl 0 rfl) ?_
  refine lv_iload_n hx hb dL_law_573 rfl (lv_at hl 3 rfl) ?_
  refine lv_iconst (v := 3) hx hb dL_law_574 (by decide) ?_
  refine lv_eqi (y := nI 3) rfl ?_
  refine lv_iadd hx hb dL_law_575 ?_
  refine lv_eqi (y := nI (k + 3)) (nI_add _ _) ?_
  refine va_sld hx hb hX hbl hbA hS (vp_in_nI (n := k + 3) (by omega) (by omega)) dL_law_576 ?_
  refine lv_eqi (y := xs (k + 3)) (congrArg xs (nI_clamp (by omega))) ?_
  refine lv_aload_n hx hb dL_law_577 rfl (lv_at hl 0 rfl) ?_
  refine lv_iload_n hx hb dL_law_578 rfl (lv_at hl 3 rfl) ?_
  refine lv_iconst (v := 4) hx hb dL_law_579 (by decide) ?_
  refine lv_eqi (y := nI 4) rfl ?_
  refine lv_iadd hx hb dL_law_580 ?_
  refine lv_eqi (y := nI (k + 4)) (nI_add _ _) ?_
  refine va_sld hx hb hX hbl hbA hS (vp_in_nI (n := k + 4) (by omega) (by omega)) dL_law_581 ?_
  refine lv_eqi (y := xs (k + 4)) (congrArg xs (nI_clamp (by omega))) ?_
  refine lv_aload_n hx hb dL_law_582 rfl (lv_at hl 0 rfl) ?_
  refine lv_iload_n hx hb dL_law_583 rfl (lv_at hl 3 rfl) ?_
  refine lv_iconst (v := 5) hx hb dL_law_584 (by decide) ?_
  refine lv_eqi (y := nI 5) rfl ?_
  refine lv_iadd hx hb dL_law_585 ?_
  refine lv_eqi (y := nI (k + 5)) (nI_add _ _) ?_
  refine va_sld hx hb hX hbl hbA hS (vp_in_nI (n := k + 5) (by omega) (by omega)) dL_law_586 ?_
  refine lv_eqi (y := xs (k + 5)) (congrArg xs (nI_clamp (by omega))) ?_
  refine law_ms (wr := []) (va_runV (As := [.int (xs (k + 1)), .int (xs (k + 2)), .int (xs (k + 3)), .int (xs (k + 4)), .int (xs (k + 5))]) (rest := []) ⟨hx, hb, hml, hown, hts⟩ (k_caught l D cI cR cM _ (by first | assumption | omega) (by first | assumption | omega) (by first | assumption | omega) (by first | assumption | omega) (by first | assumption | omega)) (cwV 5 hts gL_law_X11_caught rfl rfl rfl (by decide +kernel) ⟨Nat.le_of_ble_eq_true rfl, Nat.le_of_ble_eq_true rfl⟩) (pre_V hK hP hD 0 11 rfl rfl) rfl rfl hl.1 rfl (lv_room (Nat.le_of_ble_eq_true rfl)) dL_law_587 ⟨by omega, by omega⟩) J hP hD hap hS hA [0, 1, 2, 3, 4, 5, 6, 7, 8, 9, 10, 11, 12, 13, 14, 15, 16, 17, 18, 19, 20, 21, 22, 23, 24, 25] [] (by with_unfolding_all rfl) rfl (by decide) (by decide) (fun u2 H locs hw J hP hD hap hS => ?_)
  obtain ⟨r2, y15_2, y16_2, y17_2, g12_2, g13_2, g14_2, g15_2, g16_2⟩ := u2
  have hP : va_P D vwCl (mX mm q jn cI x0 x1 x2 x3 x4 x5 x6 x7 x8 x9 x10 x11 x12 x13 x14 y15_2 y16_2 y17_2 x18 x19 x20 f0 f1 f2 f3 f4 f5 f6 f7 f8 f9 f10 f11 g12_2 g13_2 g14_2 g15_2 g16_2 f17 f18 f19 f20 f21 f22 f23 f24) H := hP
  have hD : va_D A (mX mm q jn cI x0 x1 x2 x3 x4 x5 x6 x7 x8 x9 x10 x11 x12 x13 x14 y15_2 y16_2 y17_2 x18 x19 x20 f0 f1 f2 f3 f4 f5 f6 f7 f8 f9 f10 f11 g12_2 g13_2 g14_2 g15_2 g16_2 f17 f18 f19 f20 f21 f22 f23 f24) := hD
  have hap : AP L (mX mm q jn cI x0 x1 x2 x3 x4 x5 x6 x7 x8 x9 x10 x11 x12 x13 x14 y15_2 y16_2 y17_2 x18 x19 x20 f0 f1 f2 f3 f4 f5 f6 f7 f8 f9 f10 f11 g12_2 g13_2 g14_2 g15_2 g16_2 f17 f18 f19 f20 f21 f22 f23 f24) := hap
  refine lv_pop hx hb dL_law_590 rfl ?_
  refine lv_goto (tgt := 947) hx hb dL_law_591 (by decide) ?_
  refine W.widen (k := N9 + 18) (n := M9 + 1193) (by omega) (by omega) ?_
  exact hend _ _ _ ⟨L, S, fc1, x0, x1, x2, x3, x4, x5, x6, x7, x8, x9, x10, x11, x12, x13, x14, y15_2, y16_2, y17_2, x18, x19, x20, f0, f1, f2, f3, f4, f5, f6, f7, f8, f9, f10, f11, g12_2, g13_2, g14_2, g15_2, g16_2, f17, f18, f19, f20, f21, f22, f23, f24, J, hP, hD, hap, hLK, hSX, ⟨(by first | assumption | omega), (by first | assumption | omega), (by first | assumption | omega), (by first | assumption | omega), (by first | assumption | omega), (by first | assumption | omega), (by first | assumption | omega), (by first | assumption | omega), (by first | assumption | omega), (by first | assumption | omega), (by first | assumption | omega)⟩⟩ hS hl
set_option maxRecDepth 100000 in
set_option maxHeartbeats 4000000 in
theorem law_c12 {p : Program} {l : Launch} {e : Env} {s : State} {m : MethodId} {below : List Frame} {meth : Method} {c : Code} {b n9 : Nat} {xs : Nat → Int32} {A : Nat → Prop} {D : va_G} {cI cR cM : ClassId} {jn mm k N9 M9 : Nat} {g q : Nat → Nat} {H : Heap} {locs : List Loc} {ls : Array Slot} {adK adV : Nat → Nat} (C : LC p s m meth c b n9 xs A D cI cR cM) (hST : ST adK adV s.heap.size s) (hj : 1 ≤ jn ∧ jn ≤ 3) (hk : k + 5 < n9) (hn9 : n9 ≤ 3073) (hN9 : N9 + 18 ≤ room_1.cells) (hM9 : M9 + 1193 ≤ room_1.slots) (J : JS jn cI cR cM D g A mm q H) (hS : va_S A s.heap H locs) (hl : lv_has ls 4 [(0, .ref b), (1, .ref (g 10)), (2, .ref mm), (3, .int (nI k))]) (hend : ∀ (H1 : Heap) (locs1 : List Loc) (ls1 : Array Slot), JS jn cI cR cM D g A mm q H1 → va_S A s.heap H1 locs1 → lv_has ls1 4 [(0, .ref b), (1, .ref (g 10)), (2, .ref mm), (3, .int (nI k))] → W p l e room_1 s m #[Value.ref b] below meth c H1 locs1 (N9 + 18) (M9 + 1193) (lw_Z below #[Value.ref b] s) (F0 m 947 ls1 [])) : W p l e room_1 s m #[Value.ref b] below meth c H locs N9 M9 (lw_Z below #[Value.ref b] s) (F0 m 594 ls []) := by
  obtain ⟨hx, hb, hr, hml, hown, hts, hX, hbl, hlocks, hK, hA, hA2⟩ := C
  have hbA : ¬ A b := fun q => absurd (hA2 b q) (Nat.not_le.mpr hbl)
  obtain ⟨L, S, f, x0, x1, x2, x3, x4, x5, x6, x7, x8, x9, x10, x11, x12, x13, x14, x15, x16, x17, x18, x19, x20, f0, f1, f2, f3, f4, f5, f6, f7, f8, f9, f10, f11, f12, f13, f14, f15, f16, f17, f18, f19, f20, f21, f22, f23, f24, J, hP, hD, hap, hLK, hSX, h0, h1, h2, h18, hsc, hRX, hRZ, hSe, hFm, hMK, hwt⟩ := J
  have J0 := J
  obtain ⟨hG, hI, hTK, hP1, hD1⟩ := J0
  refine lv_aload_n hx hb dL_law_594 rfl (lv_at hl 1 rfl) ?_
  refine lv_aload_n hx hb dL_law_595 rfl (lv_at hl 0 rfl) ?_
  refine lv_iload_n hx hb dL_law_596 rfl (lv_at hl 3 rfl) ?_
  refine lv_iconst (v := 1) hx hb dL_law_597 (by decide) ?_
  refine lv_eqi (y := nI 1) rfl ?_
  refine lv_iadd hx hb dL_law_598 ?_
  refine lv_eqi (y := nI (k + 1)) (nI_add _ _) ?_
  refine va_sld hx hb hX hbl hbA hS (vp_in_nI (n := k + 1) (by omega) (by omega)) dL_law_599 ?_
  refine lv_eqi (y := xs (k + 1)) (congrArg xs (nI_clamp (by omega))) ?_
  refine lv_aload_n hx hb dL_law_600 rfl (lv_at hl 0 rfl) ?_
  refine lv_iload_n hx hb dL_law_601 rfl (lv_at hl 3 rfl) ?_
  refine lv_iconst (v := 2) hx hb dL_law_602 (by decide) ?_
  refine lv_eqi (y := nI 2) rfl ?_
  refine lv_iadd hx hb dL_law_603 ?_
  refine lv_eqi (y := nI (k + 2)) (nI_add _ _) ?_
  refine va_sld hx hb hX hbl hbA hS (vp_in_nI (n := k + 2) (by omega) (by omega)) dL_law_604 ?_
  refine lv_eqi (y := xs (k + 2)) (congrArg xs (nI_clamp (by omega))) ?_
  by_cases hj1 : jn = 1
  · obtain ⟨lv, gr, Ev, cb, hcl, hRf, hEO, hRz, hTp⟩ := hLK hj1
    refine law_w (T := [35]) (va_runV (As := [.int (xs (k + 1)), .int (xs (k + 2))]) (rest := []) ⟨hx, hb, hml, hown, hts⟩ (t_X10_statem l D cI cR cM _ (lv := lv) (gr := gr) (Ev := Ev) (cb := cb) (n9 := x2.toInt) (T9 := x0.toInt) (lk9 := x1.toInt) hj hG hI hj1 hcl hEO) (cwV 2 hts gL_law_X10_state rfl rfl rfl (by decide +kernel) ⟨Nat.le_of_ble_eq_true rfl, Nat.le_of_ble_eq_true rfl⟩) (pre_T hK hP1 hD1 (gm_10 hG) (hall_at hG hI) rfl) rfl rfl hl.1 rfl (lv_room (Nat.le_of_ble_eq_true rfl)) dL_law_605 ⟨by omega, by omega⟩) (fun _ hu => ⟨hu.1, hu.2.1⟩) (by decide) (by decide) (by decide) J hP hap hS hA (fun r1 fc1 H locs hu1 J hP hS => ?_)
    refine lv_pop hx hb dL_law_608 rfl ?_
    refine lv_aload_n hx hb dL_law_609 rfl (lv_at hl 2 rfl) ?_
    refine lv_aload_n hx hb dL_law_610 rfl (lv_at hl 0 rfl) ?_
    refine lv_iload_n hx hb dL_law_611 rfl (lv_at hl 3 rfl) ?_
    refine lv_iconst (v := 1) hx hb dL_law_612 (by decide) ?_
    refine lv_eqi (y := nI 1) rfl ?_
    refine lv_iadd hx hb dL_law_613 ?_
    refine lv_eqi (y := nI (k + 1)) (nI_add _ _) ?_
    refine va_sld hx hb hX hbl hbA hS (vp_in_nI (n := k + 1) (by omega) (by omega)) dL_law_614 ?_
    refine lv_eqi (y := xs (k + 1)) (congrArg xs (nI_clamp (by omega))) ?_
    refine lv_aload_n hx hb dL_law_615 rfl (lv_at hl 0 rfl) ?_
    refine lv_iload_n hx hb dL_law_616 rfl (lv_at hl 3 rfl) ?_
    refine lv_iconst (v := 2) hx hb dL_law_617 (by decide) ?_
    refine lv_eqi (y := nI 2) rfl ?_
    refine lv_iadd hx hb dL_law_618 ?_
    refine lv_eqi (y := nI (k + 2)) (nI_add _ _) ?_
    refine va_sld hx hb hX hbl hbA hS (vp_in_nI (n := k + 2) (by omega) (by omega)) dL_law_619 ?_
    refine lv_eqi (y := xs (k + 2)) (congrArg xs (nI_clamp (by omega))) ?_
    refine law_ms (wr := []) (va_runV (As := [.int (xs (k + 1)), .int (xs (k + 2))]) (rest := []) ⟨hx, hb, hml, hown, hts⟩ (k_state3 l D cI cR cM _ (Ev := Ev) (by first | assumption | omega) (by first | assumption | omega) (by first | assumption | omega) (by first | assumption | omega) (by first | assumption | omega) (by first | assumption | omega) (by first | assumption | omega) (by first | assumption | omega) (by first | assumption | omega)) (cwV 2 hts gL_law_X11_state rfl rfl rfl (by decide +kernel) ⟨Nat.le_of_ble_eq_true rfl, Nat.le_of_ble_eq_true rfl⟩) (pre_V hK hP hD 0 11 rfl rfl) rfl rfl hl.1 rfl (lv_room (Nat.le_of_ble_eq_true rfl)) dL_law_620 ⟨by omega, by omega⟩) J hP hD hap hS hA [0, 1, 2, 3, 4, 5, 6, 7, 8, 9, 10, 11, 12, 13, 14, 15, 16, 17, 18, 19, 20, 21, 22, 23, 24, 25] [] (by with_unfolding_all rfl) rfl (by decide) (by decide) (fun u2 H locs hw J hP hD hap hS => ?_)
    obtain ⟨r2, y15_2, y16_2, g12_2⟩ := u2
    have hP : va_P D vwCl (mX mm q jn cI x0 x1 x2 x3 x4 x5 x6 x7 x8 x9 x10 x11 x12 x13 x14 y15_2 y16_2 x17 x18 x19 x20 f0 f1 f2 f3 f4 f5 f6 f7 f8 f9 f10 f11 g12_2 f13 f14 f15 f16 f17 f18 f19 f20 f21 f22 f23 f24) H := hP
    have hD : va_D A (mX mm q jn cI x0 x1 x2 x3 x4 x5 x6 x7 x8 x9 x10 x11 x12 x13 x14 y15_2 y16_2 x17 x18 x19 x20 f0 f1 f2 f3 f4 f5 f6 f7 f8 f9 f10 f11 g12_2 f13 f14 f15 f16 f17 f18 f19 f20 f21 f22 f23 f24) := hD
    have hap : AP L (mX mm q jn cI x0 x1 x2 x3 x4 x5 x6 x7 x8 x9 x10 x11 x12 x13 x14 y15_2 y16_2 x17 x18 x19 x20 f0 f1 f2 f3 f4 f5 f6 f7 f8 f9 f10 f11 g12_2 f13 f14 f15 f16 f17 f18 f19 f20 f21 f22 f23 f24) := hap
    have hs_2 : (StAns Ev x1.toInt (xs (k + 1)).toInt (xs (k + 2)).toInt r2.toInt) := hw
    have hSX := SCx_fr hSX hG (show FR S [35] f fc1 from hu1.2.1) (by decide)
    have hLK := LKx_fr hLK hG (show FR S [35] f fc1 from hu1.2.1) (by decide)
    refine lv_pop hx hb dL_law_623 rfl ?_
    refine lv_goto (tgt := 947) hx hb dL_law_624 (by decide) ?_
    refine W.widen (k := N9 + 18) (n := M9 + 1193) (by omega) (by omega) ?_
    exact hend _ _ _ ⟨L, S, fc1, x0, x1, x2, x3, x4, x5, x6, x7, x8, x9, x10, x11, x12, x13, x14, y15_2, y16_2, x17, x18, x19, x20, f0, f1, f2, f3, f4, f5, f6, f7, f8, f9, f10, f11, g12_2, f13, f14, f15, f16, f17, f18, f19, f20, f21, f22, f23, f24, J, hP, hD, hap, hLK, hSX, ⟨(by first | assumption | omega), (by first | assumption | omega), (by first | assumption | omega), (by first | assumption | omega), (by first | assumption | omega), (by first | assumption | omega), (by first | assumption | omega), (by first | assumption | omega), (by first | assumption | omega), (by first | assumption | omega), (by first | assumption | omega)⟩⟩ hS hl
  · refine law_w (T := [35]) (va_runV (As := [.int (xs (k + 1)), .int (xs (k + 2))]) (rest := []) ⟨hx, hb, hml, hown, hts⟩ (t_X10_stateN l D cI cR cM _ hj hG hI hj1) (cwV 2 hts gL_law_X10_state rfl rfl rfl (by decide +kernel) ⟨Nat.le_of_ble_eq_true rfl, Nat.le_of_ble_eq_true rfl⟩) (pre_T hK hP1 hD1 (gm_10 hG) (hall_at hG hI) rfl) rfl rfl hl.1 rfl (lv_room (Nat.le_of_ble_eq_true rfl)) dL_law_605 ⟨by omega, by omega⟩) (fun _ hu => ⟨hu.1, hu.2.1⟩) (by decide) (by decide) (by decide) J hP hap hS hA (fun r1 fc1 H locs hu1 J hP hS => ?_)
    refine lv_pop hx hb dL_law_608 rfl ?_
    refine lv_aload_n hx hb dL_law_609 rfl (lv_at hl 2 rfl) ?_
    refine lv_aload_n hx hb dL_law_610 rfl (lv_at hl 0 rfl) ?_
    refine lv_iload_n hx hb dL_law_611 rfl (lv_at hl 3 rfl) ?_
    refine lv_iconst (v := 1) hx hb dL_law_612 (by decide) ?_
    refine lv_eqi (y := nI 1) rfl ?_
    refine lv_iadd hx hb dL_law_613 ?_
    refine lv_eqi (y := nI (k + 1)) (nI_add _ _) ?_
    refine va_sld hx hb hX hbl hbA hS (vp_in_nI (n := k + 1) (by omega) (by omega)) dL_law_614 ?_
    refine lv_eqi (y := xs (k + 1)) (congrArg xs (nI_clamp (by omega))) ?_
    refine lv_aload_n hx hb dL_law_615 rfl (lv_at hl 0 rfl) ?_
    refine lv_iload_n hx hb dL_law_616 rfl (lv_at hl 3 rfl) ?_
    refine lv_iconst (v := 2) hx hb dL_law_617 (by decide) ?_
    refine lv_eqi (y := nI 2) rfl ?_
    refine lv_iadd hx hb dL_law_618 ?_
    refine lv_eqi (y := nI (k + 2)) (nI_add _ _) ?_
    refine va_sld hx hb hX hbl hbA hS (vp_in_nI (n := k + 2) (by omega) (by omega)) dL_law_619 ?_
    refine lv_eqi (y := xs (k + 2)) (congrArg xs (nI_clamp (by omega))) ?_
    refine law_ms (wr := []) (va_runV (As := [.int (xs (k + 1)), .int (xs (k + 2))]) (rest := []) ⟨hx, hb, hml, hown, hts⟩ (k_stateN l D cI cR cM _  (by first | assumption | omega) (by first | assumption | omega) (by first | assumption | omega) (by first | assumption | omega) (by first | assumption | omega) (by first | assumption | omega) (by first | assumption | omega)) (cwV 2 hts gL_law_X11_state rfl rfl rfl (by decide +kernel) ⟨Nat.le_of_ble_eq_true rfl, Nat.le_of_ble_eq_true rfl⟩) (pre_V hK hP hD 0 11 rfl rfl) rfl rfl hl.1 rfl (lv_room (Nat.le_of_ble_eq_true rfl)) dL_law_620 ⟨by omega, by omega⟩) J hP hD hap hS hA [0, 1, 2, 3, 4, 5, 6, 7, 8, 9, 10, 11, 12, 13, 14, 15, 16, 17, 18, 19, 20, 21, 22, 23, 24, 25] [] (by with_unfolding_all rfl) rfl (by decide) (by decide) (fun u2 H locs hw J hP hD hap hS => ?_)
    obtain ⟨r2, y15_2, y16_2, g12_2⟩ := u2
    have hP : va_P D vwCl (mX mm q jn cI x0 x1 x2 x3 x4 x5 x6 x7 x8 x9 x10 x11 x12 x13 x14 y15_2 y16_2 x17 x18 x19 x20 f0 f1 f2 f3 f4 f5 f6 f7 f8 f9 f10 f11 g12_2 f13 f14 f15 f16 f17 f18 f19 f20 f21 f22 f23 f24) H := hP
    have hD : va_D A (mX mm q jn cI x0 x1 x2 x3 x4 x5 x6 x7 x8 x9 x10 x11 x12 x13 x14 y15_2 y16_2 x17 x18 x19 x20 f0 f1 f2 f3 f4 f5 f6 f7 f8 f9 f10 f11 g12_2 f13 f14 f15 f16 f17 f18 f19 f20 f21 f22 f23 f24) := hD
    have hap : AP L (mX mm q jn cI x0 x1 x2 x3 x4 x5 x6 x7 x8 x9 x10 x11 x12 x13 x14 y15_2 y16_2 x17 x18 x19 x20 f0 f1 f2 f3 f4 f5 f6 f7 f8 f9 f10 f11 g12_2 f13 f14 f15 f16 f17 f18 f19 f20 f21 f22 f23 f24) := hap
    have hs_2 : (r2.toInt = -1) := hw
    have hSX := SCx_fr hSX hG (show FR S [35] f fc1 from hu1.2.1) (by decide)
    have hLK := LKx_fr hLK hG (show FR S [35] f fc1 from hu1.2.1) (by decide)
    refine lv_pop hx hb dL_law_623 rfl ?_
    refine lv_goto (tgt := 947) hx hb dL_law_624 (by decide) ?_
    refine W.widen (k := N9 + 18) (n := M9 + 1193) (by omega) (by omega) ?_
    exact hend _ _ _ ⟨L, S, fc1, x0, x1, x2, x3, x4, x5, x6, x7, x8, x9, x10, x11, x12, x13, x14, y15_2, y16_2, x17, x18, x19, x20, f0, f1, f2, f3, f4, f5, f6, f7, f8, f9, f10, f11, g12_2, f13, f14, f15, f16, f17, f18, f19, f20, f21, f22, f23, f24, J, hP, hD, hap, hLK, hSX, ⟨(by first | assumption | omega), (by first | assumption | omega), (by first | assumption | omega), (by first | assumption | omega), (by first | assumption | omega), (by first | assumption | omega), (by first | assumption | omega), (by first | assumption | omega), (by first | assumption | omega), (by first | assumption | omega), (by first | assumption | omega)⟩⟩ hS hl
