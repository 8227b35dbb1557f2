theorem dL_law_848 : decode cL_law 848 = .ok (.aload_n 1, 1) := by decide +kernel
theorem dL_law_849 : decode cL_law 849 = .ok (.aload_n 0, 1) := by decide +kernel
theorem dL_law_850 : decode cL_law 850 = .ok (.iload_n 3, 1) := by decide +kernel
theorem dL_law_851 : decode cL_law 851 = .ok (.iconst 1, 1) := by decide +kernel
theorem dL_law_852 : decode cL_law 852 = .ok (.iadd, 1) := by decide +kernel
theorem dL_law_853 : decode cL_law 853 = .ok (.iaload, 1) := by decide +kernel
theorem dL_law_854 : decode cL_law 854 = .ok (.aload_n 0, 1) := by decide +kernel
theorem dL_law_855 : decode cL_law 855 = .ok (.iload_n 3, 1) := by decide +kernel
theorem dL_law_856 : decode cL_law 856 = .ok (.iconst 2, 1) := by decide +kernel
theorem dL_law_857 : decode cL_law 857 = .ok (.iadd, 1) := by decide +kernel
theorem dL_law_858 : decode cL_law 858 = .ok (.iaload, 1) := by decide +kernel
theorem dL_law_859 : decode cL_law 859 = .ok (.aload_n 0, 1) := by decide +kernel
theorem dL_law_860 : decode cL_law 860 = .ok (.iload_n 3, 1) := by decide +kernel
theorem dL_law_861 : decode cL_law 861 = .ok (.iconst 3, 1) := by decide +kernel
theorem dL_law_862 : decode cL_law 862 = .ok (.iadd, 1) := by decide +kernel
theorem dL_law_863 : decode cL_law 863 = .ok (.iaload, 1) := by decide +kernel
theorem dL_law_864 : decode cL_law 864 = .ok (.invokevirtual 108, 3) := by decide +kernel
theorem dL_law_867 : decode cL_law 867 = .ok (.pop, 1) := by decide +kernel
theorem dL_law_868 : decode cL_law 868 = .ok (.aload_n 2, 1) := by decide +kernel
theorem dL_law_869 : decode cL_law 869 = .ok (.aload_n 0, 1) := by decide +kernel
theorem dL_law_870 : decode cL_law 870 = .ok (.iload_n 3, 1) := by decide +kernel
theorem dL_law_871 : decode cL_law 871 = .ok (.iconst 1, 1) := by decide +kernel
theorem dL_law_872 : decode cL_law 872 = .ok (.iadd, 1) := by decide +kernel
theorem dL_law_873 : decode cL_law 873 = .ok (.iaload, 1) := by decide +kernel
theorem dL_law_874 : decode cL_law 874 = .ok (.aload_n 0, 1) := by decide +kernel
theorem dL_law_875 : decode cL_law 875 = .ok (.iload_n 3, 1) := by decide +kernel
theorem dL_law_876 : decode cL_law 876 = .ok (.iconst 2, 1) := by decide +kernel
theorem dL_law_877 : decode cL_law 877 = .ok (.iadd, 1) := by decide +kernel
theorem dL_law_878 : decode cL_law 878 = .ok (.iaload, 1) := by decide +kernel
theorem dL_law_879 : decode cL_law 879 = .ok (.aload_n 0, 1) := by decide +kernel
theorem dL_law_880 : decode cL_law 880 = .ok (.iload_n 3, 1) := by decide +kernel
theorem dL_law_881 : decode cL_law 881 = .ok (.iconst 3, 1) := by decide +kernel
theorem dL_law_882 : decode cL_law 882 = .ok (.iadd, 1) := by decide +kernel
theorem dL_law_883 : decode cL_law 883 = .ok (.iaload, 1) := by decide +kernel
theorem dL_law_884 : decode cL_law 884 = .ok (.invokevirtual 111, 3) := by decide +kernel
theorem dL_law_887 : decode cL_law 887 = .ok (.pop, 1) := by decide +kernel
theorem dL_law_888 : decode cL_law 888 = .ok (.goto 59, 3) := by decide +kernel
theorem dL_law_891 : decode cL_law 891 = .ok (.aload_n 1, 1) := by decide +kernel
theorem dL_law_892 : decode cL_law 892 = .ok (.aload_n 0, 1) := by decide +kernel
theorem dL_law_893 : decode cL_law 893 = .ok (.iload_n 3, 1) := by decide +kernel
theorem dL_law_894 : decode cL_law 894 = .ok (.iconst 1, 1) := by decide +kernel
theorem dL_law_895 : decode cL_law 895 = .ok (.iadd, 1) := by decide +kernel
theorem dL_law_896 : decode cL_law 896 = .ok (.iaload, 1) := by decide +kernel
theorem dL_law_897 : decode cL_law 897 = .ok (.aload_n 0, 1) := by decide +kernel
theorem dL_law_898 : decode cL_law 898 = .ok (.iload_n 3, 1) := by decide +kernel
theorem dL_law_899 : decode cL_law 899 = .ok (.iconst 2, 1) := by decide +kernel
theorem dL_law_900 : decode cL_law 900 = .ok (.iadd, 1) := by decide +kernel
theorem dL_law_901 : decode cL_law 901 = .ok (.iaload, 1) := by decide +kernel
theorem dL_law_902 : decode cL_law 902 = .ok (.invokevirtual 112, 3) := by decide +kernel
theorem dL_law_905 : decode cL_law 905 = .ok (.pop, 1) := by decide +kernel
theorem dL_law_906 : decode cL_law 906 = .ok (.aload_n 2, 1) := by decide +kernel
theorem dL_law_907 : decode cL_law 907 = .ok (.aload_n 0, 1) := by decide +kernel
theorem dL_law_908 : decode cL_law 908 = .ok (.iload_n 3, 1) := by decide +kernel
theorem dL_law_909 : decode cL_law 909 = .ok (.iconst 1, 1) := by decide +kernel
theorem dL_law_910 : decode cL_law 910 = .ok (.iadd, 1) := by decide +kernel
theorem dL_law_911 : decode cL_law 911 = .ok (.iaload, 1) := by decide +kernel
theorem dL_law_912 : decode cL_law 912 = .ok (.aload_n 0, 1) := by decide +kernel
theorem dL_law_913 : decode cL_law 913 = .ok (.iload_n 3, 1) := by decide +kernel
theorem dL_law_914 : decode cL_law 914 = .ok (.iconst 2, 1) := by decide +kernel
theorem dL_law_915 : decode cL_law 915 = .ok (.iadd, 1) := by decide +kernel
theorem dL_law_916 : decode cL_law 916 = .ok (.iaload, 1) := by decide +kernel
theorem dL_law_917 : decode cL_law 917 = .ok (.invokevirtual 115, 3) := by decide +kernel
theorem dL_law_920 : decode cL_law 920 = .ok (.pop, 1) := by decide +kernel
theorem dL_law_921 : decode cL_law 921 = .ok (.goto 26, 3) := by decide +kernel
theorem dL_law_924 : decode cL_law 924 = .ok (.aload_n 1, 1) := by decide +kernel
theorem dL_law_925 : decode cL_law 925 = .ok (.aload_n 0, 1) := by decide +kernel
theorem dL_law_926 : decode cL_law 926 = .ok (.iload_n 3, 1) := by decide +kernel
theorem dL_law_927 : decode cL_law 927 = .ok (.iconst 1, 1) := by decide +kernel
theorem dL_law_928 : decode cL_law 928 = .ok (.iadd, 1) := by decide +kernel
theorem dL_law_929 : decode cL_law 929 = .ok (.iaload, 1) := by decide +kernel
theorem dL_law_930 : decode cL_law 930 = .ok (.invokevirtual 116, 3) := by decide +kernel
theorem dL_law_933 : decode cL_law 933 = .ok (.pop, 1) := by decide +kernel
theorem dL_law_934 : decode cL_law 934 = .ok (.aload_n 2, 1) := by decide +kernel
theorem dL_law_935 : decode cL_law 935 = .ok (.aload_n 0, 1) := by decide +kernel
theorem dL_law_936 : decode cL_law 936 = .ok (.iload_n 3, 1) := by decide +kernel
theorem dL_law_937 : decode cL_law 937 = .ok (.iconst 1, 1) := by decide +kernel
theorem dL_law_938 : decode cL_law 938 = .ok (.iadd, 1) := by decide +kernel
theorem dL_law_939 : decode cL_law 939 = .ok (.iaload, 1) := by decide +kernel
theorem dL_law_940 : decode cL_law 940 = .ok (.invokevirtual 119, 3) := by decide +kernel
theorem dL_law_943 : decode cL_law 943 = .ok (.pop, 1) := by decide +kernel
theorem dL_law_944 : decode cL_law 944 = .ok (.goto 3, 3) := by decide +kernel
set_option maxRecDepth 100000 in
set_option maxHeartbeats 4000000 in
theorem ggL_law_X10_drop : GoodIn wsL_law wsX10_drop := goodIn_r _ [1053, 31, 42, 672, 673, 674, 30, 675, 509, 400, 401, 402, 403, 64, 204, 205, 206, 207, 208, 759, 760, 761, 41, 762, 763, 112, 113, 764, 765, 719, 720, 721, 111, 722, 17, 18, 19, 723, 418, 419, 420, 724, 443, 444, 93, 445, 386, 106, 725, 694, 695, 696, 107, 726, 727, 728, 729, 105, 450, 451, 452, 453, 446, 447, 448, 449, 454, 455, 456, 457, 458, 459, 460, 461, 462, 463, 464, 465, 766, 767, 768, 769, 770, 771, 772, 773, 774, 775, 776, 777, 778, 114, 115, 116, 1054, 1055, 1056, 1057, 1058, 92, 1059, 101, 102, 103, 14, 15, 104, 21, 22, 58, 1060, 413, 414, 415, 416, 417, 1061, 1062, 467, 468, 469, 1063, 1064, 426, 427, 428, 1065, 506, 507, 508, 66, 510, 1066, 519, 520, 521, 1100, 1101, 1102, 1103, 1104, 1105, 1106, 1107, 1182, 1183, 1184, 1185, 1186, 1187, 1188, 1189, 1157, 1158, 1159, 1160, 1202, 1203, 1204, 1205] (by with_unfolding_all rfl) (by decide +kernel)
set_option maxRecDepth 20000 in
theorem gL_law_X10_drop : GoodIn wsL_law (wsV RL 108 RX10 yX10_drop wsX10_drop) := goodIn_app (goodIn_of _ (by decide +kernel)) ggL_law_X10_drop
set_option maxRecDepth 100000 in
set_option maxHeartbeats 4000000 in
theorem ggL_law_X11_drop : GoodIn wsL_law wsX11_drop := goodIn_r _ [1070, 537, 783, 139, 156, 539, 784, 785, 786, 5, 787, 680, 681, 682, 683, 197, 198, 199, 627, 628, 629, 630, 631, 632, 633, 788, 789, 790, 791, 745, 747, 748, 749, 750, 153, 746, 706, 707, 708, 709, 710, 711, 712, 713, 792, 793, 794, 795, 154, 155, 166, 157, 796, 797, 798, 799, 800, 801, 802, 803, 804, 805, 806, 807, 612, 613, 614, 1108, 1109, 1110, 1111, 1112, 1113, 1114, 1115, 1116, 1117, 1118, 1119, 1120, 1121, 1122, 1123, 1124, 1125, 1126, 1127, 1128, 1129, 1130, 1131, 1132, 1133, 1134, 1135, 1136, 1137, 1138, 1139, 1140, 1141, 1142, 1143, 1144, 1145, 1146, 1147, 1148, 1149, 1150, 1151, 1152, 1153, 1154] (by with_unfolding_all rfl) (by decide +kernel)
set_option maxRecDepth 20000 in
theorem gL_law_X11_drop : GoodIn wsL_law (wsV RL 111 RX11 yX11_drop wsX11_drop) := goodIn_app (goodIn_of _ (by decide +kernel)) ggL_law_X11_drop
set_option maxRecDepth 20000 in
theorem ggL_law_X10_turned : GoodIn wsL_law wsX10_turned := goodIn_r _ [1074, 31, 672, 673, 674, 30, 675, 509, 400, 401, 402, 403, 64, 1075, 1076, 1077, 93, 1078, 106, 442, 443, 444, 445, 386, 450, 451, 452, 453, 454, 455, 456, 457, 458, 459, 460, 461, 1079, 1080, 1081, 1082, 107, 1100, 1101, 1102, 1103, 1104, 1105, 1106, 1107, 1202, 1203, 1204, 1205, 1157, 1158, 1159, 1160] (by decide +kernel) (by decide +kernel)
set_option maxRecDepth 20000 in
theorem gL_law_X10_turned : GoodIn wsL_law (wsV RL 112 RX10 yX10_turned wsX10_turned) := goodIn_app (goodIn_of _ (by decide +kernel)) ggL_law_X10_turned
set_option maxRecDepth 100000 in
set_option maxHeartbeats 4000000 in
theorem ggL_law_X11_turned : GoodIn wsL_law wsX11_turned := goodIn_r _ [1086, 139, 680, 681, 682, 5, 683, 539, 197, 198, 199, 627, 628, 629, 630, 631, 632, 633, 1108, 1109, 1110, 1111, 1112, 1113, 1114, 1115, 1116, 1117, 1118, 1119, 1120, 1121, 1122, 1123, 1124, 1125, 1126, 1127, 1128, 1129, 1130, 1131, 1132, 1133, 1134, 1135, 1136, 1137, 1138, 1139, 1140, 1141, 1142, 1143, 1144, 1145, 1146, 1147, 1148, 1149, 1150, 1151, 1152, 1153, 1154] (by with_unfolding_all rfl) (by decide +kernel)
set_option maxRecDepth 20000 in
theorem gL_law_X11_turned : GoodIn wsL_law (wsV RL 115 RX11 yX11_turned wsX11_turned) := goodIn_app (goodIn_of _ (by decide +kernel)) ggL_law_X11_turned
set_option maxRecDepth 20000 in
theorem ggL_law_X10_about : GoodIn wsL_law wsX10_about := goodIn_r _ [1090, 23, 31, 27, 50, 1091, 1092, 1093, 30, 1094, 1095, 673, 674, 675, 509, 400, 401, 402, 403, 64, 1100, 1101, 1102, 1103, 1104, 1105, 1106, 1107, 1157, 1158, 1159, 1160, 1155, 1156, 1194, 1195, 1196, 1197] (by decide +kernel) (by decide +kernel)
set_option maxRecDepth 20000 in
theorem gL_law_X10_about : GoodIn wsL_law (wsV RL 116 RX10 yX10_about wsX10_about) := goodIn_app (goodIn_of _ (by decide +kernel)) ggL_law_X10_about
set_option maxRecDepth 100000 in
set_option maxHeartbeats 4000000 in
theorem ggL_law_X11_about : GoodIn wsL_law wsX11_about := goodIn_r _ [1099, 166, 537, 539, 184, 956, 680, 681, 682, 5, 683, 197, 198, 199, 627, 628, 629, 630, 139, 631, 632, 633, 1108, 1109, 1110, 1111, 1112, 1113, 1114, 1115, 1116, 1117, 1118, 1119, 1120, 1121, 1122, 1123, 1124, 1125, 1126, 1127, 1128, 1129, 1130, 1131, 1132, 1133, 1134, 1135, 1136, 1137, 1138, 1139, 1140, 1141, 1142, 1143, 1144, 1145, 1146, 1147, 1148, 1149, 1150, 1151, 1152, 1153, 1154] (by with_unfolding_all rfl) (by decide +kernel)
set_option maxRecDepth 20000 in
theorem gL_law_X11_about : GoodIn wsL_law (wsV RL 119 RX11 yX11_about wsX11_about) := goodIn_app (goodIn_of _ (by decide +kernel)) ggL_law_X11_about
set_option maxRecDepth 100000 in
set_option maxHeartbeats 4000000 in
theorem law_c20 {p : Program} {l : Launch} {e : Env} {s : State} {m : MethodId} {below : List Frame} {meth : Method} {c : Code} {b n9 : Nat} {xs : Nat → Int32} {A : Nat → Prop} {D : va_G} {cI cR cM : ClassId} {jn mm k N9 M9 : Nat} {g q : Nat → Nat} {H : Heap} {locs : List Loc} {ls : Array Slot} {adK adV : Nat → Nat} (C : LC p s m meth c b n9 xs A D cI cR cM) (hST : ST adK adV s.heap.size s) (hj : 1 ≤ jn ∧ jn ≤ 3) (hk : k + 5 < n9) (hn9 : n9 ≤ 3073) (hN9 : N9 + 18 ≤ room_1.cells) (hM9 : M9 + 1193 ≤ room_1.slots) (J : JS jn cI cR cM D g A mm q H) (hS : va_S A s.heap H locs) (hl : lv_has ls 4 [(0, .ref b), (1, .ref (g 10)), (2, .ref mm), (3, .int (nI k))]) (hend : ∀ (H1 : Heap) (locs1 : List Loc) (ls1 : Array Slot), JS jn cI cR cM D g A mm q H1 → va_S A s.heap H1 locs1 → lv_has ls1 4 [(0, .ref b), (1, .ref (g 10)), (2, .ref mm), (3, .int (nI k))] → W p l e room_1 s m #[Value.ref b] below meth c H1 locs1 (N9 + 18) (M9 + 1193) (lw_Z below #[Value.ref b] s) (F0 m 947 ls1 [])) : W p l e room_1 s m #[Value.ref b] below meth c H locs N9 M9 (lw_Z below #[Value.ref b] s) (F0 m 848 ls []) := by
  obtain ⟨hx, hb, hr, hml, hown, hts, hX, hbl, hlocks, hK, hA, hA2⟩ := C
  have hbA : ¬ A b := fun q => absurd (hA2 b q) (Nat.not_le.mpr hbl)
  obtain ⟨L, S, f, x0, x1, x2, x3, x4, x5, x6, x7, x8, x9, x10, x11, x12, x13, x14, x15, x16, x17, x18, x19, x20, f0, f1, f2, f3, f4, f5, f6, f7, f8, f9, f10, f11, f12, f13, f14, f15, f16, f17, f18, f19, f20, f21, f22, f23, f24, J, hP, hD, hap, hLK, hSX, h0, h1, h2, h18, hsc, hRX, hRZ, hSe, hFm, hMK, hwt⟩ := J
  have J0 := J
  obtain ⟨hG, hI, hTK, hP1, hD1⟩ := J0
  refine lv_aload_n hx hb dL_law_848 rfl (lv_at hl 1 rfl) ?_
  refine lv_aload_n hx hb dL_law_849 rfl (lv_at hl 0 rfl) ?_
  refine lv_iload_n hx hb dL_law_850 rfl (lv_at hl 3 rfl) ?_
  refine lv_iconst (v := 1) hx hb dL_law_851 (by decide) ?_
  refine lv_eqi (y := nI 1) rfl ?_
  refine lv_iadd hx hb dL_law_852 ?_
  refine lv_eqi (y := nI (k + 1)) (nI_add _ _) ?_
  refine va_sld hx hb hX hbl hbA hS (vp_in_nI (n := k + 1) (by omega) (by omega)) dL_law_853 ?_
  refine lv_eqi (y := xs (k + 1)) (congrArg xs (nI_clamp (by omega))) ?_
  refine lv_aload_n hx hb dL_law_854 rfl (lv_at hl 0 rfl) ?_
  refine lv_iload_n hx hb dL_law_855 rfl (lv_at hl 3 rfl) ?_
  refine lv_iconst (v := 2) hx hb dL_law_856 (by decide) ?_
  refine lv_eqi (y := nI 2) rfl ?_
  refine lv_iadd hx hb dL_law_857 ?_
  refine lv_eqi (y := nI (k + 2)) (nI_add _ _) ?_
  refine va_sld hx hb hX hbl hbA hS (vp_in_nI (n := k + 2) (by omega) (by omega)) dL_law_858 ?_
  refine lv_eqi (y := xs (k + 2)) (congrArg xs (nI_clamp (by omega))) ?_
  refine lv_aload_n hx hb dL_law_859 rfl (lv_at hl 0 rfl) ?_
  refine lv_iload_n hx hb dL_law_860 rfl (lv_at hl 3 rfl) ?_
  refine lv_iconst (v := 3) hx hb dL_law_861 (by decide) ?_
  refine lv_eqi (y := nI 3) rfl ?_
  refine lv_iadd hx hb dL_law_862 ?_
  refine lv_eqi (y := nI (k + 3)) (nI_add _ _) ?_
  refine va_sld hx hb hX hbl hbA hS (vp_in_nI (n := k + 3) (by omega) (by omega)) dL_law_863 ?_
  refine lv_eqi (y := xs (k + 3)) (congrArg xs (nI_clamp (by omega))) ?_
  by_cases hj1 : jn = 1
  · obtain ⟨lv, gr, Ev, cb, hcl, hRf, hEO, hRz, hTp⟩ := hLK hj1
    refine law_n (va_runV (As := [.int (xs (k + 1)), .int (xs (k + 2)), .int (xs (k + 3))]) (rest := []) ⟨hx, hb, hml, hown, hts⟩ (t_X10_dropm l D cI cR cM _ (lv := lv) (gr := gr) (Ev := Ev) (cb := cb) (n9 := x2.toInt) (T9 := x0.toInt) (lk9 := x1.toInt) hj hG hI hj1 hcl hEO) (cwV 3 hts gL_law_X10_drop rfl rfl rfl (by decide +kernel) ⟨Nat.le_of_ble_eq_true rfl, Nat.le_of_ble_eq_true rfl⟩) (pre_T hK hP1 hD1 (gm_10 hG) (hall_at hG hI) rfl) rfl rfl hl.1 rfl (lv_room (Nat.le_of_ble_eq_true rfl)) dL_law_864 ⟨by omega, by omega⟩) (fun _ hu => ⟨hu.1, hu.2.1, fun e9 => absurd hj1 e9⟩) J hP hap hS hA (fun r1 L1 S1 fc1 H locs hu1 J hP hap hS => ?_)
    refine lv_pop hx hb dL_law_867 rfl ?_
    refine lv_aload_n hx hb dL_law_868 rfl (lv_at hl 2 rfl) ?_
    refine lv_aload_n hx hb dL_law_869 rfl (lv_at hl 0 rfl) ?_
    refine lv_iload_n hx hb dL_law_870 rfl (lv_at hl 3 rfl) ?_
    refine lv_iconst (v := 1) hx hb dL_law_871 (by decide) ?_
    refine lv_eqi (y := nI 1) rfl ?_
    refine lv_iadd hx hb dL_law_872 ?_
    refine lv_eqi (y := nI (k + 1)) (nI_add _ _) ?_
    refine va_sld hx hb hX hbl hbA hS (vp_in_nI (n := k + 1) (by omega) (by omega)) dL_law_873 ?_
    refine lv_eqi (y := xs (k + 1)) (congrArg xs (nI_clamp (by omega))) ?_
    refine lv_aload_n hx hb dL_law_874 rfl (lv_at hl 0 rfl) ?_
    refine lv_iload_n hx hb dL_law_875 rfl (lv_at hl 3 rfl) ?_
    refine lv_iconst (v := 2) hx hb dL_law_876 (by decide) ?_
    refine lv_eqi (y := nI 2) rfl ?_
    refine lv_iadd hx hb dL_law_877 ?_
    refine lv_eqi (y := nI (k + 2)) (nI_add _ _) ?_
    refine va_sld hx hb hX hbl hbA hS (vp_in_nI (n := k + 2) (by omega) (by omega)) dL_law_878 ?_
    refine lv_eqi (y := xs (k + 2)) (congrArg xs (nI_clamp (by omega))) ?_
    refine lv_aload_n hx hb dL_law_879 rfl (lv_at hl 0 rfl) ?_
    refine lv_iload_n hx hb dL_law_880 rfl (lv_at hl 3 rfl) ?_
    refine lv_iconst (v := 3) hx hb dL_law_881 (by decide) ?_
    refine lv_eqi (y := nI 3) rfl ?_
    refine lv_iadd hx hb dL_law_882 ?_
    refine lv_eqi (y := nI (k + 3)) (nI_add _ _) ?_
    refine va_sld hx hb hX hbl hbA hS (vp_in_nI (n := k + 3) (by omega) (by omega)) dL_law_883 ?_
    refine lv_eqi (y := xs (k + 3)) (congrArg xs (nI_clamp (by omega))) ?_
    refine law_ms (wr := []) (va_runV (As := [.int (xs (k + 1)), .int (xs (k + 2)), .int (xs (k + 3))]) (rest := []) ⟨hx, hb, hml, hown, hts⟩ (k_drop3 l D cI cR cM _ (Ev := Ev) (by first | assumption | omega) (by first | assumption | omega) (by first | assumption | omega) (by first | assumption | omega) (by first | assumption | omega) (by first | assumption | omega) (by first | assumption | omega) (by first | assumption | omega) (by first | assumption | omega) (by first | assumption | omega)) (cwV 3 hts gL_law_X11_drop rfl rfl rfl (by decide +kernel) ⟨Nat.le_of_ble_eq_true rfl, Nat.le_of_ble_eq_true rfl⟩) (pre_V hK hP hD 0 11 rfl rfl) rfl rfl hl.1 rfl (lv_room (Nat.le_of_ble_eq_true rfl)) dL_law_884 ⟨by omega, by omega⟩) J hP hD hap hS hA [0, 1, 2, 3, 4, 5, 6, 7, 8, 9, 10, 11, 12, 13, 14, 15, 16, 17, 18, 19, 20, 21, 22, 23, 24, 25] [] (by with_unfolding_all rfl) rfl (by decide) (by decide) (fun u2 H locs hw J hP hD hap hS => ?_)
    obtain ⟨r2, y0_2, y1_2, y15_2, y16_2, y17_2, g0_2, g12_2, g13_2, g14_2, g15_2, g16_2⟩ := u2
    have hP : va_P D vwCl (mX mm q jn cI y0_2 y1_2 x2 x3 x4 x5 x6 x7 x8 x9 x10 x11 x12 x13 x14 y15_2 y16_2 y17_2 x18 x19 x20 g0_2 f1 f2 f3 f4 f5 f6 f7 f8 f9 f10 f11 g12_2 g13_2 g14_2 g15_2 g16_2 f17 f18 f19 f20 f21 f22 f23 f24) H := hP
    have hD : va_D A (mX mm q jn cI y0_2 y1_2 x2 x3 x4 x5 x6 x7 x8 x9 x10 x11 x12 x13 x14 y15_2 y16_2 y17_2 x18 x19 x20 g0_2 f1 f2 f3 f4 f5 f6 f7 f8 f9 f10 f11 g12_2 g13_2 g14_2 g15_2 g16_2 f17 f18 f19 f20 f21 f22 f23 f24) := hD
    have hap : AP L1 (mX mm q jn cI y0_2 y1_2 x2 x3 x4 x5 x6 x7 x8 x9 x10 x11 x12 x13 x14 y15_2 y16_2 y17_2 x18 x19 x20 g0_2 f1 f2 f3 f4 f5 f6 f7 f8 f9 f10 f11 g12_2 g13_2 g14_2 g15_2 g16_2 f17 f18 f19 f20 f21 f22 f23 f24) := hap
    obtain ⟨h0_2, h1_2, hR_2, hRZ_2, hF_2⟩ : (0 ≤ y0_2.toInt ∧ y0_2.toInt ≤ 60) ∧ (0 ≤ y1_2.toInt ∧ y1_2.toInt ≤ y0_2.toInt) ∧ (RowsX jn g0_2) ∧ (RowsZ jn g0_2) ∧ (Hd ((r2.toInt = -1 ∧ y0_2 = x0 ∧ y1_2 = x1 ∧ g0_2 = f0 ∧ (¬ DrK Ev x0.toInt x1.toInt (xs (k + 1)).toInt (xs (k + 3)).toInt ∨ (DrK Ev x0.toInt x1.toInt (xs (k + 1)).toInt (xs (k + 3)).toInt ∧ ∃ (La : Int → Int) (kq : Int), DrL (Ev x1.toInt (xs (k + 1)).toInt).2 (Ev x1.toInt (xs (k + 1)).toInt).1 La kq ∧ ¬ BtM kq (xs (k + 2))))) ∨ (r2.toInt = x0.toInt + 1 ∧ y0_2.toInt = x0.toInt + 1 ∧ y1_2 = y0_2 ∧ DrK Ev x0.toInt x1.toInt (xs (k + 1)).toInt (xs (k + 3)).toInt ∧ ∃ (La : Int → Int) (kq : Int), DrL (Ev x1.toInt (xs (k + 1)).toInt).2 (Ev x1.toInt (xs (k + 1)).toInt).1 La kq ∧ BtM kq (xs (k + 2)) ∧ RefR g0_2 (x0.toInt + 1) (evp Ev (x0.toInt + 1) (eup (Ev x0.toInt) (xs (k + 3)).toInt ((Ev x1.toInt (xs (k + 1)).toInt).1, drW (Ev x1.toInt (xs (k + 1)).toInt).2 (Dr La (xs (k + 2)))))) ∧ RefZ g0_2 (x0.toInt + 1)))) := hw
    have hSX := SCx_frx hSX hG hu1.2.2.1 (by decide)
    have hLK : LKx jn cI cR g L1 S1 fc1 y0_2 y1_2 x2 g0_2 f2 := fun _ => by
      rcases hu1.2.2.2 with ⟨a1, a2, a3⟩ | ⟨a1, a2, La, kc, a3, a4, a5⟩ <;> rcases hF_2 with ⟨b1, b2, b3, b4, b5⟩ | ⟨b1, b2, b3, b4, Lb, kd, b5, b6, b7, b8⟩
      · rw [b2, b3, b4]; exact ⟨lv, gr, Ev, cb, a3, hRf, hEO, hRz, hTp⟩
      · rcases a2 with a2 | ⟨a2, La, kc, a4, a5⟩
        · exact absurd b4 a2
        · exact absurd ((dr_same (R := f0) (y := (xs (k + 2))) a2 h1 hEO a4 b5).1.mpr b6) a5
      · rcases b5 with b5 | ⟨b5, Lb, kd, b6, b7⟩
        · exact absurd a2 b5
        · exact absurd ((dr_same (R := f0) (y := (xs (k + 2))) a2 h1 hEO a3 b6).1.mp a4) b7
      · have e9 := dr_same (R := g0_2) (y := (xs (k + 2))) a2 h1 hEO a3 b5
        rw [b3]
        exact ⟨lv, gr, _, cb, by rw [b2]; exact a5, by rw [b2]; exact e9.2.1 a4 b7, by rw [b2]; exact e9.2.2, by rw [b2]; exact b8, hTp⟩
    refine lv_pop hx hb dL_law_887 rfl ?_
    refine lv_goto (tgt := 947) hx hb dL_law_888 (by decide) ?_
    refine W.widen (k := N9 + 18) (n := M9 + 1193) (by omega) (by omega) ?_
    exact hend _ _ _ ⟨L1, S1, fc1, y0_2, y1_2, x2, x3, x4, x5, x6, x7, x8, x9, x10, x11, x12, x13, x14, y15_2, y16_2, y17_2, x18, x19, x20, g0_2, f1, f2, f3, f4, f5, f6, f7, f8, f9, f10, f11, g12_2, g13_2, g14_2, g15_2, g16_2, f17, f18, f19, f20, f21, f22, f23, f24, J, hP, hD, hap, hLK, hSX, ⟨(by first | assumption | omega), (by first | assumption | omega), (by first | assumption | omega), (by first | assumption | omega), (by first | assumption | omega), (by first | assumption | omega), (by first | assumption | omega), (by first | assumption | omega), (by first | assumption | omega), (by first | assumption | omega), (by first | assumption | omega)⟩⟩ hS hl
  · refine law_n (va_runV (As := [.int (xs (k + 1)), .int (xs (k + 2)), .int (xs (k + 3))]) (rest := []) ⟨hx, hb, hml, hown, hts⟩ (t_X10_drop l D cI cR cM _ hj hG hI) (cwV 3 hts gL_law_X10_drop rfl rfl rfl (by decide +kernel) ⟨Nat.le_of_ble_eq_true rfl, Nat.le_of_ble_eq_true rfl⟩) (pre_T hK hP1 hD1 (gm_10 hG) (hall_at hG hI) rfl) rfl rfl hl.1 rfl (lv_room (Nat.le_of_ble_eq_true rfl)) dL_law_864 ⟨by omega, by omega⟩) (fun _ hu => ⟨hu.1, hu.2.1, fun e9 => TK_tagx hG hu.2.2 (by decide) (by decide) (by decide) (hTK e9)⟩) J hP hap hS hA (fun r1 L1 S1 fc1 H locs hu1 J hP hap hS => ?_)
    refine lv_pop hx hb dL_law_867 rfl ?_
    refine lv_aload_n hx hb dL_law_868 rfl (lv_at hl 2 rfl) ?_
    refine lv_aload_n hx hb dL_law_869 rfl (lv_at hl 0 rfl) ?_
    refine lv_iload_n hx hb dL_law_870 rfl (lv_at hl 3 rfl) ?_
    refine lv_iconst (v := 1) hx hb dL_law_871 (by decide) ?_
    refine lv_eqi (y := nI 1) rfl ?_
    refine lv_iadd hx hb dL_law_872 ?_
    refine lv_eqi (y := nI (k + 1)) (nI_add _ _) ?_
    refine va_sld hx hb hX hbl hbA hS (vp_in_nI (n := k + 1) (by omega) (by omega)) dL_law_873 ?_
    refine lv_eqi (y := xs (k + 1)) (congrArg xs (nI_clamp (by omega))) ?_
    refine lv_aload_n hx hb dL_law_874 rfl (lv_at hl 0 rfl) ?_
    refine lv_iload_n hx hb dL_law_875 rfl (lv_at hl 3 rfl) ?_
    refine lv_iconst (v := 2) hx hb dL_law_876 (by decide) ?_
    refine lv_eqi (y := nI 2) rfl ?_
    refine lv_iadd hx hb dL_law_877 ?_
    refine lv_eqi (y := nI (k + 2)) (nI_add _ _) ?_
    refine va_sld hx hb hX hbl hbA hS (vp_in_nI (n := k + 2) (by omega) (by omega)) dL_law_878 ?_
    refine lv_eqi (y := xs (k + 2)) (congrArg xs (nI_clamp (by omega))) ?_
    refine lv_aload_n hx hb dL_law_879 rfl (lv_at hl 0 rfl) ?_
    refine lv_iload_n hx hb dL_law_880 rfl (lv_at hl 3 rfl) ?_
    refine lv_iconst (v := 3) hx hb dL_law_881 (by decide) ?_
    refine lv_eqi (y := nI 3) rfl ?_
    refine lv_iadd hx hb dL_law_882 ?_
    refine lv_eqi (y := nI (k + 3)) (nI_add _ _) ?_
    refine va_sld hx hb hX hbl hbA hS (vp_in_nI (n := k + 3) (by omega) (by omega)) dL_law_883 ?_
    refine lv_eqi (y := xs (k + 3)) (congrArg xs (nI_clamp (by omega))) ?_
    refine law_ms (wr := []) (va_runV (As := [.int (xs (k + 1)), .int (xs (k + 2)), .int (xs (k + 3))]) (rest := []) ⟨hx, hb, hml, hown, hts⟩ (k_drop l D cI cR cM _  (by first | assumption | omega) (by first | assumption | omega) (by first | assumption | omega) (by first | assumption | omega) (by first | assumption | omega) (by first | assumption | omega)) (cwV 3 hts gL_law_X11_drop rfl rfl rfl (by decide +kernel) ⟨Nat.le_of_ble_eq_true rfl, Nat.le_of_ble_eq_true rfl⟩) (pre_V hK hP hD 0 11 rfl rfl) rfl rfl hl.1 rfl (lv_room (Nat.le_of_ble_eq_true rfl)) dL_law_884 ⟨by omega, by omega⟩) J hP hD hap hS hA [0, 1, 2, 3, 4, 5, 6, 7, 8, 9, 10, 11, 12, 13, 14, 15, 16, 17, 18, 19, 20, 21, 22, 23, 24, 25] [] (by with_unfolding_all rfl) rfl (by decide) (by decide) (fun u2 H locs hw J hP hD hap hS => ?_)
    obtain ⟨r2, y0_2, y1_2, y15_2, y16_2, y17_2, g0_2, g12_2, g13_2, g14_2, g15_2, g16_2⟩ := u2
    have hP : va_P D vwCl (mX mm q jn cI y0_2 y1_2 x2 x3 x4 x5 x6 x7 x8 x9 x10 x11 x12 x13 x14 y15_2 y16_2 y17_2 x18 x19 x20 g0_2 f1 f2 f3 f4 f5 f6 f7 f8 f9 f10 f11 g12_2 g13_2 g14_2 g15_2 g16_2 f17 f18 f19 f20 f21 f22 f23 f24) H := hP
    have hD : va_D A (mX mm q jn cI y0_2 y1_2 x2 x3 x4 x5 x6 x7 x8 x9 x10 x11 x12 x13 x14 y15_2 y16_2 y17_2 x18 x19 x20 g0_2 f1 f2 f3 f4 f5 f6 f7 f8 f9 f10 f11 g12_2 g13_2 g14_2 g15_2 g16_2 f17 f18 f19 f20 f21 f22 f23 f24) := hD
    have hap : AP L1 (mX mm q jn cI y0_2 y1_2 x2 x3 x4 x5 x6 x7 x8 x9 x10 x11 x12 x13 x14 y15_2 y16_2 y17_2 x18 x19 x20 g0_2 f1 f2 f3 f4 f5 f6 f7 f8 f9 f10 f11 g12_2 g13_2 g14_2 g15_2 g16_2 f17 f18 f19 f20 f21 f22 f23 f24) := hap
    obtain ⟨h0_2, h1_2, hR_2, hRZ_2⟩ : (0 ≤ y0_2.toInt ∧ y0_2.toInt ≤ 60) ∧ (0 ≤ y1_2.toInt ∧ y1_2.toInt ≤ y0_2.toInt) ∧ (RowsX jn g0_2) ∧ (RowsZ jn g0_2) := hw
    have hSX := SCx_frx hSX hG hu1.2.2 (by decide)
    have hLK : LKx jn cI cR g L1 S1 fc1 y0_2 y1_2 x2 g0_2 f2 := fun e9 => absurd e9 hj1
    refine lv_pop hx hb dL_law_887 rfl ?_
    refine lv_goto (tgt := 947) hx hb dL_law_888 (by decide) ?_
    refine W.widen (k := N9 + 18) (n := M9 + 1193) (by omega) (by omega) ?_
    exact hend _ _ _ ⟨L1, S1, fc1, y0_2, y1_2, x2, x3, x4, x5, x6, x7, x8, x9, x10, x11, x12, x13, x14, y15_2, y16_2, y17_2, x18, x19, x20, g0_2, f1, f2, f3, f4, f5, f6, f7, f8, f9, f10, f11, g12_2, g13_2, g14_2, g15_2, g16_2, f17, f18, f19, f20, f21, f22, f23, f24, J, hP, hD, hap, hLK, hSX, ⟨(by first | assumption | omega), (by first | assumption | omega), (by first | assumption | omega), (by first | assumption | omega), (by first | assumption | omega), (by first | assumption | omega), (by first | assumption | omega), (by first | assumption | omega), (by first | assumption | omega), (by first | assumption | omega), (by first | assumption | omega)⟩⟩ hS hl
set_option maxRecDepth 100000 in
set_option maxHeartbeats 4000000 in
theorem law_c21 {p : Program} {l : Launch} {e : Env} {s : State} {m : MethodId} {below : List Frame} {meth : Method} {c : Code} {b n9 : Nat} {xs : Nat → Int32} {A : Nat → Prop} {D : va_G} {cI cR cM : ClassId} {jn mm k N9 M9 : Nat} {g q : Nat → Nat} {H : Heap} {locs : List Loc} {ls : Array Slot} {adK adV : Nat → Nat} (C : LC p s m meth c b n9 xs A D cI cR cM) (hST : ST adK adV s.heap.size s) (hj : 1 ≤ jn ∧ jn ≤ 3) (hk : k + 5 < n9) (hn9 : n9 ≤ 3073) (hN9 : N9 + 18 ≤ room_1.cells) (hM9 : M9 + 1193 ≤ room_1.slots) (J : JS jn cI cR cM D g A mm q H) (hS : va_S A s.heap H locs) (hl : lv_has ls 4 [(0, .ref b), (1, .ref (g 10)), (2, .ref mm), (3, .int (nI k))]) (hend : ∀ (H1 : Heap) (locs1 : List Loc) (ls1 : Array Slot), JS jn cI cR cM D g A mm q H1 → va_S A s.heap H1 locs1 → lv_has ls1 4 [(0, .ref b), (1, .ref (g 10)), (2, .ref mm), (3, .int (nI k))] → W p l e room_1 s m #[Value.ref b] below meth c H1 locs1 (N9 + 18) (M9 + 1193) (lw_Z below #[Value.ref b] s) (F0 m 947 ls1 [])) : W p l e room_1 s m #[Value.ref b] below meth c H locs N9 M9 (lw_Z below #[Value.ref b] s) (F0 m 891 ls []) := by
  obtain ⟨hx, hb, hr, hml, hown, hts, hX, hbl, hlocks, hK, hA, hA2⟩ := C
  have hbA : ¬ A b := fun q => absurd (hA2 b q) (Nat.not_le.mpr hbl)
  obtain ⟨L, S, f, x0, x1, x2, x3, x4, x5, x6, x7, x8, x9, x10, x11, x12, x13, x14, x15, x16, x17, x18, x19, x20, f0, f1, f2, f3, f4, f5, f6, f7, f8, f9, f10, f11, f12, f13, f14, f15, f16, f17, f18, f19, f20, f21, f22, f23, f24, J, hP, hD, hap, hLK, hSX, h0, h1, h2, h18, hsc, hRX, hRZ, hSe, hFm, hMK, hwt⟩ := J
  have J0 := J
  obtain ⟨hG, hI, hTK, hP1, hD1⟩ := J0
  refine lv_aload_n hx hb dL_law_891 rfl (lv_at hl 1 rfl) ?_
  refine lv_aload_n hx hb dL_law_892 rfl (lv_at hl 0 rfl) ?_
  refine lv_iload_n hx hb dL_law_893 rfl (lv_at hl 3 rfl) ?_
  refine lv_iconst (v := 1) hx hb dL_law_894 (by decide) ?_
  refine lv_eqi (y := nI 1) rfl ?_
  refine lv_iadd hx hb dL_law_895 ?_
  refine lv_eqi (y := nI (k + 1)) (nI_add _ _) ?_
  refine va_sld hx hb hX hbl hbA hS (vp_in_nI (n := k + 1) (by omega) (by omega)) dL_law_896 ?_
  refine lv_eqi (y := xs (k + 1)) (congrArg xs (nI_clamp (by omega))) ?_
  refine lv_aload_n hx hb dL_law_897 rfl (lv_at hl 0 rfl) ?_
  refine lv_iload_n hx hb dL_law_898 rfl (lv_at hl 3 rfl) ?_
  refine lv_iconst (v := 2) hx hb dL_law_899 (by decide) ?_
  refine lv_eqi (y := nI 2) rfl ?_
  refine lv_iadd hx hb dL_law_900 ?_
  refine lv_eqi (y := nI (k + 2)) (nI_add _ _) ?_
  refine va_sld hx hb hX hbl hbA hS (vp_in_nI (n := k + 2) (by omega) (by omega)) dL_law_901 ?_
  refine lv_eqi (y := xs (k + 2)) (congrArg xs (nI_clamp (by omega))) ?_
  refine law_ro (va_runV (As := [.int (xs (k + 1)), .int (xs (k + 2))]) (rest := []) ⟨hx, hb, hml, hown, hts⟩ (t_X10_turned l D cI cR cM _ hj hG hI) (cwV 2 hts gL_law_X10_turned rfl rfl rfl (by decide +kernel) ⟨Nat.le_of_ble_eq_true rfl, Nat.le_of_ble_eq_true rfl⟩) (pre_T hK hP1 hD1 (gm_10 hG) (hall_at hG hI) rfl) rfl rfl hl.1 rfl (lv_room (Nat.le_of_ble_eq_true rfl)) dL_law_902 ⟨by omega, by omega⟩) J hP hS hA (fun r1 H locs _ J hP hS => ?_)
  refine lv_pop hx hb dL_law_905 rfl ?_
  refine lv_aload_n hx hb dL_law_906 rfl (lv_at hl 2 rfl) ?_
  refine lv_aload_n hx hb dL_law_907 rfl (lv_at hl 0 rfl) ?_
  refine lv_iload_n hx hb dL_law_908 rfl (lv_at hl 3 rfl) ?_
  refine lv_iconst (v := 1) hx hb dL_law_909 (by decide) ?_
  refine lv_eqi (y := nI 1) rfl ?_
  refine lv_iadd hx hb dL_law_910 ?_
  refine lv_eqi (y := nI (k + 1)) (nI_add _ _) ?_
  refine va_sld hx hb hX hbl hbA hS (vp_in_nI (n := k + 1) (by omega) (by omega)) dL_law_911 ?_
  refine lv_eqi (y := xs (k + 1)) (congrArg xs (nI_clamp (by omega))) ?_
  refine lv_aload_n hx hb dL_law_912 rfl (lv_at hl 0 rfl) ?_
  refine lv_iload_n hx hb dL_law_913 rfl (lv_at hl 3 rfl) ?_
  refine lv_iconst (v := 2) hx hb dL_law_914 (by decide) ?_
  refine lv_eqi (y := nI 2) rfl ?_
  refine lv_iadd hx hb dL_law_915 ?_
  refine lv_eqi (y := nI (k + 2)) (nI_add _ _) ?_
  refine va_sld hx hb hX hbl hbA hS (vp_in_nI (n := k + 2) (by omega) (by omega)) dL_law_916 ?_
  refine lv_eqi (y := xs (k + 2)) (congrArg xs (nI_clamp (by omega))) ?_
  refine law_ro (va_runV (As := [.int (xs (k + 1)), .int (xs (k + 2))]) (rest := []) ⟨hx, hb, hml, hown, hts⟩ (k_turned l D cI cR cM _ (by first | assumption | omega) (by first | assumption | omega) (by first | assumption | omega) (by first | assumption | omega)) (cwV 2 hts gL_law_X11_turned rfl rfl rfl (by decide +kernel) ⟨Nat.le_of_ble_eq_true rfl, Nat.le_of_ble_eq_true rfl⟩) (pre_V hK hP hD 0 11 rfl rfl) rfl rfl hl.1 rfl (lv_room (Nat.le_of_ble_eq_true rfl)) dL_law_917 ⟨by omega, by omega⟩) J hP hS hA (fun r2 H locs hw J hP hS => ?_)
  refine lv_pop hx hb dL_law_920 rfl ?_
  refine lv_goto (tgt := 947) hx hb dL_law_921 (by decide) ?_
  refine W.widen (k := N9 + 18) (n := M9 + 1193) (by omega) (by omega) ?_
  exact hend _ _ _ ⟨L, S, f, x0, x1, x2, x3, x4, x5, x6, x7, x8, x9, x10, x11, x12, x13, x14, x15, x16, x17, x18, x19, x20, f0, f1, f2, f3, f4, f5, f6, f7, f8, f9, f10, f11, f12, f13, f14, f15, f16, f17, f18, f19, f20, f21, f22, f23, f24, J, hP, hD, hap, hLK, hSX, ⟨(by first | assumption | omega), (by first | assumption | omega), (by first | assumption | omega), (by first | assumption | omega), (by first | assumption | omega), (by first | assumption | omega), (by first | assumption | omega), (by first | assumption | omega), (by first | assumption | omega), (by first | assumption | omega), (by first | assumption | omega)⟩⟩ hS hl
set_option maxRecDepth 100000 in
set_option maxHeartbeats 4000000 in
theorem law_c22 {p : Program} {l : Launch} {e : Env} {s : State} {m : MethodId} {below : List Frame} {meth : Method} {c : Code} {b n9 : Nat} {xs : Nat → Int32} {A : Nat → Prop} {D : va_G} {cI cR cM : ClassId} {jn mm k N9 M9 : Nat} {g q : Nat → Nat} {H : Heap} {locs : List Loc} {ls : Array Slot} {adK adV : Nat → Nat} (C : LC p s m meth c b n9 xs A D cI cR cM) (hST : ST adK adV s.heap.size s) (hj : 1 ≤ jn ∧ jn ≤ 3) (hk : k + 5 < n9) (hn9 : n9 ≤ 3073) (hN9 : N9 + 18 ≤ room_1.cells) (hM9 : M9 + 1193 ≤ room_1.slots) (J : JS jn cI cR cM D g A mm q H) (hS : va_S A s.heap H locs) (hl : lv_has ls 4 [(0, .ref b), (1, .ref (g 10)), (2, .ref mm), (3, .int (nI k))]) (hend : ∀ (H1 : Heap) (locs1 : List Loc) (ls1 : Array Slot), JS jn cI cR cM D g A mm q H1 → va_S A s.heap H1 locs1 → lv_has ls1 4 [(0, .ref b), (1, .ref (g 10)), (2, .ref mm), (3, .int (nI k))] → W p l e room_1 s m #[Value.ref b] below meth c H1 locs1 (N9 + 18) (M9 + 1193) (lw_Z below #[Value.ref b] s) (F0 m 947 ls1 [])) : W p l e room_1 s m #[Value.ref b] below meth c H locs N9 M9 (lw_Z below #[Value.ref b] s) (F0 m 924 ls []) := by
  obtain ⟨hx, hb, hr, hml, hown, hts, hX, hbl, hlocks, hK, hA, hA2⟩ := C
  have hbA : ¬ A b := fun q => absurd (hA2 b q) (Nat.not_le.mpr hbl)
  obtain ⟨L, S, f, x0, x1, x2, x3, x4, x5, x6, x7, x8, x9, x10, x11, x12, x13, x14, x15, x16, x17, x18, x19, x20, f0, f1, f2, f3, f4, f5, f6, f7, f8, f9, f10, f11, f12, f13, f14, f15, f16, f17, f18, f19, f20, f21, f22, f23, f24, J, hP, hD, hap, hLK, hSX, h0, h1, h2, h18, hsc, hRX, hRZ, hSe, hFm, hMK, hwt⟩ := J
  have J0 := J
  obtain ⟨hG, hI, hTK, hP1, hD1⟩ := J0
  refine lv_aload_n hx hb dL_law_924 rfl (lv_at hl 1 rfl) ?_
  refine lv_aload_n hx hb dL_law_925 rfl (lv_at hl 0 rfl) ?_
  refine lv_iload_n hx hb dL_law_926 rfl (lv_at hl 3 rfl) ?_
  refine lv_iconst (v := 1) hx hb dL_law_927 (by decide) ?_
  refine lv_eqi (y := nI 1) rfl ?_
  refine lv_iadd hx hb dL_law_928 ?_
  refine lv_eqi (y := nI (k + 1)) (nI_add _ _) ?_
  refine va_sld hx hb hX hbl hbA hS (vp_in_nI (n := k + 1) (by omega) (by omega)) dL_law_929 ?_
  refine lv_eqi (y := xs (k + 1)) (congrArg xs (nI_clamp (by omega))) ?_
  refine law_ro (va_runV (As := [.int (xs (k + 1))]) (rest := []) ⟨hx, hb, hml, hown, hts⟩ (t_X10_about l D cI cR cM _ hj hG hI) (cwV 1 hts gL_law_X10_about rfl rfl rfl (by decide +kernel) ⟨Nat.le_of_ble_eq_true rfl, Nat.le_of_ble_eq_true rfl⟩) (pre_T hK hP1 hD1 (gm_10 hG) (hall_at hG hI) rfl) rfl rfl hl.1 rfl (lv_room (Nat.le_of_ble_eq_true rfl)) dL_law_930 ⟨by omega, by omega⟩) J hP hS hA (fun r1 H locs _ J hP hS => ?_)
  refine lv_pop hx hb dL_law_933 rfl ?_
  refine lv_aload_n hx hb dL_law_934 rfl (lv_at hl 2 rfl) ?_
  refine lv_aload_n hx hb dL_law_935 rfl (lv_at hl 0 rfl) ?_
  refine lv_iload_n hx hb dL_law_936 rfl (lv_at hl 3 rfl) ?_
  refine lv_iconst (v := 1) hx hb dL_law_937 (by decide) ?_
  refine lv_eqi (y := nI 1) rfl ?_
  refine lv_iadd hx hb dL_law_938 ?_
  refine lv_eqi (y := nI (k + 1)) (nI_add _ _) ?_
  refine va_sld hx hb hX hbl hbA hS (vp_in_nI (n := k + 1) (by omega) (by omega)) dL_law_939 ?_
  refine lv_eqi (y := xs (k + 1)) (congrArg xs (nI_clamp (by omega))) ?_
  refine law_ro (va_runV (As := [.int (xs (k + 1))]) (rest := []) ⟨hx, hb, hml, hown, hts⟩ (k_about l D cI cR cM _ (by first | assumption | omega) (by first | assumption | omega) (by first | assumption | omega) (by first | assumption | omega)) (cwV 1 hts gL_law_X11_about rfl rfl rfl (by decide +kernel) ⟨Nat.le_of_ble_eq_true rfl, Nat.le_of_ble_eq_true rfl⟩) (pre_V hK hP hD 0 11 rfl rfl) rfl rfl hl.1 rfl (lv_room (Nat.le_of_ble_eq_true rfl)) dL_law_940 ⟨by omega, by omega⟩) J hP hS hA (fun r2 H locs hw J hP hS => ?_)
  refine lv_pop hx hb dL_law_943 rfl ?_
  refine lv_goto (tgt := 947) hx hb dL_law_944 (by decide) ?_
  refine W.widen (k := N9 + 18) (n := M9 + 1193) (by omega) (by omega) ?_
  exact hend _ _ _ ⟨L, S, f, x0, x1, x2, x3, x4, x5, x6, x7, x8, x9, x10, x11, x12, x13, x14, x15, x16, x17, x18, x19, x20, f0, f1, f2, f3, f4, f5, f6, f7, f8, f9, f10, f11, f12, f13, f14, f15, f16, f17, f18, f19, f20, f21, f22, f23, f24, J, hP, hD, hap, hLK, hSX, ⟨(by first | assumption | omega), (by first | assumption | omega), (by first | assumption | omega), (by first | assumption | omega), (by first | assumption | omega), (by first | assumption | omega), (by first | assumption | omega), (by first | assumption | omega), (by first | assumption | omega), (by first | assumption | omega), (by first | assumption | omega)⟩⟩ hS hl
