theorem dL_law_713 : decode cL_law 713 = .ok (.aload_n 1, 1) := by decide +kernel
theorem dL_law_714 : decode cL_law 714 = .ok (.invokevirtual 88, 3) := by decide +kernel
theorem dL_law_717 : decode cL_law 717 = .ok (.pop, 1) := by decide +kernel
theorem dL_law_718 : decode cL_law 718 = .ok (.aload_n 2, 1) := by decide +kernel
theorem dL_law_719 : decode cL_law 719 = .ok (.invokevirtual 91, 3) := by decide +kernel
theorem dL_law_722 : decode cL_law 722 = .ok (.pop, 1) := by decide +kernel
theorem dL_law_723 : decode cL_law 723 = .ok (.goto 224, 3) := by decide +kernel
theorem dL_law_726 : decode cL_law 726 = .ok (.aload_n 1, 1) := by decide +kernel
theorem dL_law_727 : decode cL_law 727 = .ok (.aload_n 0, 1) := by decide +kernel
theorem dL_law_728 : decode cL_law 728 = .ok (.iload_n 3, 1) := by decide +kernel
theorem dL_law_729 : decode cL_law 729 = .ok (.iconst 1, 1) := by decide +kernel
theorem dL_law_730 : decode cL_law 730 = .ok (.iadd, 1) := by decide +kernel
theorem dL_law_731 : decode cL_law 731 = .ok (.iaload, 1) := by decide +kernel
theorem dL_law_732 : decode cL_law 732 = .ok (.aload_n 0, 1) := by decide +kernel
theorem dL_law_733 : decode cL_law 733 = .ok (.iload_n 3, 1) := by decide +kernel
theorem dL_law_734 : decode cL_law 734 = .ok (.iconst 2, 1) := by decide +kernel
theorem dL_law_735 : decode cL_law 735 = .ok (.iadd, 1) := by decide +kernel
theorem dL_law_736 : decode cL_law 736 = .ok (.iaload, 1) := by decide +kernel
theorem dL_law_737 : decode cL_law 737 = .ok (.invokevirtual 92, 3) := by decide +kernel
theorem dL_law_740 : decode cL_law 740 = .ok (.pop, 1) := by decide +kernel
theorem dL_law_741 : decode cL_law 741 = .ok (.aload_n 2, 1) := by decide +kernel
theorem dL_law_742 : decode cL_law 742 = .ok (.aload_n 0, 1) := by decide +kernel
theorem dL_law_743 : decode cL_law 743 = .ok (.iload_n 3, 1) := by decide +kernel
theorem dL_law_744 : decode cL_law 744 = .ok (.iconst 1, 1) := by decide +kernel
theorem dL_law_745 : decode cL_law 745 = .ok (.iadd, 1) := by decide +kernel
theorem dL_law_746 : decode cL_law 746 = .ok (.iaload, 1) := by decide +kernel
theorem dL_law_747 : decode cL_law 747 = .ok (.aload_n 0, 1) := by decide +kernel
theorem dL_law_748 : decode cL_law 748 = .ok (.iload_n 3, 1) := by decide +kernel
theorem dL_law_749 : decode cL_law 749 = .ok (.iconst 2, 1) := by decide +kernel
theorem dL_law_750 : decode cL_law 750 = .ok (.iadd, 1) := by decide +kernel
theorem dL_law_751 : decode cL_law 751 = .ok (.iaload, 1) := by decide +kernel
theorem dL_law_752 : decode cL_law 752 = .ok (.invokevirtual 95, 3) := by decide +kernel
theorem dL_law_755 : decode cL_law 755 = .ok (.pop, 1) := by decide +kernel
theorem dL_law_756 : decode cL_law 756 = .ok (.goto 191, 3) := by decide +kernel
theorem dL_law_759 : decode cL_law 759 = .ok (.aload_n 1, 1) := by decide +kernel
theorem dL_law_760 : decode cL_law 760 = .ok (.aload_n 0, 1) := by decide +kernel
theorem dL_law_761 : decode cL_law 761 = .ok (.iload_n 3, 1) := by decide +kernel
theorem dL_law_762 : decode cL_law 762 = .ok (.iconst 1, 1) := by decide +kernel
theorem dL_law_763 : decode cL_law 763 = .ok (.iadd, 1) := by decide +kernel
theorem dL_law_764 : decode cL_law 764 = .ok (.iaload, 1) := by decide +kernel
theorem dL_law_765 : decode cL_law 765 = .ok (.aload_n 0, 1) := by decide +kernel
theorem dL_law_766 : decode cL_law 766 = .ok (.iload_n 3, 1) := by decide +kernel
theorem dL_law_767 : decode cL_law 767 = .ok (.iconst 2, 1) := by decide +kernel
theorem dL_law_768 : decode cL_law 768 = .ok (.iadd, 1) := by decide +kernel
theorem dL_law_769 : decode cL_law 769 = .ok (.iaload, 1) := by decide +kernel
theorem dL_law_770 : decode cL_law 770 = .ok (.invokevirtual 96, 3) := by decide +kernel
theorem dL_law_773 : decode cL_law 773 = .ok (.aload_n 2, 1) := by decide +kernel
theorem dL_law_774 : decode cL_law 774 = .ok (.aload_n 0, 1) := by decide +kernel
theorem dL_law_775 : decode cL_law 775 = .ok (.iload_n 3, 1) := by decide +kernel
theorem dL_law_776 : decode cL_law 776 = .ok (.iconst 1, 1) := by decide +kernel
theorem dL_law_777 : decode cL_law 777 = .ok (.iadd, 1) := by decide +kernel
theorem dL_law_778 : decode cL_law 778 = .ok (.iaload, 1) := by decide +kernel
theorem dL_law_779 : decode cL_law 779 = .ok (.aload_n 0, 1) := by decide +kernel
theorem dL_law_780 : decode cL_law 780 = .ok (.iload_n 3, 1) := by decide +kernel
theorem dL_law_781 : decode cL_law 781 = .ok (.iconst 2, 1) := by decide +kernel
theorem dL_law_782 : decode cL_law 782 = .ok (.iadd, 1) := by decide +kernel
theorem dL_law_783 : decode cL_law 783 = .ok (.iaload, 1) := by decide +kernel
theorem dL_law_784 : decode cL_law 784 = .ok (.invokevirtual 99, 3) := by decide +kernel
theorem dL_law_787 : decode cL_law 787 = .ok (.if_icmp .eq 160, 3) := by decide +kernel
theorem dL_law_792 : decode cL_law 792 = .ok (.aload_n 1, 1) := by decide +kernel
theorem dL_law_793 : decode cL_law 793 = .ok (.aload_n 0, 1) := by decide +kernel
theorem dL_law_794 : decode cL_law 794 = .ok (.iload_n 3, 1) := by decide +kernel
theorem dL_law_795 : decode cL_law 795 = .ok (.iconst 1, 1) := by decide +kernel
theorem dL_law_796 : decode cL_law 796 = .ok (.iadd, 1) := by decide +kernel
theorem dL_law_797 : decode cL_law 797 = .ok (.iaload, 1) := by decide +kernel
theorem dL_law_798 : decode cL_law 798 = .ok (.invokevirtual 100, 3) := by decide +kernel
theorem dL_law_801 : decode cL_law 801 = .ok (.pop, 1) := by decide +kernel
theorem dL_law_802 : decode cL_law 802 = .ok (.aload_n 2, 1) := by decide +kernel
theorem dL_law_803 : decode cL_law 803 = .ok (.aload_n 0, 1) := by decide +kernel
theorem dL_law_804 : decode cL_law 804 = .ok (.iload_n 3, 1) := by decide +kernel
theorem dL_law_805 : decode cL_law 805 = .ok (.iconst 1, 1) := by decide +kernel
theorem dL_law_806 : decode cL_law 806 = .ok (.iadd, 1) := by decide +kernel
theorem dL_law_807 : decode cL_law 807 = .ok (.iaload, 1) := by decide +kernel
theorem dL_law_808 : decode cL_law 808 = .ok (.invokevirtual 103, 3) := by decide +kernel
theorem dL_law_811 : decode cL_law 811 = .ok (.pop, 1) := by decide +kernel
theorem dL_law_812 : decode cL_law 812 = .ok (.goto 135, 3) := by decide +kernel
theorem dL_law_815 : decode cL_law 815 = .ok (.aload_n 1, 1) := by decide +kernel
theorem dL_law_816 : decode cL_law 816 = .ok (.aload_n 0, 1) := by decide +kernel
theorem dL_law_817 : decode cL_law 817 = .ok (.iload_n 3, 1) := by decide +kernel
theorem dL_law_818 : decode cL_law 818 = .ok (.iconst 1, 1) := by decide +kernel
theorem dL_law_819 : decode cL_law 819 = .ok (.iadd, 1) := by decide +kernel
theorem dL_law_820 : decode cL_law 820 = .ok (.iaload, 1) := by decide +kernel
theorem dL_law_821 : decode cL_law 821 = .ok (.aload_n 0, 1) := by decide +kernel
theorem dL_law_822 : decode cL_law 822 = .ok (.iload_n 3, 1) := by decide +kernel
theorem dL_law_823 : decode cL_law 823 = .ok (.iconst 2, 1) := by decide +kernel
theorem dL_law_824 : decode cL_law 824 = .ok (.iadd, 1) := by decide +kernel
theorem dL_law_825 : decode cL_law 825 = .ok (.iaload, 1) := by decide +kernel
theorem dL_law_826 : decode cL_law 826 = .ok (.invokevirtual 104, 3) := by decide +kernel
theorem dL_law_829 : decode cL_law 829 = .ok (.pop, 1) := by decide +kernel
theorem dL_law_830 : decode cL_law 830 = .ok (.aload_n 2, 1) := by decide +kernel
theorem dL_law_831 : decode cL_law 831 = .ok (.aload_n 0, 1) := by decide +kernel
theorem dL_law_832 : decode cL_law 832 = .ok (.iload_n 3, 1) := by decide +kernel
theorem dL_law_833 : decode cL_law 833 = .ok (.iconst 1, 1) := by decide +kernel
theorem dL_law_834 : decode cL_law 834 = .ok (.iadd, 1) := by decide +kernel
theorem dL_law_835 : decode cL_law 835 = .ok (.iaload, 1) := by decide +kernel
theorem dL_law_836 : decode cL_law 836 = .ok (.aload_n 0, 1) := by decide +kernel
theorem dL_law_837 : decode cL_law 837 = .ok (.iload_n 3, 1) := by decide +kernel
theorem dL_law_838 : decode cL_law 838 = .ok (.iconst 2, 1) := by decide +kernel
theorem dL_law_839 : decode cL_law 839 = .ok (.iadd, 1) := by decide +kernel
theorem dL_law_840 : decode cL_law 840 = .ok (.iaload, 1) := by decide +kernel
theorem dL_law_841 : decode cL_law 841 = .ok (.invokevirtual 107, 3) := by decide +kernel
theorem dL_law_844 : decode cL_law 844 = .ok (.pop, 1) := by decide +kernel
theorem dL_law_845 : decode cL_law 845 = .ok (.goto 102, 3) := by decide +kernel
set_option maxRecDepth 20000 in
theorem ggL_law_X10_clear : GoodIn wsL_law wsX10_clear := goodIn_r _ [951, 50, 1100, 1101, 1102, 1103, 1104, 1105, 1106, 1107, 1194, 1195, 1196, 1197] (by decide +kernel) (by decide +kernel)
set_option maxRecDepth 20000 in
theorem gL_law_X10_clear : GoodIn wsL_law (wsV RL 88 RX10 yX10_clear wsX10_clear) := goodIn_app (goodIn_of _ (by decide +kernel)) ggL_law_X10_clear
set_option maxRecDepth 20000 in
theorem ggL_law_X11_clear : GoodIn wsL_law wsX11_clear := goodIn_r _ [955, 956, 1108, 1109, 1110, 1111, 1112, 1113, 1114, 1115, 1116, 1117, 1118, 1119, 1120, 1121, 1122, 1123, 1124, 1125, 1126, 1127, 1128, 1129, 1130, 1131, 1132, 1133, 1134, 1135, 1136, 1137, 1138, 1139, 1140, 1141, 1142, 1143, 1144, 1145, 1146, 1147, 1148, 1149, 1150, 1151, 1152, 1153, 1154] (by decide +kernel) (by decide +kernel)
set_option maxRecDepth 20000 in
theorem gL_law_X11_clear : GoodIn wsL_law (wsV RL 91 RX11 yX11_clear wsX11_clear) := goodIn_app (goodIn_of _ (by decide +kernel)) ggL_law_X11_clear
set_option maxRecDepth 100000 in
set_option maxHeartbeats 4000000 in
theorem ggL_law_X10_add : GoodIn wsL_law wsX10_add := goodIn_r _ [960, 31, 50, 46, 672, 673, 674, 30, 675, 509, 400, 401, 402, 403, 64, 859, 860, 861, 2, 862, 42, 740, 480, 481, 93, 482, 105, 386, 107, 106, 718, 719, 720, 41, 721, 111, 722, 17, 18, 19, 723, 418, 419, 420, 724, 443, 444, 445, 725, 694, 695, 696, 726, 727, 728, 729, 450, 451, 452, 453, 446, 447, 448, 449, 454, 455, 456, 457, 458, 459, 460, 461, 462, 463, 464, 465, 863, 864, 45, 865, 866, 867, 689, 690, 691, 868, 885, 886, 887, 888, 120, 889, 890, 891, 892, 893, 894, 895, 896, 897, 898, 899, 122, 121, 900, 901, 902, 903, 904, 905, 906, 907, 123, 961, 962, 963, 49, 964, 965, 966, 967, 968, 969, 127, 128, 970, 971, 972, 973, 974, 975, 976, 1100, 1101, 1102, 1103, 1104, 1105, 1106, 1107, 1194, 1195, 1196, 1197, 1202, 1203, 1204, 1205, 1190, 1191, 1192, 1193, 1157, 1158, 1159, 1160, 1182, 1183, 1184, 1185, 1186, 1187, 1188, 1189] (by with_unfolding_all rfl) (by decide +kernel)
set_option maxRecDepth 20000 in
theorem gL_law_X10_add : GoodIn wsL_law (wsV RL 92 RX10 yX10_add wsX10_add) := goodIn_app (goodIn_of _ (by decide +kernel)) ggL_law_X10_add
set_option maxRecDepth 100000 in
set_option maxHeartbeats 4000000 in
theorem ggL_law_X11_add : GoodIn wsL_law wsX11_add := goodIn_r _ [980, 746, 139, 956, 981, 158, 982, 680, 681, 682, 5, 683, 539, 197, 198, 199, 627, 628, 629, 630, 631, 632, 633, 873, 874, 875, 876, 788, 789, 790, 791, 745, 747, 748, 749, 750, 153, 706, 707, 708, 709, 710, 711, 712, 713, 751, 752, 753, 754, 166, 877, 878, 879, 880, 605, 606, 607, 912, 913, 914, 915, 159, 916, 917, 918, 919, 920, 921, 922, 983, 984, 985, 986, 162, 163, 1108, 1109, 1110, 1111, 1112, 1113, 1114, 1115, 1116, 1117, 1118, 1119, 1120, 1121, 1122, 1123, 1124, 1125, 1126, 1127, 1128, 1129, 1130, 1131, 1132, 1133, 1134, 1135, 1136, 1137, 1138, 1139, 1140, 1141, 1142, 1143, 1144, 1145, 1146, 1147, 1148, 1149, 1150, 1151, 1152, 1153, 1154] (by with_unfolding_all rfl) (by decide +kernel)
set_option maxRecDepth 20000 in
theorem gL_law_X11_add : GoodIn wsL_law (wsV RL 95 RX11 yX11_add wsX11_add) := goodIn_app (goodIn_of _ (by decide +kernel)) ggL_law_X11_add
set_option maxRecDepth 20000 in
theorem ggL_law_X10_score : GoodIn wsL_law wsX10_score := goodIn_r _ [990, 50, 1100, 1101, 1102, 1103, 1104, 1105, 1106, 1107, 1194, 1195, 1196, 1197] (by decide +kernel) (by decide +kernel)
set_option maxRecDepth 20000 in
theorem gL_law_X10_score : GoodIn wsL_law (wsV RL 96 RX10 yX10_score wsX10_score) := goodIn_app (goodIn_of _ (by decide +kernel)) ggL_law_X10_score
set_option maxRecDepth 20000 in
theorem ggL_law_X11_score : GoodIn wsL_law wsX11_score := goodIn_r _ [994, 956, 162, 163, 197, 198, 5, 199, 1108, 1109, 1110, 1111, 1112, 1113, 1114, 1115, 1116, 1117, 1118, 1119, 1120, 1121, 1122, 1123, 1124, 1125, 1126, 1127, 1128, 1129, 1130, 1131, 1132, 1133, 1134, 1135, 1136, 1137, 1138, 1139, 1140, 1141, 1142, 1143, 1144, 1145, 1146, 1147, 1148, 1149, 1150, 1151, 1152, 1153, 1154] (by decide +kernel) (by decide +kernel)
set_option maxRecDepth 20000 in
theorem gL_law_X11_score : GoodIn wsL_law (wsV RL 99 RX11 yX11_score wsX11_score) := goodIn_app (goodIn_of _ (by decide +kernel)) ggL_law_X11_score
set_option maxRecDepth 20000 in
theorem ggL_law_X10_seen : GoodIn wsL_law wsX10_seen := goodIn_r _ [998, 31, 999, 1000, 1001, 30, 1002, 66, 509, 1100, 1101, 1102, 1103, 1104, 1105, 1106, 1107, 1200, 1201, 1157, 1158, 1159, 1160] (by decide +kernel) (by decide +kernel)
set_option maxRecDepth 20000 in
theorem gL_law_X10_seen : GoodIn wsL_law (wsV RL 100 RX10 yX10_seen wsX10_seen) := goodIn_app (goodIn_of _ (by decide +kernel)) ggL_law_X10_seen
set_option maxRecDepth 20000 in
theorem ggL_law_X11_seen : GoodIn wsL_law wsX11_seen := goodIn_r _ [1006, 140, 1007, 1008, 1009, 5, 1010, 539, 197, 198, 199, 1108, 1109, 1110, 1111, 1112, 1113, 1114, 1115, 1116, 1117, 1118, 1119, 1120, 1121, 1122, 1123, 1124, 1125, 1126, 1127, 1128, 1129, 1130, 1131, 1132, 1133, 1134, 1135, 1136, 1137, 1138, 1139, 1140, 1141, 1142, 1143, 1144, 1145, 1146, 1147, 1148, 1149, 1150, 1151, 1152, 1153, 1154] (by decide +kernel) (by decide +kernel)
set_option maxRecDepth 20000 in
theorem gL_law_X11_seen : GoodIn wsL_law (wsV RL 103 RX11 yX11_seen wsX11_seen) := goodIn_app (goodIn_of _ (by decide +kernel)) ggL_law_X11_seen
set_option maxRecDepth 100000 in
set_option maxHeartbeats 4000000 in
theorem ggL_law_X10_whole : GoodIn wsL_law wsX10_whole := goodIn_r _ [1014, 31, 54, 999, 1000, 1001, 30, 1002, 66, 509, 1015, 1016, 1017, 53, 1018, 132, 1019, 1020, 419, 1021, 1022, 1023, 1024, 1025, 1026, 1027, 1028, 1029, 17, 18, 19, 1030, 890, 891, 892, 893, 894, 895, 1031, 1032, 1033, 1034, 1035, 1036, 1037, 133, 1038, 1039, 1040, 1041, 1100, 1101, 1102, 1103, 1104, 1105, 1106, 1107, 1200, 1201, 1198, 1199, 1157, 1158, 1159, 1160] (by with_unfolding_all rfl) (by decide +kernel)
set_option maxRecDepth 20000 in
theorem gL_law_X10_whole : GoodIn wsL_law (wsV RL 104 RX10 yX10_whole wsX10_whole) := goodIn_app (goodIn_of _ (by decide +kernel)) ggL_law_X10_whole
set_option maxRecDepth 100000 in
set_option maxHeartbeats 4000000 in
theorem ggL_law_X11_whole : GoodIn wsL_law wsX11_whole := goodIn_r _ [1045, 140, 165, 1007, 1008, 1009, 5, 1010, 539, 197, 198, 199, 1046, 1047, 1048, 1049, 164, 1108, 1109, 1110, 1111, 1112, 1113, 1114, 1115, 1116, 1117, 1118, 1119, 1120, 1121, 1122, 1123, 1124, 1125, 1126, 1127, 1128, 1129, 1130, 1131, 1132, 1133, 1134, 1135, 1136, 1137, 1138, 1139, 1140, 1141, 1142, 1143, 1144, 1145, 1146, 1147, 1148, 1149, 1150, 1151, 1152, 1153, 1154] (by with_unfolding_all rfl) (by decide +kernel)
set_option maxRecDepth 20000 in
theorem gL_law_X11_whole : GoodIn wsL_law (wsV RL 107 RX11 yX11_whole wsX11_whole) := goodIn_app (goodIn_of _ (by decide +kernel)) ggL_law_X11_whole
set_option maxRecDepth 100000 in
set_option maxHeartbeats 4000000 in
theorem law_c15 {p : Program} {l : Launch} {e : Env} {s : State} {m : MethodId} {below : List Frame} {meth : Method} {c : Code} {b n9 : Nat} {xs : Nat → Int32} {A : Nat → Prop} {D : va_G} {cI cR cM : ClassId} {jn mm k N9 M9 : Nat} {g q : Nat → Nat} {H : Heap} {locs : List Loc} {ls : Array Slot} {adK adV : Nat → Nat} (C : LC p s m meth c b n9 xs A D cI cR cM) (hST : ST adK adV s.heap.size s) (hj : 1 ≤ jn ∧ jn ≤ 3) (hk : k + 5 < n9) (hn9 : n9 ≤ 3073) (hN9 : N9 + 18 ≤ room_1.cells) (hM9 : M9 + 1193 ≤ room_1.slots) (J : JS jn cI cR cM D g A mm q H) (hS : va_S A s.heap H locs) (hl : lv_has ls 4 [(0, .ref b), (1, .ref (g 10)), (2, .ref mm), (3, .int (nI k))]) (hend : ∀ (H1 : Heap) (locs1 : List Loc) (ls1 : Array Slot), JS jn cI cR cM D g A mm q H1 → va_S A s.heap H1 locs1 → lv_has ls1 4 [(0, .ref b), (1, .ref (g 10)), (2, .ref mm), (3, .int (nI k))] → W p l e room_1 s m #[Value.ref b] below meth c H1 locs1 (N9 + 18) (M9 + 1193) (lw_Z below #[Value.ref b] s) (F0 m 947 ls1 [])) : W p l e room_1 s m #[Value.ref b] below meth c H locs N9 M9 (lw_Z below #[Value.ref b] s) (F0 m 713 ls []) := by
  obtain ⟨hx, hb, hr, hml, hown, hts, hX, hbl, hlocks, hK, hA, hA2⟩ := C
  have hbA : ¬ A b := fun q => absurd (hA2 b q) (Nat.not_le.mpr hbl)
  obtain ⟨L, S, f, x0, x1, x2, x3, x4, x5, x6, x7, x8, x9, x10, x11, x12, x13, x14, x15, x16, x17, x18, x19, x20, f0, f1, f2, f3, f4, f5, f6, f7, f8, f9, f10, f11, f12, f13, f14, f15, f16, f17, f18, f19, f20, f21, f22, f23, f24, J, hP, hD, hap, hLK, hSX, h0, h1, h2, h18, hsc, hRX, hRZ, hSe, hFm, hMK, hwt⟩ := J
  have J0 := J
  obtain ⟨hG, hI, hTK, hP1, hD1⟩ := J0
  refine lv_aload_n hx hb dL_law_713 rfl (lv_at hl 1 rfl) ?_
  obtain ⟨st9, ch9, cl9, hsh, hst0, hce⟩ := hSX
  refine law_w (T := [17]) (va_runV (As := []) (rest := []) ⟨hx, hb, hml, hown, hts⟩ (t_X10_clearm l D cI cR cM _ hj hG hI hsh) (cwV 0 hts gL_law_X10_clear rfl rfl rfl (by decide +kernel) ⟨Nat.le_of_ble_eq_true rfl, Nat.le_of_ble_eq_true rfl⟩) (pre_T hK hP1 hD1 (gm_10 hG) (hall_at hG hI) rfl) rfl rfl hl.1 rfl (lv_room (Nat.le_of_ble_eq_true rfl)) dL_law_714 ⟨by omega, by omega⟩) (fun _ hu => ⟨hu.1, hu.2.1⟩) (by decide) (by decide) (by decide) J hP hap hS hA (fun r1 fc1 H locs hu1 J hP hS => ?_)
  refine lv_pop hx hb dL_law_717 rfl ?_
  refine lv_aload_n hx hb dL_law_718 rfl (lv_at hl 2 rfl) ?_
  refine law_ms (wr := []) (va_runV (As := []) (rest := []) ⟨hx, hb, hml, hown, hts⟩ (k_clear3 l D cI cR cM _  ) (cwV 0 hts gL_law_X11_clear rfl rfl rfl (by decide +kernel) ⟨Nat.le_of_ble_eq_true rfl, Nat.le_of_ble_eq_true rfl⟩) (pre_V hK hP hD 0 11 rfl rfl) rfl rfl hl.1 rfl (lv_room (Nat.le_of_ble_eq_true rfl)) dL_law_719 ⟨by omega, by omega⟩) J hP hD hap hS hA [0, 1, 2, 3, 4, 5, 6, 7, 8, 9, 10, 11, 12, 13, 14, 15, 16, 17, 18, 19, 20, 21, 22, 23, 24, 25] [] (by with_unfolding_all rfl) rfl (by decide) (by decide) (fun u2 H locs hw J hP hD hap hS => ?_)
  obtain ⟨r2, y18_2⟩ := u2
  have hP : va_P D vwCl (mX mm q jn cI x0 x1 x2 x3 x4 x5 x6 x7 x8 x9 x10 x11 x12 x13 x14 x15 x16 x17 y18_2 x19 x20 f0 f1 f2 f3 f4 f5 f6 f7 f8 f9 f10 f11 f12 f13 f14 f15 f16 f17 f18 f19 f20 f21 f22 f23 f24) H := hP
  have hD : va_D A (mX mm q jn cI x0 x1 x2 x3 x4 x5 x6 x7 x8 x9 x10 x11 x12 x13 x14 x15 x16 x17 y18_2 x19 x20 f0 f1 f2 f3 f4 f5 f6 f7 f8 f9 f10 f11 f12 f13 f14 f15 f16 f17 f18 f19 f20 f21 f22 f23 f24) := hD
  have hap : AP L (mX mm q jn cI x0 x1 x2 x3 x4 x5 x6 x7 x8 x9 x10 x11 x12 x13 x14 x15 x16 x17 y18_2 x19 x20 f0 f1 f2 f3 f4 f5 f6 f7 f8 f9 f10 f11 f12 f13 f14 f15 f16 f17 f18 f19 f20 f21 f22 f23 f24) := hap
  obtain ⟨h_2, hr_2⟩ : (y18_2 = 0) ∧ (r2 = x18) := hw
  have h18 : 0 ≤ y18_2.toInt ∧ y18_2.toInt ≤ 300 := by rw [h_2]; decide
  have h18z : y18_2.toInt = 0 := by rw [h_2]; decide
  have hLK := LKx_fr hLK hG (show FR S [17] f fc1 from hu1.2.1) (by decide)
  have hSX : SCx cI g fc1 y18_2 x20 f21 f22 := ⟨st9, ch9, cl9, by rw [h_2]; exact hu1.2.2.2, fun q9 => absurd q9 (by omega), fun i9 h8 h9 => absurd h9 (by omega)⟩
  refine lv_pop hx hb dL_law_722 rfl ?_
  refine lv_goto (tgt := 947) hx hb dL_law_723 (by decide) ?_
  refine W.widen (k := N9 + 18) (n := M9 + 1193) (by omega) (by omega) ?_
  exact hend _ _ _ ⟨L, S, fc1, x0, x1, x2, x3, x4, x5, x6, x7, x8, x9, x10, x11, x12, x13, x14, x15, x16, x17, y18_2, x19, x20, f0, f1, f2, f3, f4, f5, f6, f7, f8, f9, f10, f11, f12, f13, f14, f15, f16, f17, f18, f19, f20, f21, f22, f23, f24, J, hP, hD, hap, hLK, hSX, ⟨(by first | assumption | omega), (by first | assumption | omega), (by first | assumption | omega), (by first | assumption | omega), (by first | assumption | omega), (by first | assumption | omega), (by first | assumption | omega), (by first | assumption | omega), (by first | assumption | omega), (by first | assumption | omega), (by first | assumption | omega)⟩⟩ hS hl
set_option maxRecDepth 100000 in
set_option maxHeartbeats 4000000 in
theorem law_c16 {p : Program} {l : Launch} {e : Env} {s : State} {m : MethodId} {below : List Frame} {meth : Method} {c : Code} {b n9 : Nat} {xs : Nat → Int32} {A : Nat → Prop} {D : va_G} {cI cR cM : ClassId} {jn mm k N9 M9 : Nat} {g q : Nat → Nat} {H : Heap} {locs : List Loc} {ls : Array Slot} {adK adV : Nat → Nat} (C : LC p s m meth c b n9 xs A D cI cR cM) (hST : ST adK adV s.heap.size s) (hj : 1 ≤ jn ∧ jn ≤ 3) (hk : k + 5 < n9) (hn9 : n9 ≤ 3073) (hN9 : N9 + 18 ≤ room_1.cells) (hM9 : M9 + 1193 ≤ room_1.slots) (J : JS jn cI cR cM D g A mm q H) (hS : va_S A s.heap H locs) (hl : lv_has ls 4 [(0, .ref b), (1, .ref (g 10)), (2, .ref mm), (3, .int (nI k))]) (hend : ∀ (H1 : Heap) (locs1 : List Loc) (ls1 : Array Slot), JS jn cI cR cM D g A mm q H1 → va_S A s.heap H1 locs1 → lv_has ls1 4 [(0, .ref b), (1, .ref (g 10)), (2, .ref mm), (3, .int (nI k))] → W p l e room_1 s m #[Value.ref b] below meth c H1 locs1 (N9 + 18) (M9 + 1193) (lw_Z below #[Value.ref b] s) (F0 m 947 ls1 [])) : W p l e room_1 s m #[Value.ref b] below meth c H locs N9 M9 (lw_Z below #[Value.ref b] s) (F0 m 726 ls []) := by
  obtain ⟨hx, hb, hr, hml, hown, hts, hX, hbl, hlocks, hK, hA, hA2⟩ := C
  have hbA : ¬ A b := fun q => absurd (hA2 b q) (Nat.not_le.mpr hbl)
  obtain ⟨L, S, f, x0, x1, x2, x3, x4, x5, x6, x7, x8, x9, x10, x11, x12, x13, x14, x15, x16, x17, x18, x19, x20, f0, f1, f2, f3, f4, f5, f6, f7, f8, f9, f10, f11, f12, f13, f14, f15, f16, f17, f18, f19, f20, f21, f22, f23, f24, J, hP, hD, hap, hLK, hSX, h0, h1, h2, h18, hsc, hRX, hRZ, hSe, hFm, hMK, hwt⟩ := J
  have J0 := J
  obtain ⟨hG, hI, hTK, hP1, hD1⟩ := J0
  refine lv_aload_n hx hb dL_law_726 rfl (lv_at hl 1 rfl) ?_
  refine lv_aload_n hx hb dL_law_727 rfl (lv_at hl 0 rfl) ?_
  refine lv_iload_n hx hb dL_law_728 rfl (lv_at hl 3 rfl) ?_
  refine lv_iconst (v := 1) hx hb dL_law_729 (by decide) ?_
  refine lv_eqi (y := nI 1) rfl ?_
  refine lv_iadd hx hb dL_law_730 ?_
  refine lv_eqi (y := nI (k + 1)) (nI_add _ _) ?_
  refine va_sld hx hb hX hbl hbA hS (vp_in_nI (n := k + 1) (by omega) (by omega)) dL_law_731 ?_
  refine lv_eqi (y := xs (k + 1)) (congrArg xs (nI_clamp (by omega))) ?_
  refine lv_aload_n hx hb dL_law_732 rfl (lv_at hl 0 rfl) ?_
  refine lv_iload_n hx hb dL_law_733 rfl (lv_at hl 3 rfl) ?_
  refine lv_iconst (v := 2) hx hb dL_law_734 (by decide) ?_
  refine lv_eqi (y := nI 2) rfl ?_
  refine lv_iadd hx hb dL_law_735 ?_
  refine lv_eqi (y := nI (k + 2)) (nI_add _ _) ?_
  refine va_sld hx hb hX hbl hbA hS (vp_in_nI (n := k + 2) (by omega) (by omega)) dL_law_736 ?_
  refine lv_eqi (y := xs (k + 2)) (congrArg xs (nI_clamp (by omega))) ?_
  by_cases hj1 : jn = 1
  · obtain ⟨lv, gr, Ev, cb, hcl, hRf, hEO, hRz, hTp⟩ := hLK hj1
    obtain ⟨st9, ch9, cl9, hsh, hst0, hce⟩ := hSX
    have hst : 0 < x18.toInt → ∃ a : Nat, a < 512 ∧ st9 = nI a := fun q9 => by
      obtain ⟨S9, a1, a2, -⟩ := hsc q9
      exact ⟨S9, a1, (hst0 q9).trans a2⟩
    refine law_w (T := [16, 17, 35, 40, 41, 42, 43, 44, 45]) (va_runV (As := [.int (xs (k + 1)), .int (xs (k + 2))]) (rest := []) ⟨hx, hb, hml, hown, hts⟩ (t_X10_addm l D cI cR cM _ (lv := lv) (gr := gr) (Ev := Ev) (cb := cb) (n9 := x2.toInt) (T9 := x0.toInt) (lk9 := x1.toInt) hj hG hI hj1 hcl hEO hsh hst) (cwV 2 hts gL_law_X10_add rfl rfl rfl (by decide +kernel) ⟨Nat.le_of_ble_eq_true rfl, Nat.le_of_ble_eq_true rfl⟩) (pre_T hK hP1 hD1 (gm_10 hG) (hall_at hG hI) rfl) rfl rfl hl.1 rfl (lv_room (Nat.le_of_ble_eq_true rfl)) dL_law_737 ⟨by omega, by omega⟩) (fun _ hu => ⟨hu.1, hu.2.1⟩) (by decide) (by decide) (by decide) J hP hap hS hA (fun r1 fc1 H locs hu1 J hP hS => ?_)
    refine lv_pop hx hb dL_law_740 rfl ?_
    refine lv_aload_n hx hb dL_law_741 rfl (lv_at hl 2 rfl) ?_
    refine lv_aload_n hx hb dL_law_742 rfl (lv_at hl 0 rfl) ?_
    refine lv_iload_n hx hb dL_law_743 rfl (lv_at hl 3 rfl) ?_
    refine lv_iconst (v := 1) hx hb dL_law_744 (by decide) ?_
    refine lv_eqi (y := nI 1) rfl ?_
    refine lv_iadd hx hb dL_law_745 ?_
    refine lv_eqi (y := nI (k + 1)) (nI_add _ _) ?_
    refine va_sld hx hb hX hbl hbA hS (vp_in_nI (n := k + 1) (by omega) (by omega)) dL_law_746 ?_
    refine lv_eqi (y := xs (k + 1)) (congrArg xs (nI_clamp (by omega))) ?_
    refine lv_aload_n hx hb dL_law_747 rfl (lv_at hl 0 rfl) ?_
    refine lv_iload_n hx hb dL_law_748 rfl (lv_at hl 3 rfl) ?_
    refine lv_iconst (v := 2) hx hb dL_law_749 (by decide) ?_
    refine lv_eqi (y := nI 2) rfl ?_
    refine lv_iadd hx hb dL_law_750 ?_
    refine lv_eqi (y := nI (k + 2)) (nI_add _ _) ?_
    refine va_sld hx hb hX hbl hbA hS (vp_in_nI (n := k + 2) (by omega) (by omega)) dL_law_751 ?_
    refine lv_eqi (y := xs (k + 2)) (congrArg xs (nI_clamp (by omega))) ?_
    refine law_ms (wr := []) (va_runV (As := [.int (xs (k + 1)), .int (xs (k + 2))]) (rest := []) ⟨hx, hb, hml, hown, hts⟩ (k_add3 l D cI cR cM _ (Ev := Ev) (by first | assumption | omega) (by first | assumption | omega) (by first | assumption | omega) (by first | assumption | omega) (by first | assumption | omega) (by first | assumption | omega) (by first | assumption | omega) (by first | assumption | omega) (by first | assumption | omega) (by first | assumption | omega) (by first | assumption | omega) (by first | assumption | omega)) (cwV 2 hts gL_law_X11_add rfl rfl rfl (by decide +kernel) ⟨Nat.le_of_ble_eq_true rfl, Nat.le_of_ble_eq_true rfl⟩) (pre_V hK hP hD 0 11 rfl rfl) rfl rfl hl.1 rfl (lv_room (Nat.le_of_ble_eq_true rfl)) dL_law_752 ⟨by omega, by omega⟩) J hP hD hap hS hA [0, 1, 2, 3, 4, 5, 6, 7, 8, 9, 10, 11, 12, 13, 14, 15, 16, 17, 18, 19, 20, 21, 22, 23, 24, 25] [] (by with_unfolding_all rfl) rfl (by decide) (by decide) (fun u2 H locs hw J hP hD hap hS => ?_)
    obtain ⟨r2, y15_2, y16_2, y18_2, y19_2, y20_2, g12_2, g17_2, g18_2, g21_2, g22_2⟩ := u2
    have hP : va_P D vwCl (mX mm q jn cI x0 x1 x2 x3 x4 x5 x6 x7 x8 x9 x10 x11 x12 x13 x14 y15_2 y16_2 x17 y18_2 y19_2 y20_2 f0 f1 f2 f3 f4 f5 f6 f7 f8 f9 f10 f11 g12_2 f13 f14 f15 f16 g17_2 g18_2 f19 f20 g21_2 g22_2 f23 f24) H := hP
    have hD : va_D A (mX mm q jn cI x0 x1 x2 x3 x4 x5 x6 x7 x8 x9 x10 x11 x12 x13 x14 y15_2 y16_2 x17 y18_2 y19_2 y20_2 f0 f1 f2 f3 f4 f5 f6 f7 f8 f9 f10 f11 g12_2 f13 f14 f15 f16 g17_2 g18_2 f19 f20 g21_2 g22_2 f23 f24) := hD
    have hap : AP L (mX mm q jn cI x0 x1 x2 x3 x4 x5 x6 x7 x8 x9 x10 x11 x12 x13 x14 y15_2 y16_2 x17 y18_2 y19_2 y20_2 f0 f1 f2 f3 f4 f5 f6 f7 f8 f9 f10 f11 g12_2 f13 f14 f15 f16 g17_2 g18_2 f19 f20 g21_2 g22_2 f23 f24) := hap
    obtain ⟨h18_2, hsc_2, hwt_2, hs_2⟩ : (0 ≤ y18_2.toInt ∧ y18_2.toInt ≤ 300) ∧ (0 < y18_2.toInt → ∃ S : Nat, S < 512 ∧ y20_2 = nI S ∧ (bc S : Int) = y19_2.toInt) ∧ (∀ j9 : Nat, j9 < 512 → g18_2 j9 = 0) ∧ (AddS (Ev x1.toInt (xs (k + 1)).toInt) (xs (k + 1)).toInt (xs (k + 2)).toInt x18.toInt x20 f21 f22 r2.toInt y18_2.toInt y20_2 g21_2 g22_2) := hw
    have hLK := LKx_fr hLK hG (show FR S [16, 17, 35, 40, 41, 42, 43, 44, 45] f fc1 from hu1.2.1) (by decide)
    obtain ⟨ln1, st1, c1, c2, q1, q2⟩ := hu1.2.2.1
    obtain ⟨e1, e2, e3, e4⟩ := AddS_u h18.1 hst0 hce q2 hs_2
    have hSX : SCx cI g fc1 y18_2 y20_2 g21_2 g22_2 := ⟨st1, c1, c2, by rw [← Int32.toInt_inj.mp e2]; exact q1, fun q9 => e3 (by omega), fun i9 h8 h9 => e4 i9 h8 (by omega)⟩
    refine lv_pop hx hb dL_law_755 rfl ?_
    refine lv_goto (tgt := 947) hx hb dL_law_756 (by decide) ?_
    refine W.widen (k := N9 + 18) (n := M9 + 1193) (by omega) (by omega) ?_
    exact hend _ _ _ ⟨L, S, fc1, x0, x1, x2, x3, x4, x5, x6, x7, x8, x9, x10, x11, x12, x13, x14, y15_2, y16_2, x17, y18_2, y19_2, y20_2, f0, f1, f2, f3, f4, f5, f6, f7, f8, f9, f10, f11, g12_2, f13, f14, f15, f16, g17_2, g18_2, f19, f20, g21_2, g22_2, f23, f24, J, hP, hD, hap, hLK, hSX, ⟨(by first | assumption | omega), (by first | assumption | omega), (by first | assumption | omega), (by first | assumption | omega), (by first | assumption | omega), (by first | assumption | omega), (by first | assumption | omega), (by first | assumption | omega), (by first | assumption | omega), (by first | assumption | omega), (by first | assumption | omega)⟩⟩ hS hl
  · refine law_w (T := [35]) (va_runV (As := [.int (xs (k + 1)), .int (xs (k + 2))]) (rest := []) ⟨hx, hb, hml, hown, hts⟩ (t_X10_addN l D cI cR cM _ hj hG hI hj1) (cwV 2 hts gL_law_X10_add rfl rfl rfl (by decide +kernel) ⟨Nat.le_of_ble_eq_true rfl, Nat.le_of_ble_eq_true rfl⟩) (pre_T hK hP1 hD1 (gm_10 hG) (hall_at hG hI) rfl) rfl rfl hl.1 rfl (lv_room (Nat.le_of_ble_eq_true rfl)) dL_law_737 ⟨by omega, by omega⟩) (fun _ hu => ⟨hu.1, hu.2.1⟩) (by decide) (by decide) (by decide) J hP hap hS hA (fun r1 fc1 H locs hu1 J hP hS => ?_)
    refine lv_pop hx hb dL_law_740 rfl ?_
    refine lv_aload_n hx hb dL_law_741 rfl (lv_at hl 2 rfl) ?_
    refine lv_aload_n hx hb dL_law_742 rfl (lv_at hl 0 rfl) ?_
    refine lv_iload_n hx hb dL_law_743 rfl (lv_at hl 3 rfl) ?_
    refine lv_iconst (v := 1) hx hb dL_law_744 (by decide) ?_
    refine lv_eqi (y := nI 1) rfl ?_
    refine lv_iadd hx hb dL_law_745 ?_
    refine lv_eqi (y := nI (k + 1)) (nI_add _ _) ?_
    refine va_sld hx hb hX hbl hbA hS (vp_in_nI (n := k + 1) (by omega) (by omega)) dL_law_746 ?_
    refine lv_eqi (y := xs (k + 1)) (congrArg xs (nI_clamp (by omega))) ?_
    refine lv_aload_n hx hb dL_law_747 rfl (lv_at hl 0 rfl) ?_
    refine lv_iload_n hx hb dL_law_748 rfl (lv_at hl 3 rfl) ?_
    refine lv_iconst (v := 2) hx hb dL_law_749 (by decide) ?_
    refine lv_eqi (y := nI 2) rfl ?_
    refine lv_iadd hx hb dL_law_750 ?_
    refine lv_eqi (y := nI (k + 2)) (nI_add _ _) ?_
    refine va_sld hx hb hX hbl hbA hS (vp_in_nI (n := k + 2) (by omega) (by omega)) dL_law_751 ?_
    refine lv_eqi (y := xs (k + 2)) (congrArg xs (nI_clamp (by omega))) ?_
    refine law_ms (wr := []) (va_runV (As := [.int (xs (k + 1)), .int (xs (k + 2))]) (rest := []) ⟨hx, hb, hml, hown, hts⟩ (k_addN l D cI cR cM _  (by first | assumption | omega) (by first | assumption | omega) (by first | assumption | omega) (by first | assumption | omega) (by first | assumption | omega) (by first | assumption | omega) (by first | assumption | omega)) (cwV 2 hts gL_law_X11_add rfl rfl rfl (by decide +kernel) ⟨Nat.le_of_ble_eq_true rfl, Nat.le_of_ble_eq_true rfl⟩) (pre_V hK hP hD 0 11 rfl rfl) rfl rfl hl.1 rfl (lv_room (Nat.le_of_ble_eq_true rfl)) dL_law_752 ⟨by omega, by omega⟩) J hP hD hap hS hA [0, 1, 2, 3, 4, 5, 6, 7, 8, 9, 10, 11, 12, 13, 14, 15, 16, 17, 18, 19, 20, 21, 22, 23, 24, 25] [] (by with_unfolding_all rfl) rfl (by decide) (by decide) (fun u2 H locs hw J hP hD hap hS => ?_)
    obtain ⟨r2, y15_2, y16_2, g12_2⟩ := u2
    have hP : va_P D vwCl (mX mm q jn cI x0 x1 x2 x3 x4 x5 x6 x7 x8 x9 x10 x11 x12 x13 x14 y15_2 y16_2 x17 x18 x19 x20 f0 f1 f2 f3 f4 f5 f6 f7 f8 f9 f10 f11 g12_2 f13 f14 f15 f16 f17 f18 f19 f20 f21 f22 f23 f24) H := hP
    have hD : va_D A (mX mm q jn cI x0 x1 x2 x3 x4 x5 x6 x7 x8 x9 x10 x11 x12 x13 x14 y15_2 y16_2 x17 x18 x19 x20 f0 f1 f2 f3 f4 f5 f6 f7 f8 f9 f10 f11 g12_2 f13 f14 f15 f16 f17 f18 f19 f20 f21 f22 f23 f24) := hD
    have hap : AP L (mX mm q jn cI x0 x1 x2 x3 x4 x5 x6 x7 x8 x9 x10 x11 x12 x13 x14 y15_2 y16_2 x17 x18 x19 x20 f0 f1 f2 f3 f4 f5 f6 f7 f8 f9 f10 f11 g12_2 f13 f14 f15 f16 f17 f18 f19 f20 f21 f22 f23 f24) := hap
    have hs_2 : (r2.toInt = -1) := hw
    have hLK := LKx_fr hLK hG (show FR S [35] f fc1 from hu1.2.1) (by decide)
    have hSX := SCx_fr hSX hG (show FR S [35] f fc1 from hu1.2.1) (by decide)
    refine lv_pop hx hb dL_law_755 rfl ?_
    refine lv_goto (tgt := 947) hx hb dL_law_756 (by decide) ?_
    refine W.widen (k := N9 + 18) (n := M9 + 1193) (by omega) (by omega) ?_
    exact hend _ _ _ ⟨L, S, fc1, x0, x1, x2, x3, x4, x5, x6, x7, x8, x9, x10, x11, x12, x13, x14, y15_2, y16_2, x17, x18, x19, x20, f0, f1, f2, f3, f4, f5, f6, f7, f8, f9, f10, f11, g12_2, f13, f14, f15, f16, f17, f18, f19, f20, f21, f22, f23, f24, J, hP, hD, hap, hLK, hSX, ⟨(by first | assumption | omega), (by first | assumption | omega), (by first | assumption | omega), (by first | assumption | omega), (by first | assumption | omega), (by first | assumption | omega), (by first | assumption | omega), (by first | assumption | omega), (by first | assumption | omega), (by first | assumption | omega), (by first | assumption | omega)⟩⟩ hS hl
set_option maxRecDepth 100000 in
set_option maxHeartbeats 4000000 in
theorem law_c17 {p : Program} {l : Launch} {e : Env} {s : State} {m : MethodId} {below : List Frame} {meth : Method} {c : Code} {b n9 : Nat} {xs : Nat → Int32} {A : Nat → Prop} {D : va_G} {cI cR cM : ClassId} {jn mm k N9 M9 : Nat} {g q : Nat → Nat} {H : Heap} {locs : List Loc} {ls : Array Slot} {adK adV : Nat → Nat} (C : LC p s m meth c b n9 xs A D cI cR cM) (hST : ST adK adV s.heap.size s) (hj : 1 ≤ jn ∧ jn ≤ 3) (hk : k + 5 < n9) (hn9 : n9 ≤ 3073) (hN9 : N9 + 18 ≤ room_1.cells) (hM9 : M9 + 1193 ≤ room_1.slots) (J : JS jn cI cR cM D g A mm q H) (hS : va_S A s.heap H locs) (hl : lv_has ls 4 [(0, .ref b), (1, .ref (g 10)), (2, .ref mm), (3, .int (nI k))]) (hend : ∀ (H1 : Heap) (locs1 : List Loc) (ls1 : Array Slot), JS jn cI cR cM D g A mm q H1 → va_S A s.heap H1 locs1 → lv_has ls1 4 [(0, .ref b), (1, .ref (g 10)), (2, .ref mm), (3, .int (nI k))] → W p l e room_1 s m #[Value.ref b] below meth c H1 locs1 (N9 + 18) (M9 + 1193) (lw_Z below #[Value.ref b] s) (F0 m 947 ls1 [])) : W p l e room_1 s m #[Value.ref b] below meth c H locs N9 M9 (lw_Z below #[Value.ref b] s) (F0 m 759 ls []) := by
  obtain ⟨hx, hb, hr, hml, hown, hts, hX, hbl, hlocks, hK, hA, hA2⟩ := C
  have hbA : ¬ A b := fun q => absurd (hA2 b q) (Nat.not_le.mpr hbl)
  obtain ⟨L, S, f, x0, x1, x2, x3, x4, x5, x6, x7, x8, x9, x10, x11, x12, x13, x14, x15, x16, x17, x18, x19, x20, f0, f1, f2, f3, f4, f5, f6, f7, f8, f9, f10, f11, f12, f13, f14, f15, f16, f17, f18, f19, f20, f21, f22, f23, f24, J, hP, hD, hap, hLK, hSX, h0, h1, h2, h18, hsc, hRX, hRZ, hSe, hFm, hMK, hwt⟩ := J
  have J0 := J
  obtain ⟨hG, hI, hTK, hP1, hD1⟩ := J0
  refine lv_aload_n hx hb dL_law_759 rfl (lv_at hl 1 rfl) ?_
  refine lv_aload_n hx hb dL_law_760 rfl (lv_at hl 0 rfl) ?_
  refine lv_iload_n hx hb dL_law_761 rfl (lv_at hl 3 rfl) ?_
  refine lv_iconst (v := 1) hx hb dL_law_762 (by decide) ?_
  refine lv_eqi (y := nI 1) rfl ?_
  refine lv_iadd hx hb dL_law_763 ?_
  refine lv_eqi (y := nI (k + 1)) (nI_add _ _) ?_
  refine va_sld hx hb hX hbl hbA hS (vp_in_nI (n := k + 1) (by omega) (by omega)) dL_law_764 ?_
  refine lv_eqi (y := xs (k + 1)) (congrArg xs (nI_clamp (by omega))) ?_
  refine lv_aload_n hx hb dL_law_765 rfl (lv_at hl 0 rfl) ?_
  refine lv_iload_n hx hb dL_law_766 rfl (lv_at hl 3 rfl) ?_
  refine lv_iconst (v := 2) hx hb dL_law_767 (by decide) ?_
  refine lv_eqi (y := nI 2) rfl ?_
  refine lv_iadd hx hb dL_law_768 ?_
  refine lv_eqi (y := nI (k + 2)) (nI_add _ _) ?_
  refine va_sld hx hb hX hbl hbA hS (vp_in_nI (n := k + 2) (by omega) (by omega)) dL_law_769 ?_
  refine lv_eqi (y := xs (k + 2)) (congrArg xs (nI_clamp (by omega))) ?_
  obtain ⟨st9, ch9, cl9, hsh, hst0, hce⟩ := hSX
  refine law_ro (va_runV (As := [.int (xs (k + 1)), .int (xs (k + 2))]) (rest := []) ⟨hx, hb, hml, hown, hts⟩ (t_X10_scorem l D cI cR cM _ hj hG hI hsh) (cwV 2 hts gL_law_X10_score rfl rfl rfl (by decide +kernel) ⟨Nat.le_of_ble_eq_true rfl, Nat.le_of_ble_eq_true rfl⟩) (pre_T hK hP1 hD1 (gm_10 hG) (hall_at hG hI) rfl) rfl rfl hl.1 rfl (lv_room (Nat.le_of_ble_eq_true rfl)) dL_law_770 ⟨by omega, by omega⟩) J hP hS hA (fun r1 H locs hu1 J hP hS => ?_)
  refine lv_aload_n hx hb dL_law_773 rfl (lv_at hl 2 rfl) ?_
  refine lv_aload_n hx hb dL_law_774 rfl (lv_at hl 0 rfl) ?_
  refine lv_iload_n hx hb dL_law_775 rfl (lv_at hl 3 rfl) ?_
  refine lv_iconst (v := 1) hx hb dL_law_776 (by decide) ?_
  refine lv_eqi (y := nI 1) rfl ?_
  refine lv_iadd hx hb dL_law_777 ?_
  refine lv_eqi (y := nI (k + 1)) (nI_add _ _) ?_
  refine va_sld hx hb hX hbl hbA hS (vp_in_nI (n := k + 1) (by omega) (by omega)) dL_law_778 ?_
  refine lv_eqi (y := xs (k + 1)) (congrArg xs (nI_clamp (by omega))) ?_
  refine lv_aload_n hx hb dL_law_779 rfl (lv_at hl 0 rfl) ?_
  refine lv_iload_n hx hb dL_law_780 rfl (lv_at hl 3 rfl) ?_
  refine lv_iconst (v := 2) hx hb dL_law_781 (by decide) ?_
  refine lv_eqi (y := nI 2) rfl ?_
  refine lv_iadd hx hb dL_law_782 ?_
  refine lv_eqi (y := nI (k + 2)) (nI_add _ _) ?_
  refine va_sld hx hb hX hbl hbA hS (vp_in_nI (n := k + 2) (by omega) (by omega)) dL_law_783 ?_
  refine lv_eqi (y := xs (k + 2)) (congrArg xs (nI_clamp (by omega))) ?_
  refine law_ro (va_runV (As := [.int (xs (k + 1)), .int (xs (k + 2))]) (rest := [.int r1]) ⟨hx, hb, hml, hown, hts⟩ (k_score3 l D cI cR cM _ h18) (cwV 2 hts gL_law_X11_score rfl rfl rfl (by decide +kernel) ⟨Nat.le_of_ble_eq_true rfl, Nat.le_of_ble_eq_true rfl⟩) (pre_V hK hP hD 0 11 rfl rfl) rfl rfl hl.1 rfl (lv_room (Nat.le_of_ble_eq_true rfl)) dL_law_784 ⟨by omega, by omega⟩) J hP hS hA (fun r2 H locs hw2 J hP hS => ?_)
  have hSX : SCx cI g f x18 x20 f21 f22 := ⟨st9, ch9, cl9, hsh, hst0, hce⟩
  have hre : r1 = r2 := ScR_u hce hu1 hw2
  refine lv_icmp_eq (tgt := 947) hx hb dL_law_787 (by decide) (fun _ => ?_) (fun c9 => absurd hre c9)
  refine W.widen (k := N9 + 18) (n := M9 + 1193) (by omega) (by omega) ?_
  exact hend _ _ _ ⟨L, S, f, x0, x1, x2, x3, x4, x5, x6, x7, x8, x9, x10, x11, x12, x13, x14, x15, x16, x17, x18, x19, x20, f0, f1, f2, f3, f4, f5, f6, f7, f8, f9, f10, f11, f12, f13, f14, f15, f16, f17, f18, f19, f20, f21, f22, f23, f24, J, hP, hD, hap, hLK, hSX, ⟨(by first | assumption | omega), (by first | assumption | omega), (by first | assumption | omega), (by first | assumption | omega), (by first | assumption | omega), (by first | assumption | omega), (by first | assumption | omega), (by first | assumption | omega), (by first | assumption | omega), (by first | assumption | omega), (by first | assumption | omega)⟩⟩ hS hl
set_option maxRecDepth 100000 in
set_option maxHeartbeats 4000000 in
theorem law_c18 {p : Program} {l : Launch} {e : Env} {s : State} {m : MethodId} {below : List Frame} {meth : Method} {c : Code} {b n9 : Nat} {xs : Nat → Int32} {A : Nat → Prop} {D : va_G} {cI cR cM : ClassId} {jn mm k N9 M9 : Nat} {g q : Nat → Nat} {H : Heap} {locs : List Loc} {ls : Array Slot} {adK adV : Nat → Nat} (C : LC p s m meth c b n9 xs A D cI cR cM) (hST : ST adK adV s.heap.size s) (hj : 1 ≤ jn ∧ jn ≤ 3) (hk : k + 5 < n9) (hn9 : n9 ≤ 3073) (hN9 : N9 + 18 ≤ room_1.cells) (hM9 : M9 + 1193 ≤ room_1.slots) (J : JS jn cI cR cM D g A mm q H) (hS : va_S A s.heap H locs) (hl : lv_has ls 4 [(0, .ref b), (1, .ref (g 10)), (2, .ref mm), (3, .int (nI k))]) (hend : ∀ (H1 : Heap) (locs1 : List Loc) (ls1 : Array Slot), JS jn cI cR cM D g A mm q H1 → va_S A s.heap H1 locs1 → lv_has ls1 4 [(0, .ref b), (1, .ref (g 10)), (2, .ref mm), (3, .int (nI k))] → W p l e room_1 s m #[Value.ref b] below meth c H1 locs1 (N9 + 18) (M9 + 1193) (lw_Z below #[Value.ref b] s) (F0 m 947 ls1 [])) : W p l e room_1 s m #[Value.ref b] below meth c H locs N9 M9 (lw_Z below #[Value.ref b] s) (F0 m 792 ls []) := by
  obtain ⟨hx, hb, hr, hml, hown, hts, hX, hbl, hlocks, hK, hA, hA2⟩ := C
  have hbA : ¬ A b := fun q => absurd (hA2 b q) (Nat.not_le.mpr hbl)
  obtain ⟨L, S, f, x0, x1, x2, x3, x4, x5, x6, x7, x8, x9, x10, x11, x12, x13, x14, x15, x16, x17, x18, x19, x20, f0, f1, f2, f3, f4, f5, f6, f7, f8, f9, f10, f11, f12, f13, f14, f15, f16, f17, f18, f19, f20, f21, f22, f23, f24, J, hP, hD, hap, hLK, hSX, h0, h1, h2, h18, hsc, hRX, hRZ, hSe, hFm, hMK, hwt⟩ := J
  have J0 := J
  obtain ⟨hG, hI, hTK, hP1, hD1⟩ := J0
  refine lv_aload_n hx hb dL_law_792 rfl (lv_at hl 1 rfl) ?_
  refine lv_aload_n hx hb dL_law_793 rfl (lv_at hl 0 rfl) ?_
  refine lv_iload_n hx hb dL_law_794 rfl (lv_at hl 3 rfl) ?_
  refine lv_iconst (v := 1) hx hb dL_law_795 (by decide) ?_
  refine lv_eqi (y := nI 1) rfl ?_
  refine lv_iadd hx hb dL_law_796 ?_
  refine lv_eqi (y := nI (k + 1)) (nI_add _ _) ?_
  refine va_sld hx hb hX hbl hbA hS (vp_in_nI (n := k + 1) (by omega) (by omega)) dL_law_797 ?_
  refine lv_eqi (y := xs (k + 1)) (congrArg xs (nI_clamp (by omega))) ?_
  refine law_ro (va_runV (As := [.int (xs (k + 1))]) (rest := []) ⟨hx, hb, hml, hown, hts⟩ (t_X10_seen l D cI cR cM _ hj hG hI) (cwV 1 hts gL_law_X10_seen rfl rfl rfl (by decide +kernel) ⟨Nat.le_of_ble_eq_true rfl, Nat.le_of_ble_eq_true rfl⟩) (pre_T hK hP1 hD1 (gm_10 hG) (hall_at hG hI) rfl) rfl rfl hl.1 rfl (lv_room (Nat.le_of_ble_eq_true rfl)) dL_law_798 ⟨by omega, by omega⟩) J hP hS hA (fun r1 H locs _ J hP hS => ?_)
  refine lv_pop hx hb dL_law_801 rfl ?_
  refine lv_aload_n hx hb dL_law_802 rfl (lv_at hl 2 rfl) ?_
  refine lv_aload_n hx hb dL_law_803 rfl (lv_at hl 0 rfl) ?_
  refine lv_iload_n hx hb dL_law_804 rfl (lv_at hl 3 rfl) ?_
  refine lv_iconst (v := 1) hx hb dL_law_805 (by decide) ?_
  refine lv_eqi (y := nI 1) rfl ?_
  refine lv_iadd hx hb dL_law_806 ?_
  refine lv_eqi (y := nI (k + 1)) (nI_add _ _) ?_
  refine va_sld hx hb hX hbl hbA hS (vp_in_nI (n := k + 1) (by omega) (by omega)) dL_law_807 ?_
  refine lv_eqi (y := xs (k + 1)) (congrArg xs (nI_clamp (by omega))) ?_
  refine law_ro (va_runV (As := [.int (xs (k + 1))]) (rest := []) ⟨hx, hb, hml, hown, hts⟩ (k_seen l D cI cR cM _ (by first | assumption | omega) (by first | assumption | omega)) (cwV 1 hts gL_law_X11_seen rfl rfl rfl (by decide +kernel) ⟨Nat.le_of_ble_eq_true rfl, Nat.le_of_ble_eq_true rfl⟩) (pre_V hK hP hD 0 11 rfl rfl) rfl rfl hl.1 rfl (lv_room (Nat.le_of_ble_eq_true rfl)) dL_law_808 ⟨by omega, by omega⟩) J hP hS hA (fun r2 H locs hw J hP hS => ?_)
  refine lv_pop hx hb dL_law_811 rfl ?_
  refine lv_goto (tgt := 947) hx hb dL_law_812 (by decide) ?_
  refine W.widen (k := N9 + 18) (n := M9 + 1193) (by omega) (by omega) ?_
  exact hend _ _ _ ⟨L, S, f, x0, x1, x2, x3, x4, x5, x6, x7, x8, x9, x10, x11, x12, x13, x14, x15, x16, x17, x18, x19, x20, f0, f1, f2, f3, f4, f5, f6, f7, f8, f9, f10, f11, f12, f13, f14, f15, f16, f17, f18, f19, f20, f21, f22, f23, f24, J, hP, hD, hap, hLK, hSX, ⟨(by first | assumption | omega), (by first | assumption | omega), (by first | assumption | omega), (by first | assumption | omega), (by first | assumption | omega), (by first | assumption | omega), (by first | assumption | omega), (by first | assumption | omega), (by first | assumption | omega), (by first | assumption | omega), (by first | assumption | omega)⟩⟩ hS hl
set_option maxRecDepth 100000 in
set_option maxHeartbeats 4000000 in
theorem law_c19 {p : Program} {l : Launch} {e : Env} {s : State} {m : MethodId} {below : List Frame} {meth : Method} {c : Code} {b n9 : Nat} {xs : Nat → Int32} {A : Nat → Prop} {D : va_G} {cI cR cM : ClassId} {jn mm k N9 M9 : Nat} {g q : Nat → Nat} {H : Heap} {locs : List Loc} {ls : Array Slot} {adK adV : Nat → Nat} (C : LC p s m meth c b n9 xs A D cI cR cM) (hST : ST adK adV s.heap.size s) (hj : 1 ≤ jn ∧ jn ≤ 3) (hk : k + 5 < n9) (hn9 : n9 ≤ 3073) (hN9 : N9 + 18 ≤ room_1.cells) (hM9 : M9 + 1193 ≤ room_1.slots) (J : JS jn cI cR cM D g A mm q H) (hS : va_S A s.heap H locs) (hl : lv_has ls 4 [(0, .ref b), (1, .ref (g 10)), (2, .ref mm), (3, .int (nI k))]) (hend : ∀ (H1 : Heap) (locs1 : List Loc) (ls1 : Array Slot), JS jn cI cR cM D g A mm q H1 → va_S A s.heap H1 locs1 → lv_has ls1 4 [(0, .ref b), (1, .ref (g 10)), (2, .ref mm), (3, .int (nI k))] → W p l e room_1 s m #[Value.ref b] below meth c H1 locs1 (N9 + 18) (M9 + 1193) (lw_Z below #[Value.ref b] s) (F0 m 947 ls1 [])) : W p l e room_1 s m #[Value.ref b] below meth c H locs N9 M9 (lw_Z below #[Value.ref b] s) (F0 m 815 ls []) := by
  obtain ⟨hx, hb, hr, hml, hown, hts, hX, hbl, hlocks, hK, hA, hA2⟩ := C
  have hbA : ¬ A b := fun q => absurd (hA2 b q) (Nat.not_le.mpr hbl)
  obtain ⟨L, S, f, x0, x1, x2, x3, x4, x5, x6, x7, x8, x9, x10, x11, x12, x13, x14, x15, x16, x17, x18, x19, x20, f0, f1, f2, f3, f4, f5, f6, f7, f8, f9, f10, f11, f12, f13, f14, f15, f16, f17, f18, f19, f20, f21, f22, f23, f24, J, hP, hD, hap, hLK, hSX, h0, h1, h2, h18, hsc, hRX, hRZ, hSe, hFm, hMK, hwt⟩ := J
  have J0 := J
  obtain ⟨hG, hI, hTK, hP1, hD1⟩ := J0
  refine lv_aload_n hx hb dL_law_815 rfl (lv_at hl 1 rfl) ?_
  refine lv_aload_n hx hb dL_law_816 rfl (lv_at hl 0 rfl) ?_
  refine lv_iload_n hx hb dL_law_817 rfl (lv_at hl 3 rfl) ?_
  refine lv_iconst (v := 1) hx hb dL_law_818 (by decide) ?_
  refine lv_eqi (y := nI 1) rfl ?_
  refine lv_iadd hx hb dL_law_819 ?_
  refine lv_eqi (y := nI (k + 1)) (nI_add _ _) ?_
  refine va_sld hx hb hX hbl hbA hS (vp_in_nI (n := k + 1) (by omega) (by omega)) dL_law_820 ?_
  refine lv_eqi (y := xs (k + 1)) (congrArg xs (nI_clamp (by omega))) ?_
  refine lv_aload_n hx hb dL_law_821 rfl (lv_at hl 0 rfl) ?_
  refine lv_iload_n hx hb dL_law_822 rfl (lv_at hl 3 rfl) ?_
  refine lv_iconst (v := 2) hx hb dL_law_823 (by decide) ?_
  refine lv_eqi (y := nI 2) rfl ?_
  refine lv_iadd hx hb dL_law_824 ?_
  refine lv_eqi (y := nI (k + 2)) (nI_add _ _) ?_
  refine va_sld hx hb hX hbl hbA hS (vp_in_nI (n := k + 2) (by omega) (by omega)) dL_law_825 ?_
  refine lv_eqi (y := xs (k + 2)) (congrArg xs (nI_clamp (by omega))) ?_
  refine law_w (T := [46, 47]) (va_runV (As := [.int (xs (k + 1)), .int (xs (k + 2))]) (rest := []) ⟨hx, hb, hml, hown, hts⟩ (t_X10_whole l D cI cR cM _ hj hG hI) (cwV 2 hts gL_law_X10_whole rfl rfl rfl (by decide +kernel) ⟨Nat.le_of_ble_eq_true rfl, Nat.le_of_ble_eq_true rfl⟩) (pre_T hK hP1 hD1 (gm_10 hG) (hall_at hG hI) rfl) rfl rfl hl.1 rfl (lv_room (Nat.le_of_ble_eq_true rfl)) dL_law_826 ⟨by omega, by omega⟩) (fun _ hu => hu) (by decide) (by decide) (by decide) J hP hap hS hA (fun r1 fc1 H locs hu1 J hP hS => ?_)
  have hLK := LKx_fr hLK hG (show FR S [46, 47] f fc1 from hu1.2) (by decide)
  have hSX := SCx_fr hSX hG (show FR S [46, 47] f fc1 from hu1.2) (by decide)
  refine lv_pop hx hb dL_law_829 rfl ?_
  refine lv_aload_n hx hb dL_law_830 rfl (lv_at hl 2 rfl) ?_
  refine lv_aload_n hx hb dL_law_831 rfl (lv_at hl 0 rfl) ?_
  refine lv_iload_n hx hb dL_law_832 rfl (lv_at hl 3 rfl) ?_
  refine lv_iconst (v := 1) hx hb dL_law_833 (by decide) ?_
  refine lv_eqi (y := nI 1) rfl ?_
  refine lv_iadd hx hb dL_law_834 ?_
  refine lv_eqi (y := nI (k + 1)) (nI_add _ _) ?_
  refine va_sld hx hb hX hbl hbA hS (vp_in_nI (n := k + 1) (by omega) (by omega)) dL_law_835 ?_
  refine lv_eqi (y := xs (k + 1)) (congrArg xs (nI_clamp (by omega))) ?_
  refine lv_aload_n hx hb dL_law_836 rfl (lv_at hl 0 rfl) ?_
  refine lv_iload_n hx hb dL_law_837 rfl (lv_at hl 3 rfl) ?_
  refine lv_iconst (v := 2) hx hb dL_law_838 (by decide) ?_
  refine lv_eqi (y := nI 2) rfl ?_
  refine lv_iadd hx hb dL_law_839 ?_
  refine lv_eqi (y := nI (k + 2)) (nI_add _ _) ?_
  refine va_sld hx hb hX hbl hbA hS (vp_in_nI (n := k + 2) (by omega) (by omega)) dL_law_840 ?_
  refine lv_eqi (y := xs (k + 2)) (congrArg xs (nI_clamp (by omega))) ?_
  refine law_ms (wr := []) (va_runV (As := [.int (xs (k + 1)), .int (xs (k + 2))]) (rest := []) ⟨hx, hb, hml, hown, hts⟩ (k_whole l D cI cR cM _ (by first | assumption | omega) (by first | assumption | omega)) (cwV 2 hts gL_law_X11_whole rfl rfl rfl (by decide +kernel) ⟨Nat.le_of_ble_eq_true rfl, Nat.le_of_ble_eq_true rfl⟩) (pre_V hK hP hD 0 11 rfl rfl) rfl rfl hl.1 rfl (lv_room (Nat.le_of_ble_eq_true rfl)) dL_law_841 ⟨by omega, by omega⟩) J hP hD hap hS hA [0, 1, 2, 3, 4, 5, 6, 7, 8, 9, 10, 11, 12, 13, 14, 15, 16, 17, 18, 19, 20, 21, 22, 23, 24, 25] [] (by with_unfolding_all rfl) rfl (by decide) (by decide) (fun u2 H locs hw J hP hD hap hS => ?_)
  obtain ⟨r2, g23_2, g24_2⟩ := u2
  have hP : va_P D vwCl (mX mm q jn cI x0 x1 x2 x3 x4 x5 x6 x7 x8 x9 x10 x11 x12 x13 x14 x15 x16 x17 x18 x19 x20 f0 f1 f2 f3 f4 f5 f6 f7 f8 f9 f10 f11 f12 f13 f14 f15 f16 f17 f18 f19 f20 f21 f22 g23_2 g24_2) H := hP
  have hD : va_D A (mX mm q jn cI x0 x1 x2 x3 x4 x5 x6 x7 x8 x9 x10 x11 x12 x13 x14 x15 x16 x17 x18 x19 x20 f0 f1 f2 f3 f4 f5 f6 f7 f8 f9 f10 f11 f12 f13 f14 f15 f16 f17 f18 f19 f20 f21 f22 g23_2 g24_2) := hD
  have hap : AP L (mX mm q jn cI x0 x1 x2 x3 x4 x5 x6 x7 x8 x9 x10 x11 x12 x13 x14 x15 x16 x17 x18 x19 x20 f0 f1 f2 f3 f4 f5 f6 f7 f8 f9 f10 f11 f12 f13 f14 f15 f16 f17 f18 f19 f20 f21 f22 g23_2 g24_2) := hap
  refine lv_pop hx hb dL_law_844 rfl ?_
  refine lv_goto (tgt := 947) hx hb dL_law_845 (by decide) ?_
  refine W.widen (k := N9 + 18) (n := M9 + 1193) (by omega) (by omega) ?_
  exact hend _ _ _ ⟨L, S, fc1, x0, x1, x2, x3, x4, x5, x6, x7, x8, x9, x10, x11, x12, x13, x14, x15, x16, x17, x18, x19, x20, f0, f1, f2, f3, f4, f5, f6, f7, f8, f9, f10, f11, f12, f13, f14, f15, f16, f17, f18, f19, f20, f21, f22, g23_2, g24_2, J, hP, hD, hap, hLK, hSX, ⟨(by first | assumption | omega), (by first | assumption | omega), (by first | assumption | omega), (by first | assumption | omega), (by first | assumption | omega), (by first | assumption | omega), (by first | assumption | omega), (by first | assumption | omega), (by first | assumption | omega), (by first | assumption | omega), (by first | assumption | omega)⟩⟩ hS hl
