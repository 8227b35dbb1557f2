theorem dL_law_815 : decode cL_law 815 = .ok (.aload_n 1, 1) := by decide +kernel
theorem dL_law_816 : decode cL_law 816 = .ok (.aload_n 0, 1) := by decide +kernel
theorem dL_law_817 : decode cL_law 817 = .ok (.iload_n 3, 1) := by decide +kernel
theorem dL_law_818 : decode cL_law 818 = .ok (.iconst 1, 1) := by decide +kernel
theorem dL_law_819 : decode cL_law 819 = .ok (.iadd, 1) := by decide +kernel
theorem dL_law_820 : decode cL_law 820 = .ok (.iaload, 1) := by decide +kernel
theorem dL_law_821 : decode cL_law 821 = .ok (.aload_n 0, 1) := by decide +kernel
theorem dL_law_822 : decode cL_law 822 = .ok (.iload_n 3, 1) := by decide +kernel
theorem dL_law_823 : decode cL_law 823 = .ok (.iconst 2, 1) := by decide +kernel
theorem dL_law_824 : decode cL_law 824 = .ok (.iadd, 1) := by decide +kernel
theorem dL_law_825 : decode cL_law 825 = .ok (.iaload, 1) := by decide +kernel
theorem dL_law_826 : decode cL_law 826 = .ok (.invokevirtual 104, 3) := by decide +kernel
theorem dL_law_829 : decode cL_law 829 = .ok (.aload_n 2, 1) := by decide +kernel
theorem dL_law_830 : decode cL_law 830 = .ok (.aload_n 0, 1) := by decide +kernel
theorem dL_law_831 : decode cL_law 831 = .ok (.iload_n 3, 1) := by decide +kernel
theorem dL_law_832 : decode cL_law 832 = .ok (.iconst 1, 1) := by decide +kernel
theorem dL_law_833 : decode cL_law 833 = .ok (.iadd, 1) := by decide +kernel
theorem dL_law_834 : decode cL_law 834 = .ok (.iaload, 1) := by decide +kernel
theorem dL_law_835 : decode cL_law 835 = .ok (.aload_n 0, 1) := by decide +kernel
theorem dL_law_836 : decode cL_law 836 = .ok (.iload_n 3, 1) := by decide +kernel
theorem dL_law_837 : decode cL_law 837 = .ok (.iconst 2, 1) := by decide +kernel
theorem dL_law_838 : decode cL_law 838 = .ok (.iadd, 1) := by decide +kernel
theorem dL_law_839 : decode cL_law 839 = .ok (.iaload, 1) := by decide +kernel
theorem dL_law_840 : decode cL_law 840 = .ok (.invokevirtual 107, 3) := by decide +kernel
theorem dL_law_843 : decode cL_law 843 = .ok (.if_icmp .eq 104, 3) := by decide +kernel
theorem dL_law_848 : decode cL_law 848 = .ok (.aload_n 1, 1) := by decide +kernel
theorem dL_law_849 : decode cL_law 849 = .ok (.aload_n 0, 1) := by decide +kernel
theorem dL_law_850 : decode cL_law 850 = .ok (.iload_n 3, 1) := by decide +kernel
theorem dL_law_851 : decode cL_law 851 = .ok (.iconst 1, 1) := by decide +kernel
theorem dL_law_852 : decode cL_law 852 = .ok (.iadd, 1) := by decide +kernel
theorem dL_law_853 : decode cL_law 853 = .ok (.iaload, 1) := by decide +kernel
theorem dL_law_854 : decode cL_law 854 = .ok (.aload_n 0, 1) := by decide +kernel
theorem dL_law_855 : decode cL_law 855 = .ok (.iload_n 3, 1) := by decide +kernel
theorem dL_law_856 : decode cL_law 856 = .ok (.iconst 2, 1) := by decide +kernel
theorem dL_law_857 : decode cL_law 857 = .ok (.iadd, 1) := by decide +kernel
theorem dL_law_858 : decode cL_law 858 = .ok (.iaload, 1) := by decide +kernel
theorem dL_law_859 : decode cL_law 859 = .ok (.aload_n 0, 1) := by decide +kernel
theorem dL_law_860 : decode cL_law 860 = .ok (.iload_n 3, 1) := by decide +kernel
theorem dL_law_861 : decode cL_law 861 = .ok (.iconst 3, 1) := by decide +kernel
theorem dL_law_862 : decode cL_law 862 = .ok (.iadd, 1) := by decide +kernel
theorem dL_law_863 : decode cL_law 863 = .ok (.iaload, 1) := by decide +kernel
theorem dL_law_864 : decode cL_law 864 = .ok (.invokevirtual 108, 3) := by decide +kernel
theorem dL_law_867 : decode cL_law 867 = .ok (.aload_n 2, 1) := by decide +kernel
theorem dL_law_868 : decode cL_law 868 = .ok (.aload_n 0, 1) := by decide +kernel
theorem dL_law_869 : decode cL_law 869 = .ok (.iload_n 3, 1) := by decide +kernel
theorem dL_law_870 : decode cL_law 870 = .ok (.iconst 1, 1) := by decide +kernel
theorem dL_law_871 : decode cL_law 871 = .ok (.iadd, 1) := by decide +kernel
theorem dL_law_872 : decode cL_law 872 = .ok (.iaload, 1) := by decide +kernel
theorem dL_law_873 : decode cL_law 873 = .ok (.aload_n 0, 1) := by decide +kernel
theorem dL_law_874 : decode cL_law 874 = .ok (.iload_n 3, 1) := by decide +kernel
theorem dL_law_875 : decode cL_law 875 = .ok (.iconst 2, 1) := by decide +kernel
theorem dL_law_876 : decode cL_law 876 = .ok (.iadd, 1) := by decide +kernel
theorem dL_law_877 : decode cL_law 877 = .ok (.iaload, 1) := by decide +kernel
theorem dL_law_878 : decode cL_law 878 = .ok (.aload_n 0, 1) := by decide +kernel
theorem dL_law_879 : decode cL_law 879 = .ok (.iload_n 3, 1) := by decide +kernel
theorem dL_law_880 : decode cL_law 880 = .ok (.iconst 3, 1) := by decide +kernel
theorem dL_law_881 : decode cL_law 881 = .ok (.iadd, 1) := by decide +kernel
theorem dL_law_882 : decode cL_law 882 = .ok (.iaload, 1) := by decide +kernel
theorem dL_law_883 : decode cL_law 883 = .ok (.invokevirtual 111, 3) := by decide +kernel
theorem dL_law_886 : decode cL_law 886 = .ok (.if_icmp .eq 61, 3) := by decide +kernel
theorem dL_law_891 : decode cL_law 891 = .ok (.aload_n 1, 1) := by decide +kernel
theorem dL_law_892 : decode cL_law 892 = .ok (.aload_n 0, 1) := by decide +kernel
theorem dL_law_893 : decode cL_law 893 = .ok (.iload_n 3, 1) := by decide +kernel
theorem dL_law_894 : decode cL_law 894 = .ok (.iconst 1, 1) := by decide +kernel
theorem dL_law_895 : decode cL_law 895 = .ok (.iadd, 1) := by decide +kernel
theorem dL_law_896 : decode cL_law 896 = .ok (.iaload, 1) := by decide +kernel
theorem dL_law_897 : decode cL_law 897 = .ok (.aload_n 0, 1) := by decide +kernel
theorem dL_law_898 : decode cL_law 898 = .ok (.iload_n 3, 1) := by decide +kernel
theorem dL_law_899 : decode cL_law 899 = .ok (.iconst 2, 1) := by decide +kernel
theorem dL_law_900 : decode cL_law 900 = .ok (.iadd, 1) := by decide +kernel
theorem dL_law_901 : decode cL_law 901 = .ok (.iaload, 1) := by decide +kernel
theorem dL_law_902 : decode cL_law 902 = .ok (.invokevirtual 112, 3) := by decide +kernel
theorem dL_law_905 : decode cL_law 905 = .ok (.aload_n 2, 1) := by decide +kernel
theorem dL_law_906 : decode cL_law 906 = .ok (.aload_n 0, 1) := by decide +kernel
theorem dL_law_907 : decode cL_law 907 = .ok (.iload_n 3, 1) := by decide +kernel
theorem dL_law_908 : decode cL_law 908 = .ok (.iconst 1, 1) := by decide +kernel
theorem dL_law_909 : decode cL_law 909 = .ok (.iadd, 1) := by decide +kernel
theorem dL_law_910 : decode cL_law 910 = .ok (.iaload, 1) := by decide +kernel
theorem dL_law_911 : decode cL_law 911 = .ok (.aload_n 0, 1) := by decide +kernel
theorem dL_law_912 : decode cL_law 912 = .ok (.iload_n 3, 1) := by decide +kernel
theorem dL_law_913 : decode cL_law 913 = .ok (.iconst 2, 1) := by decide +kernel
theorem dL_law_914 : decode cL_law 914 = .ok (.iadd, 1) := by decide +kernel
theorem dL_law_915 : decode cL_law 915 = .ok (.iaload, 1) := by decide +kernel
theorem dL_law_916 : decode cL_law 916 = .ok (.invokevirtual 115, 3) := by decide +kernel
theorem dL_law_919 : decode cL_law 919 = .ok (.if_icmp .eq 28, 3) := by decide +kernel
theorem dL_law_924 : decode cL_law 924 = .ok (.aload_n 1, 1) := by decide +kernel
theorem dL_law_925 : decode cL_law 925 = .ok (.aload_n 0, 1) := by decide +kernel
theorem dL_law_926 : decode cL_law 926 = .ok (.iload_n 3, 1) := by decide +kernel
theorem dL_law_927 : decode cL_law 927 = .ok (.iconst 1, 1) := by decide +kernel
theorem dL_law_928 : decode cL_law 928 = .ok (.iadd, 1) := by decide +kernel
theorem dL_law_929 : decode cL_law 929 = .ok (.iaload, 1) := by decide +kernel
theorem dL_law_930 : decode cL_law 930 = .ok (.invokevirtual 116, 3) := by decide +kernel
theorem dL_law_933 : decode cL_law 933 = .ok (.aload_n 2, 1) := by decide +kernel
theorem dL_law_934 : decode cL_law 934 = .ok (.aload_n 0, 1) := by decide +kernel
theorem dL_law_935 : decode cL_law 935 = .ok (.iload_n 3, 1) := by decide +kernel
theorem dL_law_936 : decode cL_law 936 = .ok (.iconst 1, 1) := by decide +kernel
theorem dL_law_937 : decode cL_law 937 = .ok (.iadd, 1) := by decide +kernel
theorem dL_law_938 : decode cL_law 938 = .ok (.iaload, 1) := by decide +kernel
theorem dL_law_939 : decode cL_law 939 = .ok (.invokevirtual 119, 3) := by decide +kernel
theorem dL_law_942 : decode cL_law 942 = .ok (.if_icmp .eq 5, 3) := by decide +kernel
set_option maxRecDepth 100000 in
set_option maxHeartbeats 4000000 in
theorem ggL_law_X10_whole : GoodIn wsL_law wsX10_whole := goodIn_r _ [1014, 31, 54, 999, 1000, 1001, 30, 1002, 66, 509, 1015, 1016, 1017, 53, 1018, 132, 1019, 1020, 419, 1021, 1022, 1023, 1024, 1025, 1026, 1027, 1028, 1029, 17, 18, 19, 1030, 890, 891, 892, 893, 894, 895, 1031, 1032, 1033, 1034, 1035, 1036, 1037, 133, 1038, 1039, 1040, 1041, 1100, 1101, 1102, 1103, 1104, 1105, 1106, 1107, 1200, 1201, 1198, 1199, 1157, 1158, 1159, 1160] (by with_unfolding_all rfl) (by decide +kernel)
set_option maxRecDepth 20000 in
theorem gL_law_X10_whole : GoodIn wsL_law (wsV RL 104 RX10 yX10_whole wsX10_whole) := goodIn_app (goodIn_of _ (by decide +kernel)) ggL_law_X10_whole
set_option maxRecDepth 100000 in
set_option maxHeartbeats 4000000 in
theorem ggL_law_X11_whole : GoodIn wsL_law wsX11_whole := goodIn_r _ [1045, 140, 165, 1007, 1008, 1009, 5, 1010, 539, 197, 198, 199, 1046, 1047, 1048, 1049, 164, 1108, 1109, 1110, 1111, 1112, 1113, 1114, 1115, 1116, 1117, 1118, 1119, 1120, 1121, 1122, 1123, 1124, 1125, 1126, 1127, 1128, 1129, 1130, 1131, 1132, 1133, 1134, 1135, 1136, 1137, 1138, 1139, 1140, 1141, 1142, 1143, 1144, 1145, 1146, 1147, 1148, 1149, 1150, 1151, 1152, 1153, 1154] (by with_unfolding_all rfl) (by decide +kernel)
set_option maxRecDepth 20000 in
theorem gL_law_X11_whole : GoodIn wsL_law (wsV RL 107 RX11 yX11_whole wsX11_whole) := goodIn_app (goodIn_of _ (by decide +kernel)) ggL_law_X11_whole
set_option maxRecDepth 100000 in
set_option maxHeartbeats 4000000 in
theorem ggL_law_X10_drop : GoodIn wsL_law wsX10_drop := goodIn_r _ [1053, 31, 42, 672, 673, 674, 30, 675, 509, 400, 401, 402, 403, 64, 204, 205, 206, 207, 208, 759, 760, 761, 41, 762, 763, 112, 113, 764, 765, 719, 720, 721, 111, 722, 17, 18, 19, 723, 418, 419, 420, 724, 443, 444, 93, 445, 386, 106, 725, 694, 695, 696, 107, 726, 727, 728, 729, 105, 450, 451, 452, 453, 446, 447, 448, 449, 454, 455, 456, 457, 458, 459, 460, 461, 462, 463, 464, 465, 766, 767, 768, 769, 770, 771, 772, 773, 774, 775, 776, 777, 778, 114, 115, 116, 1054, 1055, 1056, 1057, 1058, 92, 1059, 101, 102, 103, 14, 15, 104, 21, 22, 58, 1060, 413, 414, 415, 416, 417, 1061, 1062, 467, 468, 469, 1063, 1064, 426, 427, 428, 1065, 506, 507, 508, 66, 510, 1066, 519, 520, 521, 1100, 1101, 1102, 1103, 1104, 1105, 1106, 1107, 1182, 1183, 1184, 1185, 1186, 1187, 1188, 1189, 1157, 1158, 1159, 1160, 1202, 1203, 1204, 1205] (by with_unfolding_all rfl) (by decide +kernel)
set_option maxRecDepth 20000 in
theorem gL_law_X10_drop : GoodIn wsL_law (wsV RL 108 RX10 yX10_drop wsX10_drop) := goodIn_app (goodIn_of _ (by decide +kernel)) ggL_law_X10_drop
set_option maxRecDepth 100000 in
set_option maxHeartbeats 4000000 in
theorem ggL_law_X11_drop : GoodIn wsL_law wsX11_drop := goodIn_r _ [1070, 537, 783, 139, 156, 539, 784, 785, 786, 5, 787, 680, 681, 682, 683, 197, 198, 199, 627, 628, 629, 630, 631, 632, 633, 788, 789, 790, 791, 745, 747, 748, 749, 750, 153, 746, 706, 707, 708, 709, 710, 711, 712, 713, 792, 793, 794, 795, 154, 155, 166, 157, 796, 797, 798, 799, 800, 801, 802, 803, 804, 805, 806, 807, 612, 613, 614, 1108, 1109, 1110, 1111, 1112, 1113, 1114, 1115, 1116, 1117, 1118, 1119, 1120, 1121, 1122, 1123, 1124, 1125, 1126, 1127, 1128, 1129, 1130, 1131, 1132, 1133, 1134, 1135, 1136, 1137, 1138, 1139, 1140, 1141, 1142, 1143, 1144, 1145, 1146, 1147, 1148, 1149, 1150, 1151, 1152, 1153, 1154] (by with_unfolding_all rfl) (by decide +kernel)
set_option maxRecDepth 20000 in
theorem gL_law_X11_drop : GoodIn wsL_law (wsV RL 111 RX11 yX11_drop wsX11_drop) := goodIn_app (goodIn_of _ (by decide +kernel)) ggL_law_X11_drop
set_option maxRecDepth 20000 in
theorem ggL_law_X10_turned : GoodIn wsL_law wsX10_turned := goodIn_r _ [1074, 31, 672, 673, 674, 30, 675, 509, 400, 401, 402, 403, 64, 1075, 1076, 1077, 93, 1078, 106, 442, 443, 444, 445, 386, 450, 451, 452, 453, 454, 455, 456, 457, 458, 459, 460, 461, 1079, 1080, 1081, 1082, 107, 1100, 1101, 1102, 1103, 1104, 1105, 1106, 1107, 1202, 1203, 1204, 1205, 1157, 1158, 1159, 1160] (by decide +kernel) (by decide +kernel)
set_option maxRecDepth 20000 in
theorem gL_law_X10_turned : GoodIn wsL_law (wsV RL 112 RX10 yX10_turned wsX10_turned) := goodIn_app (goodIn_of _ (by decide +kernel)) ggL_law_X10_turned
set_option maxRecDepth 100000 in
set_option maxHeartbeats 4000000 in
theorem ggL_law_X11_turned : GoodIn wsL_law wsX11_turned := goodIn_r _ [1086, 139, 680, 681, 682, 5, 683, 539, 197, 198, 199, 627, 628, 629, 630, 631, 632, 633, 1108, 1109, 1110, 1111, 1112, 1113, 1114, 1115, 1116, 1117, 1118, 1119, 1120, 1121, 1122, 1123, 1124, 1125, 1126, 1127, 1128, 1129, 1130, 1131, 1132, 1133, 1134, 1135, 1136, 1137, 1138, 1139, 1140, 1141, 1142, 1143, 1144, 1145, 1146, 1147, 1148, 1149, 1150, 1151, 1152, 1153, 1154] (by with_unfolding_all rfl) (by decide +kernel)
set_option maxRecDepth 20000 in
theorem gL_law_X11_turned : GoodIn wsL_law (wsV RL 115 RX11 yX11_turned wsX11_turned) := goodIn_app (goodIn_of _ (by decide +kernel)) ggL_law_X11_turned
set_option maxRecDepth 20000 in
theorem ggL_law_X10_about : GoodIn wsL_law wsX10_about := goodIn_r _ [1090, 23, 31, 27, 50, 1091, 1092, 1093, 30, 1094, 1095, 673, 674, 675, 509, 400, 401, 402, 403, 64, 1100, 1101, 1102, 1103, 1104, 1105, 1106, 1107, 1157, 1158, 1159, 1160, 1155, 1156, 1194, 1195, 1196, 1197] (by decide +kernel) (by decide +kernel)
set_option maxRecDepth 20000 in
theorem gL_law_X10_about : GoodIn wsL_law (wsV RL 116 RX10 yX10_about wsX10_about) := goodIn_app (goodIn_of _ (by decide +kernel)) ggL_law_X10_about
set_option maxRecDepth 100000 in
set_option maxHeartbeats 4000000 in
theorem ggL_law_X11_about : GoodIn wsL_law wsX11_about := goodIn_r _ [1099, 166, 537, 539, 184, 956, 680, 681, 682, 5, 683, 197, 198, 199, 627, 628, 629, 630, 139, 631, 632, 633, 1108, 1109, 1110, 1111, 1112, 1113, 1114, 1115, 1116, 1117, 1118, 1119, 1120, 1121, 1122, 1123, 1124, 1125, 1126, 1127, 1128, 1129, 1130, 1131, 1132, 1133, 1134, 1135, 1136, 1137, 1138, 1139, 1140, 1141, 1142, 1143, 1144, 1145, 1146, 1147, 1148, 1149, 1150, 1151, 1152, 1153, 1154] (by with_unfolding_all rfl) (by decide +kernel)
set_option maxRecDepth 20000 in
theorem gL_law_X11_about : GoodIn wsL_law (wsV RL 119 RX11 yX11_about wsX11_about) := goodIn_app (goodIn_of _ (by decide +kernel)) ggL_law_X11_about
set_option maxRecDepth 100000 in
set_option maxHeartbeats 4000000 in
theorem law_c19 {p : Program} {l : Launch} {e : Env} {s : State} {m : MethodId} {below : List Frame} {meth : Method} {c : Code} {b : Nat} {xs : Nat → Int32} {A : Nat → Prop} {D : va_G} {cI cR cM : ClassId} {jn : Nat} {hh mm : Nat} {uh um : Nat → Nat} {H : Heap} {locs : List Loc} {ls : Array Slot} (C : LC p s m meth c b 7 xs A D cI cR cM) (hP : va_P D vwCl [(hh, .inr (10, [.int (nI jn), .ref (uh 0), .ref (uh 1), .ref (uh 2), .ref (uh 3), .ref (uh 4), .ref (uh 5), .ref (uh 6)])), (uh 1, .inr (0, [.ref (uh 8), .ref (uh 9), .int 0, .int 0])), (uh 9, .inl (cM, 61, .inr (.inr (.inr (.inr (fun _ => none)))))), (mm, .inr (11, [.int (nI jn), .ref (um 0), .ref (um 1), .int 0, .int 0, .ref (um 2), .int 0, .int (-1), .int (-1), .int 0, .int 0, .int 0, .int 0, .int 0, .ref (um 3), .ref (um 4), .ref (um 5), .ref (um 6), .ref (um 7), .int 0, .int 0, .int 0, .ref (um 8), .ref (um 9), .ref (um 10), .int 0, .int 0, .ref (um 11), .int 0, .int 0, .ref (um 12), .ref (um 13), .ref (um 14), .ref (um 15), .ref (um 16), .int 0, .ref (um 17), .ref (um 18), .ref (um 19), .ref (um 20), .ref (um 21), .ref (um 22), .int 0, .int 0, .int 0, .ref (um 23), .ref (um 24)]))] H) (hD : va_D A [(hh, .inr (10, [.int (nI jn), .ref (uh 0), .ref (uh 1), .ref (uh 2), .ref (uh 3), .ref (uh 4), .ref (uh 5), .ref (uh 6)])), (uh 1, .inr (0, [.ref (uh 8), .ref (uh 9), .int 0, .int 0])), (uh 9, .inl (cM, 61, .inr (.inr (.inr (.inr (fun _ => none)))))), (mm, .inr (11, [.int (nI jn), .ref (um 0), .ref (um 1), .int 0, .int 0, .ref (um 2), .int 0, .int (-1), .int (-1), .int 0, .int 0, .int 0, .int 0, .int 0, .ref (um 3), .ref (um 4), .ref (um 5), .ref (um 6), .ref (um 7), .int 0, .int 0, .int 0, .ref (um 8), .ref (um 9), .ref (um 10), .int 0, .int 0, .ref (um 11), .int 0, .int 0, .ref (um 12), .ref (um 13), .ref (um 14), .ref (um 15), .ref (um 16), .int 0, .ref (um 17), .ref (um 18), .ref (um 19), .ref (um 20), .ref (um 21), .ref (um 22), .int 0, .int 0, .int 0, .ref (um 23), .ref (um 24)]))]) (hS : va_S A s.heap H locs) (hl : lv_has ls 4 [(0, .ref b), (1, .ref hh), (2, .ref mm), (3, .int 1)]) : W p l e room_1 s m #[Value.ref b] below meth c H locs 92 95787 (lw_Z below #[Value.ref b] s) (F0 m 815 ls []) := by
  have C0 := C
  obtain ⟨hx, hb, hr, hml, hown, hts, hX, hbl, hlocks, hK, hA, hA2⟩ := C
  have hbA : ¬ A b := fun q => absurd (hA2 b q) (Nat.not_le.mpr hbl)
  refine lv_aload_n hx hb dL_law_815 rfl (lv_at hl 1 rfl) ?_
  refine lv_aload_n hx hb dL_law_816 rfl (lv_at hl 0 rfl) ?_
  refine lv_iload_n hx hb dL_law_817 rfl (lv_at hl 3 rfl) ?_
  refine lv_iconst (v := 1) hx hb dL_law_818 (by decide) ?_
  refine lv_iadd hx hb dL_law_819 ?_
  refine lv_eqi (y := 2) (by decide) ?_
  refine va_sld hx hb hX hbl hbA hS (vp_in_nI (n := 2) (by decide) (by decide)) dL_law_820 ?_
  refine lv_eqi (y := xs 2) rfl ?_
  refine lv_aload_n hx hb dL_law_821 rfl (lv_at hl 0 rfl) ?_
  refine lv_iload_n hx hb dL_law_822 rfl (lv_at hl 3 rfl) ?_
  refine lv_iconst (v := 2) hx hb dL_law_823 (by decide) ?_
  refine lv_iadd hx hb dL_law_824 ?_
  refine lv_eqi (y := 3) (by decide) ?_
  refine va_sld hx hb hX hbl hbA hS (vp_in_nI (n := 3) (by decide) (by decide)) dL_law_825 ?_
  refine lv_eqi (y := xs 3) rfl ?_
  have hPc := hP.sub (ws' := [(hh, .inr (10, [.int (nI jn), .ref (uh 0), .ref (uh 1), .ref (uh 2), .ref (uh 3), .ref (uh 4), .ref (uh 5), .ref (uh 6)])), (uh 1, .inr (0, [.ref (uh 8), .ref (uh 9), .int 0, .int 0])), (uh 9, .inl (cM, 61, .inr (.inr (.inr (.inr (fun _ => none))))))]) [0, 1, 2] rfl
  have hDc := hD.sub (ws' := [(hh, .inr (10, [.int (nI jn), .ref (uh 0), .ref (uh 1), .ref (uh 2), .ref (uh 3), .ref (uh 4), .ref (uh 5), .ref (uh 6)])), (uh 1, .inr (0, [.ref (uh 8), .ref (uh 9), .int 0, .int 0])), (uh 9, .inl (cM, 61, .inr (.inr (.inr (.inr (fun _ => none))))))]) [0, 1, 2] (by decide) rfl
  refine ro (va_runV (As := [.int (xs 2), .int (xs 3)]) (rest := []) ⟨hx, hb, hml, hown, hts⟩ (c_whole l D cI cR cM _ (xs 2) (xs 3) hh (.int (nI jn)) (.ref (uh 0)) (.ref (uh 2)) (.ref (uh 3)) (.ref (uh 4)) (.ref (uh 5)) (.ref (uh 6)) (uh 1) (uh 8) (uh 9)) (cwV 2 hts gL_law_X10_whole rfl rfl rfl (by decide +kernel) ⟨Nat.le_of_ble_eq_true rfl, Nat.le_of_ble_eq_true rfl⟩) (pre_V hK hPc hDc 0 10 rfl rfl) rfl rfl hl.1 rfl (lv_room (Nat.le_of_ble_eq_true rfl)) dL_law_826 ⟨Nat.le_of_ble_eq_true rfl, Nat.le_of_ble_eq_true rfl⟩) hS hA hP (fun H locs hP hS => ?_)
  refine lv_aload_n hx hb dL_law_829 rfl (lv_at hl 2 rfl) ?_
  refine lv_aload_n hx hb dL_law_830 rfl (lv_at hl 0 rfl) ?_
  refine lv_iload_n hx hb dL_law_831 rfl (lv_at hl 3 rfl) ?_
  refine lv_iconst (v := 1) hx hb dL_law_832 (by decide) ?_
  refine lv_iadd hx hb dL_law_833 ?_
  refine lv_eqi (y := 2) (by decide) ?_
  refine va_sld hx hb hX hbl hbA hS (vp_in_nI (n := 2) (by decide) (by decide)) dL_law_834 ?_
  refine lv_eqi (y := xs 2) rfl ?_
  refine lv_aload_n hx hb dL_law_835 rfl (lv_at hl 0 rfl) ?_
  refine lv_iload_n hx hb dL_law_836 rfl (lv_at hl 3 rfl) ?_
  refine lv_iconst (v := 2) hx hb dL_law_837 (by decide) ?_
  refine lv_iadd hx hb dL_law_838 ?_
  refine lv_eqi (y := 3) (by decide) ?_
  refine va_sld hx hb hX hbl hbA hS (vp_in_nI (n := 3) (by decide) (by decide)) dL_law_839 ?_
  refine lv_eqi (y := xs 3) rfl ?_
  have hPc := hP.sub (ws' := [(mm, .inr (11, [.int (nI jn), .ref (um 0), .ref (um 1), .int 0, .int 0, .ref (um 2), .int 0, .int (-1), .int (-1), .int 0, .int 0, .int 0, .int 0, .int 0, .ref (um 3), .ref (um 4), .ref (um 5), .ref (um 6), .ref (um 7), .int 0, .int 0, .int 0, .ref (um 8), .ref (um 9), .ref (um 10), .int 0, .int 0, .ref (um 11), .int 0, .int 0, .ref (um 12), .ref (um 13), .ref (um 14), .ref (um 15), .ref (um 16), .int 0, .ref (um 17), .ref (um 18), .ref (um 19), .ref (um 20), .ref (um 21), .ref (um 22), .int 0, .int 0, .int 0, .ref (um 23), .ref (um 24)]))]) [3] rfl
  have hDc := hD.sub (ws' := [(mm, .inr (11, [.int (nI jn), .ref (um 0), .ref (um 1), .int 0, .int 0, .ref (um 2), .int 0, .int (-1), .int (-1), .int 0, .int 0, .int 0, .int 0, .int 0, .ref (um 3), .ref (um 4), .ref (um 5), .ref (um 6), .ref (um 7), .int 0, .int 0, .int 0, .ref (um 8), .ref (um 9), .ref (um 10), .int 0, .int 0, .ref (um 11), .int 0, .int 0, .ref (um 12), .ref (um 13), .ref (um 14), .ref (um 15), .ref (um 16), .int 0, .ref (um 17), .ref (um 18), .ref (um 19), .ref (um 20), .ref (um 21), .ref (um 22), .int 0, .int 0, .int 0, .ref (um 23), .ref (um 24)]))]) [3] (by decide) rfl
  refine ro (va_runV (As := [.int (xs 2), .int (xs 3)]) (rest := [.int (-1)]) ⟨hx, hb, hml, hown, hts⟩ (c_mwhole l D cI cR cM _ (xs 2) (xs 3) mm [.int (nI jn), .ref (um 0), .ref (um 1), .int 0, .int 0, .ref (um 2), .int 0, .int (-1), .int (-1), .int 0, .int 0, .int 0, .int 0, .int 0, .ref (um 3), .ref (um 4), .ref (um 5), .ref (um 6), .ref (um 7), .int 0, .int 0, .int 0, .ref (um 8), .ref (um 9), .ref (um 10), .int 0, .int 0, .ref (um 11), .int 0, .int 0, .ref (um 12), .ref (um 13), .ref (um 14), .ref (um 15), .ref (um 16), .int 0, .ref (um 17), .ref (um 18), .ref (um 19), .ref (um 20), .ref (um 21), .ref (um 22), .int 0, .int 0, .int 0, .ref (um 23), .ref (um 24)] rfl) (cwV 2 hts gL_law_X11_whole rfl rfl rfl (by decide +kernel) ⟨Nat.le_of_ble_eq_true rfl, Nat.le_of_ble_eq_true rfl⟩) (pre_V hK hPc hDc 0 11 rfl rfl) rfl rfl hl.1 rfl (lv_room (Nat.le_of_ble_eq_true rfl)) dL_law_840 ⟨Nat.le_of_ble_eq_true rfl, Nat.le_of_ble_eq_true rfl⟩) hS hA hP (fun H locs hP hS => ?_)
  refine lv_icmp_eq (tgt := 947) hx hb dL_law_843 (by decide) (fun c843 => ?_) (fun c843 => absurd (rfl) c843)
  exact law_end C0 _ _ _ hS (lv_sub hl [0, 3] rfl)
set_option maxRecDepth 100000 in
set_option maxHeartbeats 4000000 in
theorem law_c20 {p : Program} {l : Launch} {e : Env} {s : State} {m : MethodId} {below : List Frame} {meth : Method} {c : Code} {b : Nat} {xs : Nat → Int32} {A : Nat → Prop} {D : va_G} {cI cR cM : ClassId} {jn : Nat} {hh mm : Nat} {uh um : Nat → Nat} {H : Heap} {locs : List Loc} {ls : Array Slot} (C : LC p s m meth c b 7 xs A D cI cR cM) (hP : va_P D vwCl [(hh, .inr (10, [.int (nI jn), .ref (uh 0), .ref (uh 1), .ref (uh 2), .ref (uh 3), .ref (uh 4), .ref (uh 5), .ref (uh 6)])), (uh 1, .inr (0, [.ref (uh 8), .ref (uh 9), .int 0, .int 0])), (uh 8, .inl (cR, 488, .inr (.inr (.inr (.inr (fun _ => none)))))), (mm, .inr (11, [.int (nI jn), .ref (um 0), .ref (um 1), .int 0, .int 0, .ref (um 2), .int 0, .int (-1), .int (-1), .int 0, .int 0, .int 0, .int 0, .int 0, .ref (um 3), .ref (um 4), .ref (um 5), .ref (um 6), .ref (um 7), .int 0, .int 0, .int 0, .ref (um 8), .ref (um 9), .ref (um 10), .int 0, .int 0, .ref (um 11), .int 0, .int 0, .ref (um 12), .ref (um 13), .ref (um 14), .ref (um 15), .ref (um 16), .int 0, .ref (um 17), .ref (um 18), .ref (um 19), .ref (um 20), .ref (um 21), .ref (um 22), .int 0, .int 0, .int 0, .ref (um 23), .ref (um 24)]))] H) (hD : va_D A [(hh, .inr (10, [.int (nI jn), .ref (uh 0), .ref (uh 1), .ref (uh 2), .ref (uh 3), .ref (uh 4), .ref (uh 5), .ref (uh 6)])), (uh 1, .inr (0, [.ref (uh 8), .ref (uh 9), .int 0, .int 0])), (uh 8, .inl (cR, 488, .inr (.inr (.inr (.inr (fun _ => none)))))), (mm, .inr (11, [.int (nI jn), .ref (um 0), .ref (um 1), .int 0, .int 0, .ref (um 2), .int 0, .int (-1), .int (-1), .int 0, .int 0, .int 0, .int 0, .int 0, .ref (um 3), .ref (um 4), .ref (um 5), .ref (um 6), .ref (um 7), .int 0, .int 0, .int 0, .ref (um 8), .ref (um 9), .ref (um 10), .int 0, .int 0, .ref (um 11), .int 0, .int 0, .ref (um 12), .ref (um 13), .ref (um 14), .ref (um 15), .ref (um 16), .int 0, .ref (um 17), .ref (um 18), .ref (um 19), .ref (um 20), .ref (um 21), .ref (um 22), .int 0, .int 0, .int 0, .ref (um 23), .ref (um 24)]))]) (hS : va_S A s.heap H locs) (hl : lv_has ls 4 [(0, .ref b), (1, .ref hh), (2, .ref mm), (3, .int 1)]) : W p l e room_1 s m #[Value.ref b] below meth c H locs 92 95787 (lw_Z below #[Value.ref b] s) (F0 m 848 ls []) := by
  have C0 := C
  obtain ⟨hx, hb, hr, hml, hown, hts, hX, hbl, hlocks, hK, hA, hA2⟩ := C
  have hbA : ¬ A b := fun q => absurd (hA2 b q) (Nat.not_le.mpr hbl)
  refine lv_aload_n hx hb dL_law_848 rfl (lv_at hl 1 rfl) ?_
  refine lv_aload_n hx hb dL_law_849 rfl (lv_at hl 0 rfl) ?_
  refine lv_iload_n hx hb dL_law_850 rfl (lv_at hl 3 rfl) ?_
  refine lv_iconst (v := 1) hx hb dL_law_851 (by decide) ?_
  refine lv_iadd hx hb dL_law_852 ?_
  refine lv_eqi (y := 2) (by decide) ?_
  refine va_sld hx hb hX hbl hbA hS (vp_in_nI (n := 2) (by decide) (by decide)) dL_law_853 ?_
  refine lv_eqi (y := xs 2) rfl ?_
  refine lv_aload_n hx hb dL_law_854 rfl (lv_at hl 0 rfl) ?_
  refine lv_iload_n hx hb dL_law_855 rfl (lv_at hl 3 rfl) ?_
  refine lv_iconst (v := 2) hx hb dL_law_856 (by decide) ?_
  refine lv_iadd hx hb dL_law_857 ?_
  refine lv_eqi (y := 3) (by decide) ?_
  refine va_sld hx hb hX hbl hbA hS (vp_in_nI (n := 3) (by decide) (by decide)) dL_law_858 ?_
  refine lv_eqi (y := xs 3) rfl ?_
  refine lv_aload_n hx hb dL_law_859 rfl (lv_at hl 0 rfl) ?_
  refine lv_iload_n hx hb dL_law_860 rfl (lv_at hl 3 rfl) ?_
  refine lv_iconst (v := 3) hx hb dL_law_861 (by decide) ?_
  refine lv_iadd hx hb dL_law_862 ?_
  refine lv_eqi (y := 4) (by decide) ?_
  refine va_sld hx hb hX hbl hbA hS (vp_in_nI (n := 4) (by decide) (by decide)) dL_law_863 ?_
  refine lv_eqi (y := xs 4) rfl ?_
  have hPc := hP.sub (ws' := [(hh, .inr (10, [.int (nI jn), .ref (uh 0), .ref (uh 1), .ref (uh 2), .ref (uh 3), .ref (uh 4), .ref (uh 5), .ref (uh 6)])), (uh 1, .inr (0, [.ref (uh 8), .ref (uh 9), .int 0, .int 0])), (uh 8, .inl (cR, 488, .inr (.inr (.inr (.inr (fun _ => none))))))]) [0, 1, 2] rfl
  have hDc := hD.sub (ws' := [(hh, .inr (10, [.int (nI jn), .ref (uh 0), .ref (uh 1), .ref (uh 2), .ref (uh 3), .ref (uh 4), .ref (uh 5), .ref (uh 6)])), (uh 1, .inr (0, [.ref (uh 8), .ref (uh 9), .int 0, .int 0])), (uh 8, .inl (cR, 488, .inr (.inr (.inr (.inr (fun _ => none))))))]) [0, 1, 2] (by decide) rfl
  refine ro (va_runV (As := [.int (xs 2), .int (xs 3), .int (xs 4)]) (rest := []) ⟨hx, hb, hml, hown, hts⟩ (c_drop l D cI cR cM _ (xs 2) (xs 3) (xs 4) hh (.int (nI jn)) (.ref (uh 0)) (.ref (uh 2)) (.ref (uh 3)) (.ref (uh 4)) (.ref (uh 5)) (.ref (uh 6)) (uh 1) (uh 8) (uh 9)) (cwV 3 hts gL_law_X10_drop rfl rfl rfl (by decide +kernel) ⟨Nat.le_of_ble_eq_true rfl, Nat.le_of_ble_eq_true rfl⟩) (pre_V hK hPc hDc 0 10 rfl rfl) rfl rfl hl.1 rfl (lv_room (Nat.le_of_ble_eq_true rfl)) dL_law_864 ⟨Nat.le_of_ble_eq_true rfl, Nat.le_of_ble_eq_true rfl⟩) hS hA hP (fun H locs hP hS => ?_)
  refine lv_aload_n hx hb dL_law_867 rfl (lv_at hl 2 rfl) ?_
  refine lv_aload_n hx hb dL_law_868 rfl (lv_at hl 0 rfl) ?_
  refine lv_iload_n hx hb dL_law_869 rfl (lv_at hl 3 rfl) ?_
  refine lv_iconst (v := 1) hx hb dL_law_870 (by decide) ?_
  refine lv_iadd hx hb dL_law_871 ?_
  refine lv_eqi (y := 2) (by decide) ?_
  refine va_sld hx hb hX hbl hbA hS (vp_in_nI (n := 2) (by decide) (by decide)) dL_law_872 ?_
  refine lv_eqi (y := xs 2) rfl ?_
  refine lv_aload_n hx hb dL_law_873 rfl (lv_at hl 0 rfl) ?_
  refine lv_iload_n hx hb dL_law_874 rfl (lv_at hl 3 rfl) ?_
  refine lv_iconst (v := 2) hx hb dL_law_875 (by decide) ?_
  refine lv_iadd hx hb dL_law_876 ?_
  refine lv_eqi (y := 3) (by decide) ?_
  refine va_sld hx hb hX hbl hbA hS (vp_in_nI (n := 3) (by decide) (by decide)) dL_law_877 ?_
  refine lv_eqi (y := xs 3) rfl ?_
  refine lv_aload_n hx hb dL_law_878 rfl (lv_at hl 0 rfl) ?_
  refine lv_iload_n hx hb dL_law_879 rfl (lv_at hl 3 rfl) ?_
  refine lv_iconst (v := 3) hx hb dL_law_880 (by decide) ?_
  refine lv_iadd hx hb dL_law_881 ?_
  refine lv_eqi (y := 4) (by decide) ?_
  refine va_sld hx hb hX hbl hbA hS (vp_in_nI (n := 4) (by decide) (by decide)) dL_law_882 ?_
  refine lv_eqi (y := xs 4) rfl ?_
  have hPc := hP.sub (ws' := [(mm, .inr (11, [.int (nI jn), .ref (um 0), .ref (um 1), .int 0, .int 0, .ref (um 2), .int 0, .int (-1), .int (-1), .int 0, .int 0, .int 0, .int 0, .int 0, .ref (um 3), .ref (um 4), .ref (um 5), .ref (um 6), .ref (um 7), .int 0, .int 0, .int 0, .ref (um 8), .ref (um 9), .ref (um 10), .int 0, .int 0, .ref (um 11), .int 0, .int 0, .ref (um 12), .ref (um 13), .ref (um 14), .ref (um 15), .ref (um 16), .int 0, .ref (um 17), .ref (um 18), .ref (um 19), .ref (um 20), .ref (um 21), .ref (um 22), .int 0, .int 0, .int 0, .ref (um 23), .ref (um 24)]))]) [3] rfl
  have hDc := hD.sub (ws' := [(mm, .inr (11, [.int (nI jn), .ref (um 0), .ref (um 1), .int 0, .int 0, .ref (um 2), .int 0, .int (-1), .int (-1), .int 0, .int 0, .int 0, .int 0, .int 0, .ref (um 3), .ref (um 4), .ref (um 5), .ref (um 6), .ref (um 7), .int 0, .int 0, .int 0, .ref (um 8), .ref (um 9), .ref (um 10), .int 0, .int 0, .ref (um 11), .int 0, .int 0, .ref (um 12), .ref (um 13), .ref (um 14), .ref (um 15), .ref (um 16), .int 0, .ref (um 17), .ref (um 18), .ref (um 19), .ref (um 20), .ref (um 21), .ref (um 22), .int 0, .int 0, .int 0, .ref (um 23), .ref (um 24)]))]) [3] (by decide) rfl
  refine ro (va_runV (As := [.int (xs 2), .int (xs 3), .int (xs 4)]) (rest := [.int (-1)]) ⟨hx, hb, hml, hown, hts⟩ (c_mdrop l D cI cR cM _ (xs 2) (xs 3) (xs 4) mm [.int (nI jn), .ref (um 0), .ref (um 1), .int 0, .int 0, .ref (um 2), .int 0, .int (-1), .int (-1), .int 0, .int 0, .int 0, .int 0, .int 0, .ref (um 3), .ref (um 4), .ref (um 5), .ref (um 6), .ref (um 7), .int 0, .int 0, .int 0, .ref (um 8), .ref (um 9), .ref (um 10), .int 0, .int 0, .ref (um 11), .int 0, .int 0, .ref (um 12), .ref (um 13), .ref (um 14), .ref (um 15), .ref (um 16), .int 0, .ref (um 17), .ref (um 18), .ref (um 19), .ref (um 20), .ref (um 21), .ref (um 22), .int 0, .int 0, .int 0, .ref (um 23), .ref (um 24)] rfl) (cwV 3 hts gL_law_X11_drop rfl rfl rfl (by decide +kernel) ⟨Nat.le_of_ble_eq_true rfl, Nat.le_of_ble_eq_true rfl⟩) (pre_V hK hPc hDc 0 11 rfl rfl) rfl rfl hl.1 rfl (lv_room (Nat.le_of_ble_eq_true rfl)) dL_law_883 ⟨Nat.le_of_ble_eq_true rfl, Nat.le_of_ble_eq_true rfl⟩) hS hA hP (fun H locs hP hS => ?_)
  refine lv_icmp_eq (tgt := 947) hx hb dL_law_886 (by decide) (fun c886 => ?_) (fun c886 => absurd (rfl) c886)
  exact law_end C0 _ _ _ hS (lv_sub hl [0, 3] rfl)
set_option maxRecDepth 100000 in
set_option maxHeartbeats 4000000 in
theorem law_c21 {p : Program} {l : Launch} {e : Env} {s : State} {m : MethodId} {below : List Frame} {meth : Method} {c : Code} {b : Nat} {xs : Nat → Int32} {A : Nat → Prop} {D : va_G} {cI cR cM : ClassId} {jn : Nat} {hh mm : Nat} {uh um : Nat → Nat} {H : Heap} {locs : List Loc} {ls : Array Slot} (C : LC p s m meth c b 7 xs A D cI cR cM) (hP : va_P D vwCl [(hh, .inr (10, [.int (nI jn), .ref (uh 0), .ref (uh 1), .ref (uh 2), .ref (uh 3), .ref (uh 4), .ref (uh 5), .ref (uh 6)])), (uh 1, .inr (0, [.ref (uh 8), .ref (uh 9), .int 0, .int 0])), (uh 8, .inl (cR, 488, .inr (.inr (.inr (.inr (fun _ => none)))))), (mm, .inr (11, [.int (nI jn), .ref (um 0), .ref (um 1), .int 0, .int 0, .ref (um 2), .int 0, .int (-1), .int (-1), .int 0, .int 0, .int 0, .int 0, .int 0, .ref (um 3), .ref (um 4), .ref (um 5), .ref (um 6), .ref (um 7), .int 0, .int 0, .int 0, .ref (um 8), .ref (um 9), .ref (um 10), .int 0, .int 0, .ref (um 11), .int 0, .int 0, .ref (um 12), .ref (um 13), .ref (um 14), .ref (um 15), .ref (um 16), .int 0, .ref (um 17), .ref (um 18), .ref (um 19), .ref (um 20), .ref (um 21), .ref (um 22), .int 0, .int 0, .int 0, .ref (um 23), .ref (um 24)]))] H) (hD : va_D A [(hh, .inr (10, [.int (nI jn), .ref (uh 0), .ref (uh 1), .ref (uh 2), .ref (uh 3), .ref (uh 4), .ref (uh 5), .ref (uh 6)])), (uh 1, .inr (0, [.ref (uh 8), .ref (uh 9), .int 0, .int 0])), (uh 8, .inl (cR, 488, .inr (.inr (.inr (.inr (fun _ => none)))))), (mm, .inr (11, [.int (nI jn), .ref (um 0), .ref (um 1), .int 0, .int 0, .ref (um 2), .int 0, .int (-1), .int (-1), .int 0, .int 0, .int 0, .int 0, .int 0, .ref (um 3), .ref (um 4), .ref (um 5), .ref (um 6), .ref (um 7), .int 0, .int 0, .int 0, .ref (um 8), .ref (um 9), .ref (um 10), .int 0, .int 0, .ref (um 11), .int 0, .int 0, .ref (um 12), .ref (um 13), .ref (um 14), .ref (um 15), .ref (um 16), .int 0, .ref (um 17), .ref (um 18), .ref (um 19), .ref (um 20), .ref (um 21), .ref (um 22), .int 0, .int 0, .int 0, .ref (um 23), .ref (um 24)]))]) (hS : va_S A s.heap H locs) (hl : lv_has ls 4 [(0, .ref b), (1, .ref hh), (2, .ref mm), (3, .int 1)]) : W p l e room_1 s m #[Value.ref b] below meth c H locs 92 95787 (lw_Z below #[Value.ref b] s) (F0 m 891 ls []) := by
  have C0 := C
  obtain ⟨hx, hb, hr, hml, hown, hts, hX, hbl, hlocks, hK, hA, hA2⟩ := C
  have hbA : ¬ A b := fun q => absurd (hA2 b q) (Nat.not_le.mpr hbl)
  refine lv_aload_n hx hb dL_law_891 rfl (lv_at hl 1 rfl) ?_
  refine lv_aload_n hx hb dL_law_892 rfl (lv_at hl 0 rfl) ?_
  refine lv_iload_n hx hb dL_law_893 rfl (lv_at hl 3 rfl) ?_
  refine lv_iconst (v := 1) hx hb dL_law_894 (by decide) ?_
  refine lv_iadd hx hb dL_law_895 ?_
  refine lv_eqi (y := 2) (by decide) ?_
  refine va_sld hx hb hX hbl hbA hS (vp_in_nI (n := 2) (by decide) (by decide)) dL_law_896 ?_
  refine lv_eqi (y := xs 2) rfl ?_
  refine lv_aload_n hx hb dL_law_897 rfl (lv_at hl 0 rfl) ?_
  refine lv_iload_n hx hb dL_law_898 rfl (lv_at hl 3 rfl) ?_
  refine lv_iconst (v := 2) hx hb dL_law_899 (by decide) ?_
  refine lv_iadd hx hb dL_law_900 ?_
  refine lv_eqi (y := 3) (by decide) ?_
  refine va_sld hx hb hX hbl hbA hS (vp_in_nI (n := 3) (by decide) (by decide)) dL_law_901 ?_
  refine lv_eqi (y := xs 3) rfl ?_
  have hPc := hP.sub (ws' := [(hh, .inr (10, [.int (nI jn), .ref (uh 0), .ref (uh 1), .ref (uh 2), .ref (uh 3), .ref (uh 4), .ref (uh 5), .ref (uh 6)])), (uh 1, .inr (0, [.ref (uh 8), .ref (uh 9), .int 0, .int 0])), (uh 8, .inl (cR, 488, .inr (.inr (.inr (.inr (fun _ => none))))))]) [0, 1, 2] rfl
  have hDc := hD.sub (ws' := [(hh, .inr (10, [.int (nI jn), .ref (uh 0), .ref (uh 1), .ref (uh 2), .ref (uh 3), .ref (uh 4), .ref (uh 5), .ref (uh 6)])), (uh 1, .inr (0, [.ref (uh 8), .ref (uh 9), .int 0, .int 0])), (uh 8, .inl (cR, 488, .inr (.inr (.inr (.inr (fun _ => none))))))]) [0, 1, 2] (by decide) rfl
  refine ro (va_runV (As := [.int (xs 2), .int (xs 3)]) (rest := []) ⟨hx, hb, hml, hown, hts⟩ (c_turned l D cI cR cM _ (xs 2) (xs 3) hh (.int (nI jn)) (.ref (uh 0)) (.ref (uh 2)) (.ref (uh 3)) (.ref (uh 4)) (.ref (uh 5)) (.ref (uh 6)) (uh 1) (uh 8) (uh 9)) (cwV 2 hts gL_law_X10_turned rfl rfl rfl (by decide +kernel) ⟨Nat.le_of_ble_eq_true rfl, Nat.le_of_ble_eq_true rfl⟩) (pre_V hK hPc hDc 0 10 rfl rfl) rfl rfl hl.1 rfl (lv_room (Nat.le_of_ble_eq_true rfl)) dL_law_902 ⟨Nat.le_of_ble_eq_true rfl, Nat.le_of_ble_eq_true rfl⟩) hS hA hP (fun H locs hP hS => ?_)
  refine lv_aload_n hx hb dL_law_905 rfl (lv_at hl 2 rfl) ?_
  refine lv_aload_n hx hb dL_law_906 rfl (lv_at hl 0 rfl) ?_
  refine lv_iload_n hx hb dL_law_907 rfl (lv_at hl 3 rfl) ?_
  refine lv_iconst (v := 1) hx hb dL_law_908 (by decide) ?_
  refine lv_iadd hx hb dL_law_909 ?_
  refine lv_eqi (y := 2) (by decide) ?_
  refine va_sld hx hb hX hbl hbA hS (vp_in_nI (n := 2) (by decide) (by decide)) dL_law_910 ?_
  refine lv_eqi (y := xs 2) rfl ?_
  refine lv_aload_n hx hb dL_law_911 rfl (lv_at hl 0 rfl) ?_
  refine lv_iload_n hx hb dL_law_912 rfl (lv_at hl 3 rfl) ?_
  refine lv_iconst (v := 2) hx hb dL_law_913 (by decide) ?_
  refine lv_iadd hx hb dL_law_914 ?_
  refine lv_eqi (y := 3) (by decide) ?_
  refine va_sld hx hb hX hbl hbA hS (vp_in_nI (n := 3) (by decide) (by decide)) dL_law_915 ?_
  refine lv_eqi (y := xs 3) rfl ?_
  have hPc := hP.sub (ws' := [(mm, .inr (11, [.int (nI jn), .ref (um 0), .ref (um 1), .int 0, .int 0, .ref (um 2), .int 0, .int (-1), .int (-1), .int 0, .int 0, .int 0, .int 0, .int 0, .ref (um 3), .ref (um 4), .ref (um 5), .ref (um 6), .ref (um 7), .int 0, .int 0, .int 0, .ref (um 8), .ref (um 9), .ref (um 10), .int 0, .int 0, .ref (um 11), .int 0, .int 0, .ref (um 12), .ref (um 13), .ref (um 14), .ref (um 15), .ref (um 16), .int 0, .ref (um 17), .ref (um 18), .ref (um 19), .ref (um 20), .ref (um 21), .ref (um 22), .int 0, .int 0, .int 0, .ref (um 23), .ref (um 24)]))]) [3] rfl
  have hDc := hD.sub (ws' := [(mm, .inr (11, [.int (nI jn), .ref (um 0), .ref (um 1), .int 0, .int 0, .ref (um 2), .int 0, .int (-1), .int (-1), .int 0, .int 0, .int 0, .int 0, .int 0, .ref (um 3), .ref (um 4), .ref (um 5), .ref (um 6), .ref (um 7), .int 0, .int 0, .int 0, .ref (um 8), .ref (um 9), .ref (um 10), .int 0, .int 0, .ref (um 11), .int 0, .int 0, .ref (um 12), .ref (um 13), .ref (um 14), .ref (um 15), .ref (um 16), .int 0, .ref (um 17), .ref (um 18), .ref (um 19), .ref (um 20), .ref (um 21), .ref (um 22), .int 0, .int 0, .int 0, .ref (um 23), .ref (um 24)]))]) [3] (by decide) rfl
  refine ro (va_runV (As := [.int (xs 2), .int (xs 3)]) (rest := [.int (-1)]) ⟨hx, hb, hml, hown, hts⟩ (c_mturned l D cI cR cM _ (xs 2) (xs 3) mm [.int (nI jn), .ref (um 0), .ref (um 1), .int 0, .int 0, .ref (um 2), .int 0, .int (-1), .int (-1), .int 0, .int 0, .int 0, .int 0, .int 0, .ref (um 3), .ref (um 4), .ref (um 5), .ref (um 6), .ref (um 7), .int 0, .int 0, .int 0, .ref (um 8), .ref (um 9), .ref (um 10), .int 0, .int 0, .ref (um 11), .int 0, .int 0, .ref (um 12), .ref (um 13), .ref (um 14), .ref (um 15), .ref (um 16), .int 0, .ref (um 17), .ref (um 18), .ref (um 19), .ref (um 20), .ref (um 21), .ref (um 22), .int 0, .int 0, .int 0, .ref (um 23), .ref (um 24)] rfl) (cwV 2 hts gL_law_X11_turned rfl rfl rfl (by decide +kernel) ⟨Nat.le_of_ble_eq_true rfl, Nat.le_of_ble_eq_true rfl⟩) (pre_V hK hPc hDc 0 11 rfl rfl) rfl rfl hl.1 rfl (lv_room (Nat.le_of_ble_eq_true rfl)) dL_law_916 ⟨Nat.le_of_ble_eq_true rfl, Nat.le_of_ble_eq_true rfl⟩) hS hA hP (fun H locs hP hS => ?_)
  refine lv_icmp_eq (tgt := 947) hx hb dL_law_919 (by decide) (fun c919 => ?_) (fun c919 => absurd (rfl) c919)
  exact law_end C0 _ _ _ hS (lv_sub hl [0, 3] rfl)
set_option maxRecDepth 100000 in
set_option maxHeartbeats 4000000 in
theorem law_c22 {p : Program} {l : Launch} {e : Env} {s : State} {m : MethodId} {below : List Frame} {meth : Method} {c : Code} {b : Nat} {xs : Nat → Int32} {A : Nat → Prop} {D : va_G} {cI cR cM : ClassId} {jn : Nat} {hh mm : Nat} {uh um : Nat → Nat} {H : Heap} {locs : List Loc} {ls : Array Slot} (C : LC p s m meth c b 7 xs A D cI cR cM) (hP : va_P D vwCl [(hh, .inr (10, [.int (nI jn), .ref (uh 0), .ref (uh 1), .ref (uh 2), .ref (uh 3), .ref (uh 4), .ref (uh 5), .ref (uh 6)])), (uh 1, .inr (0, [.ref (uh 8), .ref (uh 9), .int 0, .int 0])), (uh 8, .inl (cR, 488, .inr (.inr (.inr (.inr (fun _ => none)))))), (uh 5, .inr (6, [.ref (uh 47), .ref (uh 48), .int 0, .int 0])), (uh 0, .inr (7, [.ref (uh 7), .int 0])), (mm, .inr (11, [.int (nI jn), .ref (um 0), .ref (um 1), .int 0, .int 0, .ref (um 2), .int 0, .int (-1), .int (-1), .int 0, .int 0, .int 0, .int 0, .int 0, .ref (um 3), .ref (um 4), .ref (um 5), .ref (um 6), .ref (um 7), .int 0, .int 0, .int 0, .ref (um 8), .ref (um 9), .ref (um 10), .int 0, .int 0, .ref (um 11), .int 0, .int 0, .ref (um 12), .ref (um 13), .ref (um 14), .ref (um 15), .ref (um 16), .int 0, .ref (um 17), .ref (um 18), .ref (um 19), .ref (um 20), .ref (um 21), .ref (um 22), .int 0, .int 0, .int 0, .ref (um 23), .ref (um 24)]))] H) (hD : va_D A [(hh, .inr (10, [.int (nI jn), .ref (uh 0), .ref (uh 1), .ref (uh 2), .ref (uh 3), .ref (uh 4), .ref (uh 5), .ref (uh 6)])), (uh 1, .inr (0, [.ref (uh 8), .ref (uh 9), .int 0, .int 0])), (uh 8, .inl (cR, 488, .inr (.inr (.inr (.inr (fun _ => none)))))), (uh 5, .inr (6, [.ref (uh 47), .ref (uh 48), .int 0, .int 0])), (uh 0, .inr (7, [.ref (uh 7), .int 0])), (mm, .inr (11, [.int (nI jn), .ref (um 0), .ref (um 1), .int 0, .int 0, .ref (um 2), .int 0, .int (-1), .int (-1), .int 0, .int 0, .int 0, .int 0, .int 0, .ref (um 3), .ref (um 4), .ref (um 5), .ref (um 6), .ref (um 7), .int 0, .int 0, .int 0, .ref (um 8), .ref (um 9), .ref (um 10), .int 0, .int 0, .ref (um 11), .int 0, .int 0, .ref (um 12), .ref (um 13), .ref (um 14), .ref (um 15), .ref (um 16), .int 0, .ref (um 17), .ref (um 18), .ref (um 19), .ref (um 20), .ref (um 21), .ref (um 22), .int 0, .int 0, .int 0, .ref (um 23), .ref (um 24)]))]) (hS : va_S A s.heap H locs) (hl : lv_has ls 4 [(0, .ref b), (1, .ref hh), (2, .ref mm), (3, .int 1)]) : W p l e room_1 s m #[Value.ref b] below meth c H locs 92 95787 (lw_Z below #[Value.ref b] s) (F0 m 924 ls []) := by
  have C0 := C
  obtain ⟨hx, hb, hr, hml, hown, hts, hX, hbl, hlocks, hK, hA, hA2⟩ := C
  have hbA : ¬ A b := fun q => absurd (hA2 b q) (Nat.not_le.mpr hbl)
  refine lv_aload_n hx hb dL_law_924 rfl (lv_at hl 1 rfl) ?_
  refine lv_aload_n hx hb dL_law_925 rfl (lv_at hl 0 rfl) ?_
  refine lv_iload_n hx hb dL_law_926 rfl (lv_at hl 3 rfl) ?_
  refine lv_iconst (v := 1) hx hb dL_law_927 (by decide) ?_
  refine lv_iadd hx hb dL_law_928 ?_
  refine lv_eqi (y := 2) (by decide) ?_
  refine va_sld hx hb hX hbl hbA hS (vp_in_nI (n := 2) (by decide) (by decide)) dL_law_929 ?_
  refine lv_eqi (y := xs 2) rfl ?_
  have hPc := hP.sub (ws' := [(hh, .inr (10, [.int (nI jn), .ref (uh 0), .ref (uh 1), .ref (uh 2), .ref (uh 3), .ref (uh 4), .ref (uh 5), .ref (uh 6)])), (uh 1, .inr (0, [.ref (uh 8), .ref (uh 9), .int 0, .int 0])), (uh 8, .inl (cR, 488, .inr (.inr (.inr (.inr (fun _ => none)))))), (uh 5, .inr (6, [.ref (uh 47), .ref (uh 48), .int 0, .int 0])), (uh 0, .inr (7, [.ref (uh 7), .int 0]))]) [0, 1, 2, 3, 4] rfl
  have hDc := hD.sub (ws' := [(hh, .inr (10, [.int (nI jn), .ref (uh 0), .ref (uh 1), .ref (uh 2), .ref (uh 3), .ref (uh 4), .ref (uh 5), .ref (uh 6)])), (uh 1, .inr (0, [.ref (uh 8), .ref (uh 9), .int 0, .int 0])), (uh 8, .inl (cR, 488, .inr (.inr (.inr (.inr (fun _ => none)))))), (uh 5, .inr (6, [.ref (uh 47), .ref (uh 48), .int 0, .int 0])), (uh 0, .inr (7, [.ref (uh 7), .int 0]))]) [0, 1, 2, 3, 4] (by decide) rfl
  refine ro (va_runV (As := [.int (xs 2)]) (rest := []) ⟨hx, hb, hml, hown, hts⟩ (c_about l D cI cR cM _ (xs 2) hh (.ref (uh 2)) (.ref (uh 3)) (.ref (uh 4)) (.ref (uh 6)) (uh 1) (uh 8) (uh 9) (uh 5) (.ref (uh 47)) (.ref (uh 48)) (.int 0) (uh 0) (uh 7)) (cwV 1 hts gL_law_X10_about rfl rfl rfl (by decide +kernel) ⟨Nat.le_of_ble_eq_true rfl, Nat.le_of_ble_eq_true rfl⟩) (pre_V hK hPc hDc 0 10 rfl rfl) rfl rfl hl.1 rfl (lv_room (Nat.le_of_ble_eq_true rfl)) dL_law_930 ⟨Nat.le_of_ble_eq_true rfl, Nat.le_of_ble_eq_true rfl⟩) hS hA hP (fun H locs hP hS => ?_)
  refine lv_aload_n hx hb dL_law_933 rfl (lv_at hl 2 rfl) ?_
  refine lv_aload_n hx hb dL_law_934 rfl (lv_at hl 0 rfl) ?_
  refine lv_iload_n hx hb dL_law_935 rfl (lv_at hl 3 rfl) ?_
  refine lv_iconst (v := 1) hx hb dL_law_936 (by decide) ?_
  refine lv_iadd hx hb dL_law_937 ?_
  refine lv_eqi (y := 2) (by decide) ?_
  refine va_sld hx hb hX hbl hbA hS (vp_in_nI (n := 2) (by decide) (by decide)) dL_law_938 ?_
  refine lv_eqi (y := xs 2) rfl ?_
  have hPc := hP.sub (ws' := [(mm, .inr (11, [.int (nI jn), .ref (um 0), .ref (um 1), .int 0, .int 0, .ref (um 2), .int 0, .int (-1), .int (-1), .int 0, .int 0, .int 0, .int 0, .int 0, .ref (um 3), .ref (um 4), .ref (um 5), .ref (um 6), .ref (um 7), .int 0, .int 0, .int 0, .ref (um 8), .ref (um 9), .ref (um 10), .int 0, .int 0, .ref (um 11), .int 0, .int 0, .ref (um 12), .ref (um 13), .ref (um 14), .ref (um 15), .ref (um 16), .int 0, .ref (um 17), .ref (um 18), .ref (um 19), .ref (um 20), .ref (um 21), .ref (um 22), .int 0, .int 0, .int 0, .ref (um 23), .ref (um 24)]))]) [5] rfl
  have hDc := hD.sub (ws' := [(mm, .inr (11, [.int (nI jn), .ref (um 0), .ref (um 1), .int 0, .int 0, .ref (um 2), .int 0, .int (-1), .int (-1), .int 0, .int 0, .int 0, .int 0, .int 0, .ref (um 3), .ref (um 4), .ref (um 5), .ref (um 6), .ref (um 7), .int 0, .int 0, .int 0, .ref (um 8), .ref (um 9), .ref (um 10), .int 0, .int 0, .ref (um 11), .int 0, .int 0, .ref (um 12), .ref (um 13), .ref (um 14), .ref (um 15), .ref (um 16), .int 0, .ref (um 17), .ref (um 18), .ref (um 19), .ref (um 20), .ref (um 21), .ref (um 22), .int 0, .int 0, .int 0, .ref (um 23), .ref (um 24)]))]) [5] (by decide) rfl
  refine ro (va_runV (As := [.int (xs 2)]) (rest := [.int (abI jn (xs 2))]) ⟨hx, hb, hml, hown, hts⟩ (c_mabout l D cI cR cM _ (xs 2) mm [.int (nI jn), .ref (um 0), .ref (um 1), .int 0, .int 0, .ref (um 2), .int 0, .int (-1), .int (-1), .int 0, .int 0, .int 0, .int 0, .int 0, .ref (um 3), .ref (um 4), .ref (um 5), .ref (um 6), .ref (um 7), .int 0, .int 0, .int 0, .ref (um 8), .ref (um 9), .ref (um 10), .int 0, .int 0, .ref (um 11), .int 0, .int 0, .ref (um 12), .ref (um 13), .ref (um 14), .ref (um 15), .ref (um 16), .int 0, .ref (um 17), .ref (um 18), .ref (um 19), .ref (um 20), .ref (um 21), .ref (um 22), .int 0, .int 0, .int 0, .ref (um 23), .ref (um 24)] rfl rfl rfl rfl rfl) (cwV 1 hts gL_law_X11_about rfl rfl rfl (by decide +kernel) ⟨Nat.le_of_ble_eq_true rfl, Nat.le_of_ble_eq_true rfl⟩) (pre_V hK hPc hDc 0 11 rfl rfl) rfl rfl hl.1 rfl (lv_room (Nat.le_of_ble_eq_true rfl)) dL_law_939 ⟨Nat.le_of_ble_eq_true rfl, Nat.le_of_ble_eq_true rfl⟩) hS hA hP (fun H locs hP hS => ?_)
  refine lv_icmp_eq (tgt := 947) hx hb dL_law_942 (by decide) (fun c942 => ?_) (fun c942 => absurd (rfl) c942)
  exact law_end C0 _ _ _ hS (lv_sub hl [0, 3] rfl)
