theorem TK_14 {g : Nat → Nat} {cI : ClassId} {f f1 : Nat → va_E} {cnt nx kd vl st ls nx2 st2 ls2 : Int32} (h : TK g cI f) (e0 : f (g 14) = .inr (8, [.ref (g 11), .ref (g 31), .ref (g 32), .ref (g 33), .int cnt, .int nx, .int kd, .int vl, .int st, .int ls])) (e1 : f1 (g 14) = .inr (8, [.ref (g 11), .ref (g 31), .ref (g 32), .ref (g 33), .int cnt, .int nx2, .int kd, .int vl, .int st2, .int ls2])) (h31 : f1 (g 31) = f (g 31)) (h32 : f1 (g 32) = f (g 32)) : TK g cI f1 := by
  intro a1 a2 a3 a4 a5 a6 b1 b2 q1 q2 q3
  rw [e1] at q1
  rw [h31] at q2
  rw [h32] at q3
  cases q1
  exact h _ _ _ _ _ _ b1 b2 e0 q2 q3
theorem dX4_readTape_0 : decode cX4_readTape 0 = .ok (.aload_n 0, 1) := by decide +kernel
theorem dX4_readTape_1 : decode cX4_readTape 1 = .ok (.iconst 0, 1) := by decide +kernel
theorem dX4_readTape_2 : decode cX4_readTape 2 = .ok (.putfield 31, 3) := by decide +kernel
theorem dX4_readTape_5 : decode cX4_readTape 5 = .ok (.aload_n 0, 1) := by decide +kernel
theorem dX4_readTape_6 : decode cX4_readTape 6 = .ok (.iconst (-1), 1) := by decide +kernel
theorem dX4_readTape_7 : decode cX4_readTape 7 = .ok (.putfield 35, 3) := by decide +kernel
theorem dX4_readTape_10 : decode cX4_readTape 10 = .ok (.aload_n 0, 1) := by decide +kernel
theorem dX4_readTape_11 : decode cX4_readTape 11 = .ok (.getfield 27, 3) := by decide +kernel
theorem dX4_readTape_14 : decode cX4_readTape 14 = .ok (.iconst 0, 1) := by decide +kernel
theorem dX4_readTape_15 : decode cX4_readTape 15 = .ok (.putfield 59, 3) := by decide +kernel
theorem dX4_readTape_18 : decode cX4_readTape 18 = .ok (.iconst 0, 1) := by decide +kernel
theorem dX4_readTape_19 : decode cX4_readTape 19 = .ok (.istore_n 1, 1) := by decide +kernel
theorem dX4_readTape_20 : decode cX4_readTape 20 = .ok (.iload_n 1, 1) := by decide +kernel
theorem dX4_readTape_21 : decode cX4_readTape 21 = .ok (.aload_n 0, 1) := by decide +kernel
theorem dX4_readTape_22 : decode cX4_readTape 22 = .ok (.getfield 21, 3) := by decide +kernel
theorem dX4_readTape_25 : decode cX4_readTape 25 = .ok (.arraylength, 1) := by decide +kernel
theorem dX4_readTape_26 : decode cX4_readTape 26 = .ok (.if_icmp .ge 19, 3) := by decide +kernel
theorem dX4_readTape_29 : decode cX4_readTape 29 = .ok (.aload_n 0, 1) := by decide +kernel
theorem dX4_readTape_30 : decode cX4_readTape 30 = .ok (.getfield 21, 3) := by decide +kernel
theorem dX4_readTape_33 : decode cX4_readTape 33 = .ok (.iload_n 1, 1) := by decide +kernel
theorem dX4_readTape_34 : decode cX4_readTape 34 = .ok (.aaload, 1) := by decide +kernel
theorem dX4_readTape_35 : decode cX4_readTape 35 = .ok (.iconst 0, 1) := by decide +kernel
theorem dX4_readTape_36 : decode cX4_readTape 36 = .ok (.putfield 62, 3) := by decide +kernel
theorem dX4_readTape_39 : decode cX4_readTape 39 = .ok (.iinc 1 1, 3) := by decide +kernel
theorem dX4_readTape_42 : decode cX4_readTape 42 = .ok (.goto (-22), 3) := by decide +kernel
theorem dX4_readTape_45 : decode cX4_readTape 45 = .ok (.aload_n 0, 1) := by decide +kernel
theorem dX4_readTape_46 : decode cX4_readTape 46 = .ok (.getfield 41, 3) := by decide +kernel
theorem dX4_readTape_49 : decode cX4_readTape 49 = .ok (.invokevirtual 65, 3) := by decide +kernel
theorem dX4_readTape_52 : decode cX4_readTape 52 = .ok (.iconst 0, 1) := by decide +kernel
theorem dX4_readTape_53 : decode cX4_readTape 53 = .ok (.istore_n 1, 1) := by decide +kernel
theorem dX4_readTape_54 : decode cX4_readTape 54 = .ok (.iload_n 1, 1) := by decide +kernel
theorem dX4_readTape_55 : decode cX4_readTape 55 = .ok (.sipush 300, 3) := by decide +kernel
theorem dX4_readTape_58 : decode cX4_readTape 58 = .ok (.if_icmp .gt 67, 3) := by decide +kernel
theorem dX4_readTape_61 : decode cX4_readTape 61 = .ok (.aload_n 0, 1) := by decide +kernel
theorem dX4_readTape_62 : decode cX4_readTape 62 = .ok (.getfield 41, 3) := by decide +kernel
theorem dX4_readTape_65 : decode cX4_readTape 65 = .ok (.getfield 70, 3) := by decide +kernel
theorem dX4_readTape_68 : decode cX4_readTape 68 = .ok (.ifCond .eq 57, 3) := by decide +kernel
theorem dX4_readTape_71 : decode cX4_readTape 71 = .ok (.aload_n 0, 1) := by decide +kernel
theorem dX4_readTape_72 : decode cX4_readTape 72 = .ok (.getfield 41, 3) := by decide +kernel
theorem dX4_readTape_75 : decode cX4_readTape 75 = .ok (.getfield 70, 3) := by decide +kernel
theorem dX4_readTape_78 : decode cX4_readTape 78 = .ok (.iconst 4, 1) := by decide +kernel
theorem dX4_readTape_79 : decode cX4_readTape 79 = .ok (.if_icmp .ne 10, 3) := by decide +kernel
theorem dX4_readTape_82 : decode cX4_readTape 82 = .ok (.aload_n 0, 1) := by decide +kernel
theorem dX4_readTape_83 : decode cX4_readTape 83 = .ok (.invokevirtual 73, 3) := by decide +kernel
theorem dX4_readTape_86 : decode cX4_readTape 86 = .ok (.goto 26, 3) := by decide +kernel
theorem dX4_readTape_89 : decode cX4_readTape 89 = .ok (.aload_n 0, 1) := by decide +kernel
theorem dX4_readTape_90 : decode cX4_readTape 90 = .ok (.getfield 41, 3) := by decide +kernel
theorem dX4_readTape_93 : decode cX4_readTape 93 = .ok (.getfield 70, 3) := by decide +kernel
theorem dX4_readTape_96 : decode cX4_readTape 96 = .ok (.iconst 5, 1) := by decide +kernel
theorem dX4_readTape_97 : decode cX4_readTape 97 = .ok (.if_icmp .ne 10, 3) := by decide +kernel
theorem dX4_readTape_100 : decode cX4_readTape 100 = .ok (.aload_n 0, 1) := by decide +kernel
theorem dX4_readTape_101 : decode cX4_readTape 101 = .ok (.invokevirtual 77, 3) := by decide +kernel
theorem dX4_readTape_104 : decode cX4_readTape 104 = .ok (.goto 8, 3) := by decide +kernel
theorem dX4_readTape_107 : decode cX4_readTape 107 = .ok (.aload_n 0, 1) := by decide +kernel
theorem dX4_readTape_108 : decode cX4_readTape 108 = .ok (.iconst 1, 1) := by decide +kernel
theorem dX4_readTape_109 : decode cX4_readTape 109 = .ok (.invokevirtual 80, 3) := by decide +kernel
theorem dX4_readTape_112 : decode cX4_readTape 112 = .ok (.istore_n 2, 1) := by decide +kernel
theorem dX4_readTape_113 : decode cX4_readTape 113 = .ok (.iload_n 2, 1) := by decide +kernel
theorem dX4_readTape_114 : decode cX4_readTape 114 = .ok (.ifCond .ne 5, 3) := by decide +kernel
theorem dX4_readTape_117 : decode cX4_readTape 117 = .ok (.iconst 0, 1) := by decide +kernel
theorem dX4_readTape_118 : decode cX4_readTape 118 = .ok (.ireturn, 1) := by decide +kernel
theorem dX4_readTape_119 : decode cX4_readTape 119 = .ok (.iinc 1 1, 3) := by decide +kernel
theorem dX4_readTape_122 : decode cX4_readTape 122 = .ok (.goto (-68), 3) := by decide +kernel
theorem dX4_readTape_125 : decode cX4_readTape 125 = .ok (.iconst 1, 1) := by decide +kernel
theorem dX4_readTape_126 : decode cX4_readTape 126 = .ok (.ireturn, 1) := by decide +kernel
theorem dX8_begin_0 : decode cX8_begin 0 = .ok (.aload_n 0, 1) := by decide +kernel
theorem dX8_begin_1 : decode cX8_begin 1 = .ok (.iconst 0, 1) := by decide +kernel
theorem dX8_begin_2 : decode cX8_begin 2 = .ok (.putfield 25, 3) := by decide +kernel
theorem dX8_begin_5 : decode cX8_begin 5 = .ok (.iconst 0, 1) := by decide +kernel
theorem dX8_begin_6 : decode cX8_begin 6 = .ok (.istore_n 1, 1) := by decide +kernel
theorem dX8_begin_7 : decode cX8_begin 7 = .ok (.iload_n 1, 1) := by decide +kernel
theorem dX8_begin_8 : decode cX8_begin 8 = .ok (.aload_n 0, 1) := by decide +kernel
theorem dX8_begin_9 : decode cX8_begin 9 = .ok (.getfield 21, 3) := by decide +kernel
theorem dX8_begin_12 : decode cX8_begin 12 = .ok (.getfield 29, 3) := by decide +kernel
theorem dX8_begin_15 : decode cX8_begin 15 = .ok (.if_icmp .ge 101, 3) := by decide +kernel
theorem dX8_begin_18 : decode cX8_begin 18 = .ok (.aload_n 0, 1) := by decide +kernel
theorem dX8_begin_19 : decode cX8_begin 19 = .ok (.getfield 21, 3) := by decide +kernel
theorem dX8_begin_22 : decode cX8_begin 22 = .ok (.iload_n 1, 1) := by decide +kernel
theorem dX8_begin_23 : decode cX8_begin 23 = .ok (.invokevirtual 34, 3) := by decide +kernel
theorem dX8_begin_26 : decode cX8_begin 26 = .ok (.istore_n 2, 1) := by decide +kernel
theorem dX8_begin_27 : decode cX8_begin 27 = .ok (.iload_n 1, 1) := by decide +kernel
theorem dX8_begin_28 : decode cX8_begin 28 = .ok (.istore_n 3, 1) := by decide +kernel
theorem dX8_begin_29 : decode cX8_begin 29 = .ok (.iinc 1 1, 3) := by decide +kernel
theorem dX8_begin_32 : decode cX8_begin 32 = .ok (.iload_n 2, 1) := by decide +kernel
theorem dX8_begin_33 : decode cX8_begin 33 = .ok (.invokestatic 38, 3) := by decide +kernel
theorem dX8_begin_36 : decode cX8_begin 36 = .ok (.ifCond .eq 52, 3) := by decide +kernel
theorem dX8_begin_39 : decode cX8_begin 39 = .ok (.iload_n 1, 1) := by decide +kernel
theorem dX8_begin_40 : decode cX8_begin 40 = .ok (.aload_n 0, 1) := by decide +kernel
theorem dX8_begin_41 : decode cX8_begin 41 = .ok (.getfield 21, 3) := by decide +kernel
theorem dX8_begin_44 : decode cX8_begin 44 = .ok (.getfield 29, 3) := by decide +kernel
theorem dX8_begin_47 : decode cX8_begin 47 = .ok (.if_icmp .ge 23, 3) := by decide +kernel
theorem dX8_begin_50 : decode cX8_begin 50 = .ok (.aload_n 0, 1) := by decide +kernel
theorem dX8_begin_51 : decode cX8_begin 51 = .ok (.getfield 21, 3) := by decide +kernel
theorem dX8_begin_54 : decode cX8_begin 54 = .ok (.iload_n 1, 1) := by decide +kernel
theorem dX8_begin_55 : decode cX8_begin 55 = .ok (.invokevirtual 34, 3) := by decide +kernel
theorem dX8_begin_58 : decode cX8_begin 58 = .ok (.invokestatic 38, 3) := by decide +kernel
theorem dX8_begin_61 : decode cX8_begin 61 = .ok (.ifCond .eq 9, 3) := by decide +kernel
theorem dX8_begin_64 : decode cX8_begin 64 = .ok (.iinc 1 1, 3) := by decide +kernel
theorem dX8_begin_67 : decode cX8_begin 67 = .ok (.goto (-28), 3) := by decide +kernel
theorem dX8_begin_70 : decode cX8_begin 70 = .ok (.aload_n 0, 1) := by decide +kernel
theorem dX8_begin_71 : decode cX8_begin 71 = .ok (.aload_n 0, 1) := by decide +kernel
theorem dX8_begin_72 : decode cX8_begin 72 = .ok (.iload_n 3, 1) := by decide +kernel
theorem dX8_begin_73 : decode cX8_begin 73 = .ok (.iload_n 1, 1) := by decide +kernel
theorem dX8_begin_74 : decode cX8_begin 74 = .ok (.invokevirtual 42, 3) := by decide +kernel
theorem dX8_begin_77 : decode cX8_begin 77 = .ok (.iload_n 2, 1) := by decide +kernel
theorem dX8_begin_78 : decode cX8_begin 78 = .ok (.bipush 65, 2) := by decide +kernel
theorem dX8_begin_80 : decode cX8_begin 80 = .ok (.isub, 1) := by decide +kernel
theorem dX8_begin_81 : decode cX8_begin 81 = .ok (.iload_n 3, 1) := by decide +kernel
theorem dX8_begin_82 : decode cX8_begin 82 = .ok (.invokevirtual 46, 3) := by decide +kernel
theorem dX8_begin_85 : decode cX8_begin 85 = .ok (.goto 28, 3) := by decide +kernel
theorem dX8_begin_88 : decode cX8_begin 88 = .ok (.iload_n 2, 1) := by decide +kernel
theorem dX8_begin_89 : decode cX8_begin 89 = .ok (.bipush 32, 2) := by decide +kernel
theorem dX8_begin_91 : decode cX8_begin 91 = .ok (.if_icmp .eq 22, 3) := by decide +kernel
theorem dX8_begin_94 : decode cX8_begin 94 = .ok (.iload_n 2, 1) := by decide +kernel
theorem dX8_begin_95 : decode cX8_begin 95 = .ok (.bipush 10, 2) := by decide +kernel
theorem dX8_begin_97 : decode cX8_begin 97 = .ok (.if_icmp .eq 16, 3) := by decide +kernel
theorem dX8_begin_100 : decode cX8_begin 100 = .ok (.aload_n 0, 1) := by decide +kernel
theorem dX8_begin_101 : decode cX8_begin 101 = .ok (.iload_n 2, 1) := by decide +kernel
theorem dX8_begin_102 : decode cX8_begin 102 = .ok (.invokestatic 50, 3) := by decide +kernel
theorem dX8_begin_105 : decode cX8_begin 105 = .ok (.iload_n 2, 1) := by decide +kernel
theorem dX8_begin_106 : decode cX8_begin 106 = .ok (.bipush 48, 2) := by decide +kernel
theorem dX8_begin_108 : decode cX8_begin 108 = .ok (.isub, 1) := by decide +kernel
theorem dX8_begin_109 : decode cX8_begin 109 = .ok (.iload_n 3, 1) := by decide +kernel
theorem dX8_begin_110 : decode cX8_begin 110 = .ok (.invokevirtual 46, 3) := by decide +kernel
theorem dX8_begin_113 : decode cX8_begin 113 = .ok (.goto (-106), 3) := by decide +kernel
theorem dX8_begin_116 : decode cX8_begin 116 = .ok (.aload_n 0, 1) := by decide +kernel
theorem dX8_begin_117 : decode cX8_begin 117 = .ok (.iconst 0, 1) := by decide +kernel
theorem dX8_begin_118 : decode cX8_begin 118 = .ok (.iconst 0, 1) := by decide +kernel
theorem dX8_begin_119 : decode cX8_begin 119 = .ok (.aload_n 0, 1) := by decide +kernel
theorem dX8_begin_120 : decode cX8_begin 120 = .ok (.getfield 21, 3) := by decide +kernel
theorem dX8_begin_123 : decode cX8_begin 123 = .ok (.getfield 29, 3) := by decide +kernel
theorem dX8_begin_126 : decode cX8_begin 126 = .ok (.invokevirtual 46, 3) := by decide +kernel
theorem dX8_begin_129 : decode cX8_begin 129 = .ok (.aload_n 0, 1) := by decide +kernel
theorem dX8_begin_130 : decode cX8_begin 130 = .ok (.iconst 0, 1) := by decide +kernel
theorem dX8_begin_131 : decode cX8_begin 131 = .ok (.putfield 53, 3) := by decide +kernel
theorem dX8_begin_134 : decode cX8_begin 134 = .ok (.aload_n 0, 1) := by decide +kernel
theorem dX8_begin_135 : decode cX8_begin 135 = .ok (.iconst 0, 1) := by decide +kernel
theorem dX8_begin_136 : decode cX8_begin 136 = .ok (.putfield 56, 3) := by decide +kernel
theorem dX8_begin_139 : decode cX8_begin 139 = .ok (.aload_n 0, 1) := by decide +kernel
theorem dX8_begin_140 : decode cX8_begin 140 = .ok (.invokevirtual 59, 3) := by decide +kernel
theorem dX8_begin_143 : decode cX8_begin 143 = .ok (.return_, 1) := by decide +kernel
theorem dX10_text_0 : decode cX10_text 0 = .ok (.aload_n 0, 1) := by decide +kernel
theorem dX10_text_1 : decode cX10_text 1 = .ok (.getfield 32, 3) := by decide +kernel
theorem dX10_text_4 : decode cX10_text 4 = .ok (.invokevirtual 89, 3) := by decide +kernel
theorem dX10_text_7 : decode cX10_text 7 = .ok (.ifCond .eq 5, 3) := by decide +kernel
theorem dX10_text_10 : decode cX10_text 10 = .ok (.iconst (-1), 1) := by decide +kernel
theorem dX10_text_11 : decode cX10_text 11 = .ok (.ireturn, 1) := by decide +kernel
theorem dX10_text_12 : decode cX10_text 12 = .ok (.aload_n 0, 1) := by decide +kernel
theorem dX10_text_13 : decode cX10_text 13 = .ok (.getfield 46, 3) := by decide +kernel
theorem dX10_text_16 : decode cX10_text 16 = .ok (.invokevirtual 93, 3) := by decide +kernel
theorem dX10_text_19 : decode cX10_text 19 = .ok (.istore_n 1, 1) := by decide +kernel
theorem dX10_text_20 : decode cX10_text 20 = .ok (.aload_n 0, 1) := by decide +kernel
theorem dX10_text_21 : decode cX10_text 21 = .ok (.getfield 25, 3) := by decide +kernel
theorem dX10_text_24 : decode cX10_text 24 = .ok (.iconst 0, 1) := by decide +kernel
theorem dX10_text_25 : decode cX10_text 25 = .ok (.putfield 86, 3) := by decide +kernel
theorem dX10_text_28 : decode cX10_text 28 = .ok (.iload_n 1, 1) := by decide +kernel
theorem dX10_text_29 : decode cX10_text 29 = .ok (.ifCond .ne 5, 3) := by decide +kernel
theorem dX10_text_32 : decode cX10_text 32 = .ok (.iconst (-1), 1) := by decide +kernel
theorem dX10_text_33 : decode cX10_text 33 = .ok (.ireturn, 1) := by decide +kernel
theorem dX10_text_34 : decode cX10_text 34 = .ok (.aload_n 0, 1) := by decide +kernel
theorem dX10_text_35 : decode cX10_text 35 = .ok (.getfield 46, 3) := by decide +kernel
theorem dX10_text_38 : decode cX10_text 38 = .ok (.invokevirtual 96, 3) := by decide +kernel
theorem dX10_text_41 : decode cX10_text 41 = .ok (.aload_n 0, 1) := by decide +kernel
theorem dX10_text_42 : decode cX10_text 42 = .ok (.getfield 32, 3) := by decide +kernel
theorem dX10_text_45 : decode cX10_text 45 = .ok (.getfield 99, 3) := by decide +kernel
theorem dX10_text_48 : decode cX10_text 48 = .ok (.ireturn, 1) := by decide +kernel
set_option maxRecDepth 100000 in
set_option maxHeartbeats 4000000 in
theorem ggX4_readTape_X8_begin : GoodIn wsX4_readTape wsX8_begin := goodIn_r _ [10, 11, 12, 13, 14, 15, 16, 17, 18, 19, 20, 21, 22, 23, 9, 24, 25, 26, 27, 28, 29, 30, 31, 32, 33, 34, 35, 36, 37, 38, 39, 40, 41, 42, 43, 44, 45, 46, 47, 48, 49, 50, 51, 52, 53, 54, 55, 56, 57, 58, 59, 60, 61, 62, 63, 64, 65, 66, 67, 68, 69, 70, 71, 72, 73, 74, 75, 76, 77, 78, 79, 80, 81, 82, 83, 84, 85, 86, 87, 88, 89, 90, 91, 92, 93, 94, 95, 96, 97, 98, 99, 100, 101, 102, 103, 104, 105, 106, 107, 108, 109, 110, 111, 112, 113, 114, 115, 116, 117, 118, 119, 120, 121, 122, 123, 124, 125, 126, 127, 128, 129, 130, 131, 132, 133, 134, 135, 136, 137, 138, 139, 140, 141, 142, 143, 144, 145, 146, 147, 148, 149, 150, 151, 152, 153, 154, 155, 156, 157, 158, 159, 341, 342, 343, 344, 345, 346, 347, 348, 349, 350, 351, 352] (by with_unfolding_all rfl) (by decide +kernel)
set_option maxRecDepth 20000 in
theorem gX4_readTape_X8_begin : GoodIn wsX4_readTape (wsV RX4 65 RX8 yX8_begin wsX8_begin) := goodIn_app (goodIn_of _ (by decide +kernel)) ggX4_readTape_X8_begin
set_option maxRecDepth 100000 in
set_option maxHeartbeats 4000000 in
theorem ggX4_readTape_X4_readRow : GoodIn wsX4_readTape wsX4_readRow := goodIn_r _ [164, 5, 4, 165, 166, 154, 155, 9, 156, 14, 157, 13, 11, 86, 158, 87, 159, 88, 167, 168, 169, 163, 170, 171, 172, 173, 174, 1, 2, 175, 176, 177, 178, 179, 180, 181, 182, 183, 184, 185, 186, 187, 188, 189, 190, 191, 192, 193, 194, 195, 196, 197, 198, 199, 200, 201, 202, 203, 204, 205, 206, 207, 208, 209, 210, 211, 212, 213, 214, 215, 216, 217, 218, 219, 220, 221, 222, 223, 224, 225, 226, 227, 228, 229, 230, 231, 232, 233, 109, 106, 110, 234, 105, 107, 235, 236, 237, 238, 239, 240, 241, 242, 243, 244, 245, 246, 247, 248, 249, 250, 251, 252, 253, 254, 255, 256, 257, 258, 259, 260, 261, 262, 263, 264, 265, 266, 267, 268, 269, 270, 271, 272, 273, 274, 275, 276, 277, 278, 279, 280, 281, 282, 283, 284, 285, 286, 287, 288, 289, 290, 291, 292, 293, 294, 295, 296, 297, 298, 299, 300, 301, 302, 303, 304, 305, 306, 307, 308, 309, 310, 311, 312, 324, 325, 326, 327, 328, 329, 330, 331, 332, 333, 334, 341, 342, 343, 344, 345, 346, 347, 348, 349, 350, 337, 338, 339, 340, 353, 354, 355, 356] (by with_unfolding_all rfl) (by decide +kernel)
set_option maxRecDepth 20000 in
theorem gX4_readTape_X4_readRow : GoodIn wsX4_readTape (wsV RX4 73 RX4 yX4_readRow wsX4_readRow) := goodIn_app (goodIn_of _ (by decide +kernel)) ggX4_readTape_X4_readRow
set_option maxRecDepth 20000 in
theorem ggX4_readTape_X4_readMarks : GoodIn wsX4_readTape wsX4_readMarks := goodIn_r _ [316, 5, 3, 166, 154, 155, 9, 156, 14, 157, 13, 11, 86, 158, 87, 159, 88, 317, 318, 319, 320, 321, 322, 323, 171, 172, 173, 163, 174, 1, 2, 167, 168, 169, 170, 324, 325, 326, 327, 328, 329, 330, 331, 332, 333, 334, 335, 336, 341, 342, 343, 344, 345, 346, 347, 348, 349, 350] (by decide +kernel) (by decide +kernel)
set_option maxRecDepth 20000 in
theorem gX4_readTape_X4_readMarks : GoodIn wsX4_readTape (wsV RX4 77 RX4 yX4_readMarks wsX4_readMarks) := goodIn_app (goodIn_of _ (by decide +kernel)) ggX4_readTape_X4_readMarks
set_option maxRecDepth 20000 in
theorem ggX4_readTape_X4_fail : GoodIn wsX4_readTape wsX4_fail := goodIn_r _ [174, 1, 5, 2, 324, 325, 326, 327, 328, 329, 330, 331, 332, 333, 334, 341, 342, 343, 344, 345, 346, 347, 348, 349, 350] (by decide +kernel) (by decide +kernel)
set_option maxRecDepth 20000 in
theorem gX4_readTape_X4_fail : GoodIn wsX4_readTape (wsV RX4 80 RX4 yX4_fail wsX4_fail) := goodIn_app (goodIn_of _ (by decide +kernel)) ggX4_readTape_X4_fail
set_option maxRecDepth 20000 in
theorem ggX8_begin_X7_byteAt : GoodIn wsX8_begin wsX7_byteAt := goodIn_r _ [9, 10, 11, 161, 162] (by decide +kernel) (by decide +kernel)
set_option maxRecDepth 20000 in
theorem gX8_begin_X7_byteAt : GoodIn wsX8_begin (wsV RX8 34 RX7 yX7_byteAt wsX7_byteAt) := goodIn_app (goodIn_of _ (by decide +kernel)) ggX8_begin_X7_byteAt
set_option maxRecDepth 20000 in
theorem ggX8_begin_X8_isLetter : GoodIn wsX8_begin wsX8_isLetter := goodIn_r _ [15] (by decide +kernel) (by decide +kernel)
set_option maxRecDepth 20000 in
theorem gX8_begin_X8_isLetter : GoodIn wsX8_begin (va_wsS RX8 38 yX8_isLetter wsX8_isLetter) := goodIn_app (goodIn_of _ (by decide +kernel)) ggX8_begin_X8_isLetter
set_option maxRecDepth 100000 in
set_option maxHeartbeats 4000000 in
theorem ggX8_begin_X8_wordKind : GoodIn wsX8_begin wsX8_wordKind := goodIn_r _ [19, 2, 5, 6, 7, 8, 9, 10, 11, 20, 21, 22, 14, 23, 24, 25, 26, 27, 28, 29, 30, 31, 32, 33, 34, 35, 36, 37, 38, 39, 40, 41, 42, 43, 44, 45, 46, 47, 48, 49, 50, 51, 52, 53, 54, 55, 56, 57, 58, 59, 60, 61, 62, 63, 64, 65, 66, 67, 68, 69, 70, 71, 72, 151, 152, 153, 154, 155, 156, 157, 158, 159, 160, 161, 162] (by with_unfolding_all rfl) (by decide +kernel)
set_option maxRecDepth 20000 in
theorem gX8_begin_X8_wordKind : GoodIn wsX8_begin (wsV RX8 42 RX8 yX8_wordKind wsX8_wordKind) := goodIn_app (goodIn_of _ (by decide +kernel)) ggX8_begin_X8_wordKind
set_option maxRecDepth 20000 in
theorem ggX8_begin_X8_keep : GoodIn wsX8_begin wsX8_keep := goodIn_r _ [76, 1, 77, 78, 79, 151, 152, 153, 154, 155, 156, 157, 158, 159, 160] (by decide +kernel) (by decide +kernel)
set_option maxRecDepth 20000 in
theorem gX8_begin_X8_keep : GoodIn wsX8_begin (wsV RX8 46 RX8 yX8_keep wsX8_keep) := goodIn_app (goodIn_of _ (by decide +kernel)) ggX8_begin_X8_keep
set_option maxRecDepth 100000 in
set_option maxHeartbeats 4000000 in
theorem ggX8_begin_X8_signKind : GoodIn wsX8_begin wsX8_signKind := goodIn_r _ [82, 83, 84, 85, 27, 86, 87, 88, 89, 90, 29, 40, 41, 42, 43, 34, 35, 91, 25, 26, 28, 30, 31, 32, 33, 92, 93, 46, 94, 95, 96, 97, 98, 99, 100, 101, 102, 103, 104, 105, 106, 107, 108, 109, 58, 110, 111, 112, 113, 114, 115, 116, 117, 118, 119, 63, 64, 65, 120, 121, 122, 51, 123, 124, 54, 125, 126, 127, 128, 67, 68, 69, 70, 71, 72, 129, 130, 131, 132, 133, 134, 135, 136, 137, 138, 139, 140, 141, 142, 143] (by with_unfolding_all rfl) (by decide +kernel)
set_option maxRecDepth 20000 in
theorem gX8_begin_X8_signKind : GoodIn wsX8_begin (va_wsS RX8 50 yX8_signKind wsX8_signKind) := goodIn_app (goodIn_of _ (by decide +kernel)) ggX8_begin_X8_signKind
set_option maxRecDepth 20000 in
theorem ggX8_begin_X8_advance : GoodIn wsX8_begin wsX8_advance := goodIn_r _ [147, 4, 148, 3, 1, 77, 149, 78, 150, 79, 151, 152, 153, 154, 155, 156, 157, 158, 159, 160] (by decide +kernel) (by decide +kernel)
set_option maxRecDepth 20000 in
theorem gX8_begin_X8_advance : GoodIn wsX8_begin (wsV RX8 59 RX8 yX8_advance wsX8_advance) := goodIn_app (goodIn_of _ (by decide +kernel)) ggX8_begin_X8_advance
set_option maxRecDepth 20000 in
theorem ggX10_text_X0_isFull : GoodIn wsX10_text wsX0_isFull := goodIn_r _ [8, 9, 389, 390, 391, 392] (by decide +kernel) (by decide +kernel)
set_option maxRecDepth 20000 in
theorem gX10_text_X0_isFull : GoodIn wsX10_text (wsV RX10 89 RX0 yX0_isFull wsX0_isFull) := goodIn_app (goodIn_of _ (by decide +kernel)) ggX10_text_X0_isFull
set_option maxRecDepth 100000 in
set_option maxHeartbeats 4000000 in
theorem ggX10_text_X4_readTape : GoodIn wsX10_text wsX4_readTape := goodIn_r _ [14, 15, 16, 17, 18, 19, 20, 21, 22, 23, 24, 25, 26, 27, 28, 29, 30, 31, 32, 33, 34, 35, 36, 37, 38, 39, 40, 41, 42, 43, 44, 45, 46, 47, 48, 49, 50, 51, 52, 53, 54, 55, 56, 57, 58, 59, 60, 61, 62, 63, 64, 65, 66, 67, 68, 69, 70, 71, 72, 73, 74, 75, 76, 77, 78, 79, 80, 81, 82, 83, 84, 85, 86, 87, 88, 89, 90, 91, 92, 93, 94, 95, 96, 97, 98, 99, 100, 101, 102, 103, 104, 105, 106, 107, 108, 109, 110, 111, 112, 113, 114, 115, 116, 117, 118, 119, 120, 121, 122, 123, 124, 125, 126, 127, 128, 129, 130, 131, 132, 133, 134, 135, 136, 137, 138, 139, 140, 141, 142, 143, 144, 145, 146, 147, 148, 149, 150, 151, 152, 153, 154, 155, 156, 157, 158, 159, 160, 161, 162, 163, 164, 165, 166, 167, 168, 169, 170, 171, 172, 173, 174, 175, 176, 13, 177, 178, 179, 180, 181, 182, 183, 184, 185, 186, 187, 188, 189, 190, 191, 192, 193, 194, 195, 196, 197, 198, 199, 200, 201, 202, 203, 204, 205, 206, 207, 208, 209, 210, 211, 212, 213, 214, 215, 216, 217, 218, 219, 220, 221, 222, 223, 224, 7, 225, 9, 226, 227, 228, 229, 230, 231, 232, 233, 234, 235, 236, 237, 238, 239, 240, 241, 242, 243, 244, 245, 246, 247, 248, 249, 250, 251, 252, 253, 254, 255, 256, 257, 258, 259, 260, 261, 262, 263, 264, 265, 266, 267, 268, 269, 270, 271, 272, 273, 274, 275, 276, 277, 278, 279, 280, 281, 282, 283, 284, 285, 286, 287, 288, 289, 290, 291, 292, 293, 294, 295, 296, 297, 298, 299, 300, 301, 302, 303, 304, 305, 306, 307, 308, 309, 310, 311, 312, 313, 314, 315, 316, 317, 318, 319, 320, 321, 322, 323, 324, 325, 326, 327, 328, 329, 330, 331, 332, 333, 334, 393, 394, 395, 396, 397, 398, 399, 400, 401, 402, 403, 404, 405, 406, 407, 408, 409, 410, 411, 412, 413, 414, 415, 416, 417, 418, 419, 387, 388, 389, 390, 391, 392] (by with_unfolding_all rfl) (by decide +kernel)
set_option maxRecDepth 20000 in
theorem gX10_text_X4_readTape : GoodIn wsX10_text (wsV RX10 93 RX4 yX4_readTape wsX4_readTape) := goodIn_app (goodIn_of _ (by decide +kernel)) ggX10_text_X4_readTape
set_option maxRecDepth 100000 in
set_option maxHeartbeats 4000000 in
theorem ggX10_text_X4_tellAll : GoodIn wsX10_text wsX4_tellAll := goodIn_r _ [338, 221, 18, 17, 339, 340, 341, 7, 342, 230, 9, 343, 344, 345, 5, 6, 8, 346, 347, 348, 207, 349, 350, 351, 306, 209, 352, 353, 354, 355, 356, 357, 245, 119, 120, 121, 210, 358, 211, 359, 321, 322, 323, 319, 205, 206, 208, 212, 213, 214, 215, 360, 361, 362, 363, 364, 365, 366, 331, 367, 368, 369, 333, 334, 370, 371, 372, 373, 374, 329, 330, 332, 375, 376, 377, 378, 393, 394, 395, 396, 397, 398, 399, 400, 401, 402, 403, 406, 407, 408, 409, 404, 405, 389, 390, 391, 392] (by with_unfolding_all rfl) (by decide +kernel)
set_option maxRecDepth 20000 in
theorem gX10_text_X4_tellAll : GoodIn wsX10_text (wsV RX10 96 RX4 yX4_tellAll wsX4_tellAll) := goodIn_app (goodIn_of _ (by decide +kernel)) ggX10_text_X4_tellAll
set_option maxRecDepth 100000 in
set_option maxHeartbeats 4000000 in
theorem t_X8_begin (l : Launch) (D : va_G) (cI cR cM : ClassId) (sz : Nat) {jn : Nat} {g : Nat → Nat} {L : List Nat} {S : Sg} {f : Nat → va_E} {adK adV : Nat → Nat} {B0 : Nat}  (hj : 1 ≤ jn ∧ jn ≤ 3) (hG : SG g L S) (hI : IN jn cI cR cM g L S f) (hB : ∀ a, a ∈ L → B0 ≤ a) (hTK : TK g cI f) : Met l yX8_begin wsX8_begin ({ frames := 6, cells := 0, slots := 0, locals := 132 }) (P0S D cI cR cM [.ref (g 14)] sz (va_pl L f) adK adV B0) (QG (S := Nat → va_E) (fun u => none) (fun u => va_pl L u) (fun u => IN jn cI cR cM g L S u ∧ FR S [14, 31, 32, 33] f u ∧ (TK g cI u)) D (va_A (va_pl L f) sz)) 0 0 (va_A (va_pl L f) sz) := by
  refine goS (cc := cX8_begin) (maxL := 4) (ret := none) (by decide +kernel) rfl (Nat.le_of_ble_eq_true rfl) ?_
  intro p e s m below meth c ls args Q hQ hsz hx hb hr hml hts hown hlocks hnm hP hK hD hl hST
  subst hsz
  have hD := hD.self (sz := s.heap.size)
  generalize hAe : va_A (va_pl L f) s.heap.size = A at hD hQ
  have hA : ∀ q, s.heap.size ≤ q → A q := fun q h => by rw [← hAe]; exact Or.inr h
  have hS : va_S A s.heap s.heap [] := va_S.rf
  have hF : FR S [14, 31, 32, 33] f f := FR_rf
  have hAB : ∀ q, A q → B0 ≤ q := fun q h => by
    rw [← hAe] at h
    rcases h with ⟨k, e9, h⟩ | h
    · exact hB q (pl_mem h)
    · exact Nat.le_trans hST.1 h
  have hV := hST.2.1.narrow hAB
  have hZ9 := hST.2.2.2.1.narrow hAB
  have hQ9 := hST.2.2.2.2.narrow hAB
  have hl : lv_has ls 4 [(0, .ref (g 14))] := hl
  obtain ⟨cnt_1, nx_1, kd_1, vl_1, st_1, ls_1, fg_1, iv0_1, iv1_1, iv2_1⟩ := op_14 hI (gm_14 hG) (gs_14 hG)
  obtain ⟨c_2, fg_2⟩ := op_31 hI (gm_31 hG) (gs_31 hG)
  obtain ⟨c_3, fg_3⟩ := op_32 hI (gm_32 hG) (gs_32 hG)
  obtain ⟨tk1, tk2⟩ := hTK _ _ _ _ _ _ _ _ fg_1 fg_2 fg_3
  refine lv_aload_n hx hb dX8_begin_0 rfl (lv_at hl 0 rfl) ?_
  refine lv_iconst (v := 0) hx hb dX8_begin_1 (by decide) ?_
  have hz_5 : (0 : Int32).toInt = 0 := by decide
  refine t_put (D := D) (L := L) (f := f) (ci := 8) (v := .int 0) (ty := .int) (C := RX8) (T := TX8) (N := 10) hx hb hts (by decide +kernel) tyX8 tyX8_ok nmX8 hown hK.1 hP hD hS (gm_14 hG) fg_1 rfl 4 (by decide) (hts (.fieldLink RX8 25 "JugglingHall$Tokens" "count" "I") (by decide +kernel)) (fun _ h9 => h9) rfl (by decide +kernel) rfl rfl (Nat.le_of_ble_eq_true rfl) dX8_begin_2 (fun f_4 H locs e9_4 o_4 hP hD hS => ?_)
  have fa_4 : f_4 (g 14) = .inr (8, [.ref (g 11), .ref (g 31), .ref (g 32), .ref (g 33), .int 0, .int nx_1, .int kd_1, .int vl_1, .int st_1, .int ls_1]) := e9_4
  have hI := IN_set (e := .inr (8, [.ref (g 11), .ref (g 31), .ref (g 32), .ref (g 33), .int 0, .int nx_1, .int kd_1, .int vl_1, .int st_1, .int ls_1])) hI (gs_14 hG) (mk_14 (by first | assumption | omega) (by first | assumption | omega) (by first | assumption | omega)) fa_4 o_4
  have hF := FR_set hF (gs_14 hG) (show (14 : Nat) ∈ ([14, 31, 32, 33] : List Nat) by decide) o_4
  have fb_6 : f_4 (g 31) = .inl (cI, 301, .inl c_2) := f_at o_4 (S_ne (gs_31 hG) (gs_14 hG) (show (31 : Nat) ≠ 14 by decide)) fg_2
  have fb_7 : f_4 (g 32) = .inl (cI, 301, .inl c_3) := f_at o_4 (S_ne (gs_32 hG) (gs_14 hG) (show (32 : Nat) ≠ 14 by decide)) fg_3
  have hTKr_8 : TK g cI f_4 := by
    intro cnt9 nx9 kd9 vl9 st9 ls9 ck9 cv9 h14 h31 h32
    rw [fa_4] at h14
    rw [fb_6] at h31
    rw [fb_7] at h32
    cases h14
    cases h31
    cases h32
    refine ⟨?_, ?_⟩
    · exact tk1
    · intro i i0 i1; exact absurd i1 (by rw [show (0 : Int32).toInt = 0 from rfl]; omega)
  refine lv_iconst (v := 0) hx hb dX8_begin_5 (by decide) ?_
  refine lv_istore_n (lv' := [(1, .int 0), (0, .ref (g 14))]) hx hb dX8_begin_6 rfl hl (by decide) rfl (fun ls hl => ?_)
  have loop7 : ∀ (ddloop7 : Nat) (at_ : Int32) (f_9 : Nat → va_E) (H : Heap) (locs : List Loc) (ls : Array Slot), (400 - at_.toInt).toNat < ddloop7 → IN jn cI cR cM g L S f_9 → FR S [14, 31, 32, 33] f f_9 → (0 ≤ at_.toInt ∧ at_.toInt ≤ 300) → (TK g cI f_9) → va_P D vwCl (va_pl L f_9) H → va_D A (va_pl L f_9) → va_S A s.heap H locs → lv_has ls 4 [(0, .ref (g 14)), (1, .int at_)] → W p l e ({ frames := 6, cells := 0, slots := 0, locals := 132 }) s m args below meth c H locs (0) (0) Q (F0 m 7 ls []) := by
    intro ddloop7
    induction ddloop7 with
    | zero =>
      intro at_ f_9 H locs ls hdd
      exact absurd hdd (Nat.not_lt_zero _)
    | succ ddloop7 ih7 =>
      intro at_ f_9 H locs ls hdd hI hF hi hTK hP hD hS hl
      refine lv_iload_n hx hb dX8_begin_7 rfl (lv_at hl 1 rfl) ?_
      refine lv_aload_n hx hb dX8_begin_8 rfl (lv_at hl 0 rfl) ?_
      obtain ⟨cnt_10, nx_10, kd_10, vl_10, st_10, ls_10, fg_10, iv0_10, iv1_10, iv2_10⟩ := op_14 hI (gm_14 hG) (gs_14 hG)
      refine t_get (D := D) (L := L) (f := f_9) (ci := 8) (v := .ref (g 11)) (C := RX8) (T := TX8) (N := 10) hx hb hts (by decide +kernel) hown hK.1 hP (gm_14 hG) fg_10 rfl 0 (by decide) (hts (.fieldLink RX8 21 "JugglingHall$Tokens" "tape" "LJugglingHall$Tape;") (by decide +kernel)) (fun _ h9 => h9) rfl dX8_begin_9 ?_
      obtain ⟨len_11, fg_11, iv0_11, iv1_11⟩ := op_11 hI (gm_11 hG) (gs_11 hG)
      refine t_getN (D := D) (L := L) (f := f_9) (ci := 7) (v := .int len_11) (C := RX7) (T := TX7) (N := 2) (host := "JugglingHall") hx hb hts (by decide +kernel) hown hK.1 hP (gm_11 hG) fg_11 rfl 1 (by decide) (hK.nw (.fieldLinkNest RX8 29 "JugglingHall$Tape" "length" "I" "JugglingHall") (by decide +kernel) rfl) (fun _ h9 => h9) rfl dX8_begin_12 ?_
      refine a_icmp_ge (u := at_.toInt) (v := len_11.toInt) (tgt := 116) hx hb dX8_begin_15 (by decide) (rfl) (rfl) (fun c_12 => ?_) (fun c_12 => ?_)
      · refine lv_aload_n hx hb dX8_begin_116 rfl (lv_at hl 0 rfl) ?_
        refine lv_iconst (v := 0) hx hb dX8_begin_117 (by decide) ?_
        refine lv_iconst (v := 0) hx hb dX8_begin_118 (by decide) ?_
        refine lv_aload_n hx hb dX8_begin_119 rfl (lv_at hl 0 rfl) ?_
        refine t_get (D := D) (L := L) (f := f_9) (ci := 8) (v := .ref (g 11)) (C := RX8) (T := TX8) (N := 10) hx hb hts (by decide +kernel) hown hK.1 hP (gm_14 hG) fg_10 rfl 0 (by decide) (hts (.fieldLink RX8 21 "JugglingHall$Tokens" "tape" "LJugglingHall$Tape;") (by decide +kernel)) (fun _ h9 => h9) rfl dX8_begin_120 ?_
        refine t_getN (D := D) (L := L) (f := f_9) (ci := 7) (v := .int len_11) (C := RX7) (T := TX7) (N := 2) (host := "JugglingHall") hx hb hts (by decide +kernel) hown hK.1 hP (gm_11 hG) fg_11 rfl 1 (by decide) (hK.nw (.fieldLinkNest RX8 29 "JugglingHall$Tape" "length" "I" "JugglingHall") (by decide +kernel) rfl) (fun _ h9 => h9) rfl dX8_begin_123 ?_
        have hz_13 : (0 : Int32).toInt = 0 := by decide
        have hz_14 : (0 : Int32).toInt = 0 := by decide
        refine call_p (va_runV (As := [.int 0, .int 0, .int len_11]) (rest := []) ⟨hx, hb, hml, hown, hts⟩ (t_X8_keep l D cI cR cM _   hj hG hI  (by first | assumption | omega) (by first | assumption | omega)) (cwV 3 hts gX8_begin_X8_keep rfl rfl rfl (by decide +kernel) ⟨Nat.le_of_ble_eq_true rfl, Nat.le_of_ble_eq_true rfl⟩) (pre_T hK hP hD (gm_14 hG) fg_10 rfl) rfl rfl hl.1 rfl (lv_room (Nat.le_of_ble_eq_true rfl)) dX8_begin_126 ⟨Nat.le_of_ble_eq_true rfl, Nat.le_of_ble_eq_true rfl⟩) hD hS hA (fun u_15 H locs hw hP hD hS => ?_)
        obtain ⟨f_15, e0_15⟩ : ∃ x, x = u_15 := ⟨_, rfl⟩
        subst e0_15
        obtain ⟨hI, hF_15, hTK_15⟩ : IN jn cI cR cM g L S f_15 ∧ FR S [14, 31, 32, 33] f_9 f_15 ∧ (TK g cI f_15) := hw
        have hP : va_P D vwCl (va_pl L f_15) H := hP
        have hD : va_D A (va_pl L f_15) := hD
        have hF := FR_tr hF hF_15 (by decide)
        have fb_16 : f_15 (g 11) = .inr (7, [.ref (g 30), .int len_11]) := FR_at hF_15 (gs_11 hG) (show (11 : Nat) ∉ ([14, 31, 32, 33] : List Nat) by decide) fg_11
        refine lv_aload_n hx hb dX8_begin_129 rfl (lv_at hl 0 rfl) ?_
        refine lv_iconst (v := 0) hx hb dX8_begin_130 (by decide) ?_
        obtain ⟨cnt_17, nx_17, kd_17, vl_17, st_17, ls_17, fg_17, iv0_17, iv1_17, iv2_17⟩ := op_14 hI (gm_14 hG) (gs_14 hG)
        have hz_19 : (0 : Int32).toInt = 0 := by decide
        refine t_put (D := D) (L := L) (f := f_15) (ci := 8) (v := .int 0) (ty := .int) (C := RX8) (T := TX8) (N := 10) hx hb hts (by decide +kernel) tyX8 tyX8_ok nmX8 hown hK.1 hP hD hS (gm_14 hG) fg_17 rfl 5 (by decide) (hts (.fieldLink RX8 53 "JugglingHall$Tokens" "next" "I") (by decide +kernel)) (fun _ h9 => h9) rfl (by decide +kernel) rfl rfl (Nat.le_of_ble_eq_true rfl) dX8_begin_131 (fun f_18 H locs e9_18 o_18 hP hD hS => ?_)
        have fa_18 : f_18 (g 14) = .inr (8, [.ref (g 11), .ref (g 31), .ref (g 32), .ref (g 33), .int cnt_17, .int 0, .int kd_17, .int vl_17, .int st_17, .int ls_17]) := e9_18
        have hI := IN_set (e := .inr (8, [.ref (g 11), .ref (g 31), .ref (g 32), .ref (g 33), .int cnt_17, .int 0, .int kd_17, .int vl_17, .int st_17, .int ls_17])) hI (gs_14 hG) (mk_14 (by first | assumption | omega) (by first | assumption | omega) (by first | assumption | omega)) fa_18 o_18
        have hF := FR_set hF (gs_14 hG) (show (14 : Nat) ∈ ([14, 31, 32, 33] : List Nat) by decide) o_18
        have fb_20 : f_18 (g 11) = .inr (7, [.ref (g 30), .int len_11]) := f_at o_18 (S_ne (gs_11 hG) (gs_14 hG) (show (11 : Nat) ≠ 14 by decide)) fb_16
        have hTK_21 : TK g cI f_18 := TK_14 (f := f_15) (by assumption) fg_17 fa_18 (o_18 _ (S_ne (gs_31 hG) (gs_14 hG) (show (31 : Nat) ≠ 14 by decide))) (o_18 _ (S_ne (gs_32 hG) (gs_14 hG) (show (32 : Nat) ≠ 14 by decide)))
        refine lv_aload_n hx hb dX8_begin_134 rfl (lv_at hl 0 rfl) ?_
        refine lv_iconst (v := 0) hx hb dX8_begin_135 (by decide) ?_
        have hz_23 : (0 : Int32).toInt = 0 := by decide
        refine t_put (D := D) (L := L) (f := f_18) (ci := 8) (v := .int 0) (ty := .int) (C := RX8) (T := TX8) (N := 10) hx hb hts (by decide +kernel) tyX8 tyX8_ok nmX8 hown hK.1 hP hD hS (gm_14 hG) fa_18 rfl 8 (by decide) (hts (.fieldLink RX8 56 "JugglingHall$Tokens" "start" "I") (by decide +kernel)) (fun _ h9 => h9) rfl (by decide +kernel) rfl rfl (Nat.le_of_ble_eq_true rfl) dX8_begin_136 (fun f_22 H locs e9_22 o_22 hP hD hS => ?_)
        have fa_22 : f_22 (g 14) = .inr (8, [.ref (g 11), .ref (g 31), .ref (g 32), .ref (g 33), .int cnt_17, .int 0, .int kd_17, .int vl_17, .int 0, .int ls_17]) := e9_22
        have hI := IN_set (e := .inr (8, [.ref (g 11), .ref (g 31), .ref (g 32), .ref (g 33), .int cnt_17, .int 0, .int kd_17, .int vl_17, .int 0, .int ls_17])) hI (gs_14 hG) (mk_14 (by first | assumption | omega) (by first | assumption | omega) (by first | assumption | omega)) fa_22 o_22
        have hF := FR_set hF (gs_14 hG) (show (14 : Nat) ∈ ([14, 31, 32, 33] : List Nat) by decide) o_22
        have fb_24 : f_22 (g 11) = .inr (7, [.ref (g 30), .int len_11]) := f_at o_22 (S_ne (gs_11 hG) (gs_14 hG) (show (11 : Nat) ≠ 14 by decide)) fb_20
        have hTK_25 : TK g cI f_22 := TK_14 (f := f_18) (by assumption) fa_18 fa_22 (o_22 _ (S_ne (gs_31 hG) (gs_14 hG) (show (31 : Nat) ≠ 14 by decide))) (o_22 _ (S_ne (gs_32 hG) (gs_14 hG) (show (32 : Nat) ≠ 14 by decide)))
        refine lv_aload_n hx hb dX8_begin_139 rfl (lv_at hl 0 rfl) ?_
        refine call_p (va_runV (As := []) (rest := []) ⟨hx, hb, hml, hown, hts⟩ (t_X8_advance l D cI cR cM _   hj hG hI  (by first | assumption | omega)) (cwV 0 hts gX8_begin_X8_advance rfl rfl rfl (by decide +kernel) ⟨Nat.le_of_ble_eq_true rfl, Nat.le_of_ble_eq_true rfl⟩) (pre_T hK hP hD (gm_14 hG) fa_22 rfl) rfl rfl hl.1 rfl (lv_room (Nat.le_of_ble_eq_true rfl)) dX8_begin_140 ⟨Nat.le_of_ble_eq_true rfl, Nat.le_of_ble_eq_true rfl⟩) hD hS hA (fun u_26 H locs hw hP hD hS => ?_)
        obtain ⟨f_26, e0_26⟩ : ∃ x, x = u_26 := ⟨_, rfl⟩
        subst e0_26
        obtain ⟨hI, hF_26, hTK_26⟩ : IN jn cI cR cM g L S f_26 ∧ FR S [14] f_22 f_26 ∧ (TK g cI f_26) := hw
        have hP : va_P D vwCl (va_pl L f_26) H := hP
        have hD : va_D A (va_pl L f_26) := hD
        have hF := FR_tr hF hF_26 (by decide)
        have fb_27 : f_26 (g 11) = .inr (7, [.ref (g 30), .int len_11]) := FR_at hF_26 (gs_11 hG) (show (11 : Nat) ∉ ([14] : List Nat) by decide) fb_24
        exact g_vret f_26 hx hb hr hlocks hS rfl (⟨hI, hF, show TK g cI f_26 from (by first | assumption | omega)⟩) hP hD hQ (Nat.le_of_ble_eq_true rfl) (Nat.le_of_ble_eq_true rfl) dX8_begin_143
      · refine lv_aload_n hx hb dX8_begin_18 rfl (lv_at hl 0 rfl) ?_
        refine t_get (D := D) (L := L) (f := f_9) (ci := 8) (v := .ref (g 11)) (C := RX8) (T := TX8) (N := 10) hx hb hts (by decide +kernel) hown hK.1 hP (gm_14 hG) fg_10 rfl 0 (by decide) (hts (.fieldLink RX8 21 "JugglingHall$Tokens" "tape" "LJugglingHall$Tape;") (by decide +kernel)) (fun _ h9 => h9) rfl dX8_begin_19 ?_
        refine lv_iload_n hx hb dX8_begin_22 rfl (lv_at hl 1 rfl) ?_
        refine roP (va_runV (As := [.int at_]) (rest := []) ⟨hx, hb, hml, hown, hts⟩ (t_X7_byteAt l D cI cR cM _   hj hG hI  ) (cwV 1 hts gX8_begin_X7_byteAt rfl rfl rfl (by decide +kernel) ⟨Nat.le_of_ble_eq_true rfl, Nat.le_of_ble_eq_true rfl⟩) (pre_T hK hP hD (gm_11 hG) fg_11 rfl) rfl rfl hl.1 rfl (lv_room (Nat.le_of_ble_eq_true rfl)) dX8_begin_23 ⟨Nat.le_of_ble_eq_true rfl, Nat.le_of_ble_eq_true rfl⟩) hS hA hP (fun r_28 H locs hw hP hS => ?_)
        have h_28 : (-1 ≤ r_28.toInt ∧ r_28.toInt ≤ 255) := hw
        refine lv_istore_n (lv' := [(2, .int r_28), (0, .ref (g 14)), (1, .int at_)]) hx hb dX8_begin_26 rfl hl (by decide) rfl (fun ls hl => ?_)
        refine lv_iload_n hx hb dX8_begin_27 rfl (lv_at hl 2 rfl) ?_
        refine lv_istore_n (lv' := [(3, .int at_), (2, .int r_28), (0, .ref (g 14)), (1, .int at_)]) hx hb dX8_begin_28 rfl hl (by decide) rfl (fun ls hl => ?_)
        obtain ⟨z_29, q_29, e_29⟩ := i_inc (a := at_.toInt) (1) (rfl) (by decide) (by omega) (by omega)
        refine lv_iinc (v := z_29) (lv' := [(1, .int z_29), (3, .int at_), (2, .int r_28), (0, .ref (g 14))]) hx hb dX8_begin_29 hl (k := 3) rfl q_29 (by decide) rfl (fun ls hl => ?_)
        refine lv_iload_n hx hb dX8_begin_32 rfl (lv_at hl 2 rfl) ?_
        refine roP (va_runS (As := [.int r_28]) (rest := []) ⟨hx, hb, hml, hown, hts⟩ (t_X8_isLetter l D cI cR cM _     ) (va_cwS 1 hts gX8_begin_X8_isLetter rfl rfl rfl (by decide +kernel) ⟨Nat.le_of_ble_eq_true rfl, Nat.le_of_ble_eq_true rfl⟩) (pre_S hK va_P_nil (va_D_nil (A := fun _ => True))) rfl rfl hl.1 rfl (lv_room (Nat.le_of_ble_eq_true rfl)) dX8_begin_33 ⟨Nat.le_of_ble_eq_true rfl, Nat.le_of_ble_eq_true rfl⟩) hS hA hP (fun r_30 H locs hw hP hS => ?_)
        have h01_30 : (r_30.toInt = 0 ∨ r_30.toInt = 1) := hw
        refine a_if_eq (u := r_30.toInt) (tgt := 88) hx hb dX8_begin_36 (by decide) (rfl) (fun c_31 => ?_) (fun c_31 => ?_)
        · refine lv_iload_n hx hb dX8_begin_88 rfl (lv_at hl 2 rfl) ?_
          refine lv_bipush (v := 32) hx hb dX8_begin_89 (by decide) ?_
          refine a_icmp_eq (u := r_28.toInt) (v := 32) (tgt := 113) hx hb dX8_begin_91 (by decide) (rfl) (by decide) (fun c_32 => ?_) (fun c_32 => ?_)
          · refine lv_goto (tgt := 7) hx hb dX8_begin_113 (by decide) ?_
            exact ih7 z_29 f_9 _ _ _ (by omega) hI hF (by first | assumption | omega) (by first | assumption | omega) hP hD hS (lv_sub hl [3, 0] rfl)
          · refine lv_iload_n hx hb dX8_begin_94 rfl (lv_at hl 2 rfl) ?_
            refine lv_bipush (v := 10) hx hb dX8_begin_95 (by decide) ?_
            refine a_icmp_eq (u := r_28.toInt) (v := 10) (tgt := 113) hx hb dX8_begin_97 (by decide) (rfl) (by decide) (fun c_33 => ?_) (fun c_33 => ?_)
            · refine lv_goto (tgt := 7) hx hb dX8_begin_113 (by decide) ?_
              exact ih7 z_29 f_9 _ _ _ (by omega) hI hF (by first | assumption | omega) (by first | assumption | omega) hP hD hS (lv_sub hl [3, 0] rfl)
            · refine lv_aload_n hx hb dX8_begin_100 rfl (lv_at hl 3 rfl) ?_
              refine lv_iload_n hx hb dX8_begin_101 rfl (lv_at hl 2 rfl) ?_
              refine roP (va_runS (As := [.int r_28]) (rest := [.ref (g 14)]) ⟨hx, hb, hml, hown, hts⟩ (t_X8_signKind l D cI cR cM _     (by first | assumption | omega)) (va_cwS 1 hts gX8_begin_X8_signKind rfl rfl rfl (by decide +kernel) ⟨Nat.le_of_ble_eq_true rfl, Nat.le_of_ble_eq_true rfl⟩) (pre_SS hK hST hS hAB va_P_nil (va_D_nil (A := fun _ => True))) rfl rfl hl.1 rfl (lv_room (Nat.le_of_ble_eq_true rfl)) dX8_begin_102 ⟨Nat.le_of_ble_eq_true rfl, Nat.le_of_ble_eq_true rfl⟩) hS hA hP (fun r_34 H locs hw hP hS => ?_)
              have h2_34 : (r_34.toInt = 2 → 48 ≤ r_28.toInt ∧ r_28.toInt ≤ 57) := hw
              refine lv_iload_n hx hb dX8_begin_105 rfl (lv_at hl 2 rfl) ?_
              refine lv_bipush (v := 48) hx hb dX8_begin_106 (by decide) ?_
              refine a_isub (u := r_28.toInt) (v := 48) hx hb dX8_begin_108 (rfl) (by decide) (by omega) (fun z_35 e_35 => ?_)
              refine lv_iload_n hx hb dX8_begin_109 rfl (lv_at hl 1 rfl) ?_
              refine call_p (va_runV (As := [.int r_34, .int z_35, .int at_]) (rest := []) ⟨hx, hb, hml, hown, hts⟩ (t_X8_keep l D cI cR cM _   hj hG hI  (by first | assumption | omega) (by first | assumption | omega)) (cwV 3 hts gX8_begin_X8_keep rfl rfl rfl (by decide +kernel) ⟨Nat.le_of_ble_eq_true rfl, Nat.le_of_ble_eq_true rfl⟩) (pre_T hK hP hD (gm_14 hG) fg_10 rfl) rfl rfl hl.1 rfl (lv_room (Nat.le_of_ble_eq_true rfl)) dX8_begin_110 ⟨Nat.le_of_ble_eq_true rfl, Nat.le_of_ble_eq_true rfl⟩) hD hS hA (fun u_36 H locs hw hP hD hS => ?_)
              obtain ⟨f_36, e0_36⟩ : ∃ x, x = u_36 := ⟨_, rfl⟩
              subst e0_36
              obtain ⟨hI, hF_36, hTK_36⟩ : IN jn cI cR cM g L S f_36 ∧ FR S [14, 31, 32, 33] f_9 f_36 ∧ (TK g cI f_36) := hw
              have hP : va_P D vwCl (va_pl L f_36) H := hP
              have hD : va_D A (va_pl L f_36) := hD
              have hF := FR_tr hF hF_36 (by decide)
              have fb_37 : f_36 (g 11) = .inr (7, [.ref (g 30), .int len_11]) := FR_at hF_36 (gs_11 hG) (show (11 : Nat) ∉ ([14, 31, 32, 33] : List Nat) by decide) fg_11
              refine lv_goto (tgt := 7) hx hb dX8_begin_113 (by decide) ?_
              exact ih7 z_29 f_36 _ _ _ (by omega) hI hF (by first | assumption | omega) (by first | assumption | omega) hP hD hS (lv_sub hl [3, 0] rfl)
        · have loop39 : ∀ (ddloop39 : Nat) (a2 : Int32) (H : Heap) (locs : List Loc) (ls : Array Slot), (400 - a2.toInt).toNat < ddloop39 → (at_.toInt < a2.toInt ∧ a2.toInt ≤ 300) → va_P D vwCl (va_pl L f_9) H → va_D A (va_pl L f_9) → va_S A s.heap H locs → lv_has ls 4 [(0, .ref (g 14)), (1, .int a2), (2, .int r_28), (3, .int at_)] → W p l e ({ frames := 6, cells := 0, slots := 0, locals := 132 }) s m args below meth c H locs (0) (0) Q (F0 m 39 ls []) := by
            intro ddloop39
            induction ddloop39 with
            | zero =>
              intro a2 H locs ls hdd
              exact absurd hdd (Nat.not_lt_zero _)
            | succ ddloop39 ih39 =>
              intro a2 H locs ls hdd hi2 hP hD hS hl
              refine lv_iload_n hx hb dX8_begin_39 rfl (lv_at hl 1 rfl) ?_
              refine lv_aload_n hx hb dX8_begin_40 rfl (lv_at hl 0 rfl) ?_
              refine t_get (D := D) (L := L) (f := f_9) (ci := 8) (v := .ref (g 11)) (C := RX8) (T := TX8) (N := 10) hx hb hts (by decide +kernel) hown hK.1 hP (gm_14 hG) fg_10 rfl 0 (by decide) (hts (.fieldLink RX8 21 "JugglingHall$Tokens" "tape" "LJugglingHall$Tape;") (by decide +kernel)) (fun _ h9 => h9) rfl dX8_begin_41 ?_
              refine t_getN (D := D) (L := L) (f := f_9) (ci := 7) (v := .int len_11) (C := RX7) (T := TX7) (N := 2) (host := "JugglingHall") hx hb hts (by decide +kernel) hown hK.1 hP (gm_11 hG) fg_11 rfl 1 (by decide) (hK.nw (.fieldLinkNest RX8 29 "JugglingHall$Tape" "length" "I" "JugglingHall") (by decide +kernel) rfl) (fun _ h9 => h9) rfl dX8_begin_44 ?_
              refine a_icmp_ge (u := a2.toInt) (v := len_11.toInt) (tgt := 70) hx hb dX8_begin_47 (by decide) (rfl) (rfl) (fun c_39 => ?_) (fun c_39 => ?_)
              · refine lv_aload_n hx hb dX8_begin_70 rfl (lv_at hl 0 rfl) ?_
                refine lv_aload_n hx hb dX8_begin_71 rfl (lv_at hl 0 rfl) ?_
                refine lv_iload_n hx hb dX8_begin_72 rfl (lv_at hl 3 rfl) ?_
                refine lv_iload_n hx hb dX8_begin_73 rfl (lv_at hl 1 rfl) ?_
                refine roP (va_runV (As := [.int at_, .int a2]) (rest := [.ref (g 14)]) ⟨hx, hb, hml, hown, hts⟩ (t_X8_wordKind l D cI cR cM _   hj hG hI hB  (by first | assumption | omega)) (cwV 2 hts gX8_begin_X8_wordKind rfl rfl rfl (by decide +kernel) ⟨Nat.le_of_ble_eq_true rfl, Nat.le_of_ble_eq_true rfl⟩) (pre_TS hK hST hS hAB hP hD (gm_14 hG) fg_10 rfl) rfl rfl hl.1 rfl (lv_room (Nat.le_of_ble_eq_true rfl)) dX8_begin_74 ⟨Nat.le_of_ble_eq_true rfl, Nat.le_of_ble_eq_true rfl⟩) hS hA hP (fun r_40 H locs hw hP hS => ?_)
                have h2_40 : (r_40.toInt ≠ 2) := hw
                refine lv_iload_n hx hb dX8_begin_77 rfl (lv_at hl 2 rfl) ?_
                refine lv_bipush (v := 65) hx hb dX8_begin_78 (by decide) ?_
                refine a_isub (u := r_28.toInt) (v := 65) hx hb dX8_begin_80 (rfl) (by decide) (by omega) (fun z_41 e_41 => ?_)
                refine lv_iload_n hx hb dX8_begin_81 rfl (lv_at hl 3 rfl) ?_
                refine call_p (va_runV (As := [.int r_40, .int z_41, .int at_]) (rest := []) ⟨hx, hb, hml, hown, hts⟩ (t_X8_keep l D cI cR cM _   hj hG hI  (by first | assumption | omega) (by first | assumption | omega)) (cwV 3 hts gX8_begin_X8_keep rfl rfl rfl (by decide +kernel) ⟨Nat.le_of_ble_eq_true rfl, Nat.le_of_ble_eq_true rfl⟩) (pre_T hK hP hD (gm_14 hG) fg_10 rfl) rfl rfl hl.1 rfl (lv_room (Nat.le_of_ble_eq_true rfl)) dX8_begin_82 ⟨Nat.le_of_ble_eq_true rfl, Nat.le_of_ble_eq_true rfl⟩) hD hS hA (fun u_42 H locs hw hP hD hS => ?_)
                obtain ⟨f_42, e0_42⟩ : ∃ x, x = u_42 := ⟨_, rfl⟩
                subst e0_42
                obtain ⟨hI, hF_42, hTK_42⟩ : IN jn cI cR cM g L S f_42 ∧ FR S [14, 31, 32, 33] f_9 f_42 ∧ (TK g cI f_42) := hw
                have hP : va_P D vwCl (va_pl L f_42) H := hP
                have hD : va_D A (va_pl L f_42) := hD
                have hF := FR_tr hF hF_42 (by decide)
                have fb_43 : f_42 (g 11) = .inr (7, [.ref (g 30), .int len_11]) := FR_at hF_42 (gs_11 hG) (show (11 : Nat) ∉ ([14, 31, 32, 33] : List Nat) by decide) fg_11
                refine lv_goto (tgt := 113) hx hb dX8_begin_85 (by decide) ?_
                refine lv_goto (tgt := 7) hx hb dX8_begin_113 (by decide) ?_
                exact ih7 a2 f_42 _ _ _ (by omega) hI hF (by first | assumption | omega) (by first | assumption | omega) hP hD hS (lv_sub hl [0, 1] rfl)
              · refine lv_aload_n hx hb dX8_begin_50 rfl (lv_at hl 0 rfl) ?_
                refine t_get (D := D) (L := L) (f := f_9) (ci := 8) (v := .ref (g 11)) (C := RX8) (T := TX8) (N := 10) hx hb hts (by decide +kernel) hown hK.1 hP (gm_14 hG) fg_10 rfl 0 (by decide) (hts (.fieldLink RX8 21 "JugglingHall$Tokens" "tape" "LJugglingHall$Tape;") (by decide +kernel)) (fun _ h9 => h9) rfl dX8_begin_51 ?_
                refine lv_iload_n hx hb dX8_begin_54 rfl (lv_at hl 1 rfl) ?_
                refine roP (va_runV (As := [.int a2]) (rest := []) ⟨hx, hb, hml, hown, hts⟩ (t_X7_byteAt l D cI cR cM _   hj hG hI  ) (cwV 1 hts gX8_begin_X7_byteAt rfl rfl rfl (by decide +kernel) ⟨Nat.le_of_ble_eq_true rfl, Nat.le_of_ble_eq_true rfl⟩) (pre_T hK hP hD (gm_11 hG) fg_11 rfl) rfl rfl hl.1 rfl (lv_room (Nat.le_of_ble_eq_true rfl)) dX8_begin_55 ⟨Nat.le_of_ble_eq_true rfl, Nat.le_of_ble_eq_true rfl⟩) hS hA hP (fun r_44 H locs hw hP hS => ?_)
                have h_44 : (-1 ≤ r_44.toInt ∧ r_44.toInt ≤ 255) := hw
                refine roP (va_runS (As := [.int r_44]) (rest := []) ⟨hx, hb, hml, hown, hts⟩ (t_X8_isLetter l D cI cR cM _     ) (va_cwS 1 hts gX8_begin_X8_isLetter rfl rfl rfl (by decide +kernel) ⟨Nat.le_of_ble_eq_true rfl, Nat.le_of_ble_eq_true rfl⟩) (pre_S hK va_P_nil (va_D_nil (A := fun _ => True))) rfl rfl hl.1 rfl (lv_room (Nat.le_of_ble_eq_true rfl)) dX8_begin_58 ⟨Nat.le_of_ble_eq_true rfl, Nat.le_of_ble_eq_true rfl⟩) hS hA hP (fun r_45 H locs hw hP hS => ?_)
                have h01_45 : (r_45.toInt = 0 ∨ r_45.toInt = 1) := hw
                refine a_if_eq (u := r_45.toInt) (tgt := 70) hx hb dX8_begin_61 (by decide) (rfl) (fun c_46 => ?_) (fun c_46 => ?_)
                · refine lv_aload_n hx hb dX8_begin_70 rfl (lv_at hl 0 rfl) ?_
                  refine lv_aload_n hx hb dX8_begin_71 rfl (lv_at hl 0 rfl) ?_
                  refine lv_iload_n hx hb dX8_begin_72 rfl (lv_at hl 3 rfl) ?_
                  refine lv_iload_n hx hb dX8_begin_73 rfl (lv_at hl 1 rfl) ?_
                  refine roP (va_runV (As := [.int at_, .int a2]) (rest := [.ref (g 14)]) ⟨hx, hb, hml, hown, hts⟩ (t_X8_wordKind l D cI cR cM _   hj hG hI hB  (by first | assumption | omega)) (cwV 2 hts gX8_begin_X8_wordKind rfl rfl rfl (by decide +kernel) ⟨Nat.le_of_ble_eq_true rfl, Nat.le_of_ble_eq_true rfl⟩) (pre_TS hK hST hS hAB hP hD (gm_14 hG) fg_10 rfl) rfl rfl hl.1 rfl (lv_room (Nat.le_of_ble_eq_true rfl)) dX8_begin_74 ⟨Nat.le_of_ble_eq_true rfl, Nat.le_of_ble_eq_true rfl⟩) hS hA hP (fun r_47 H locs hw hP hS => ?_)
                  have h2_47 : (r_47.toInt ≠ 2) := hw
                  refine lv_iload_n hx hb dX8_begin_77 rfl (lv_at hl 2 rfl) ?_
                  refine lv_bipush (v := 65) hx hb dX8_begin_78 (by decide) ?_
                  refine a_isub (u := r_28.toInt) (v := 65) hx hb dX8_begin_80 (rfl) (by decide) (by omega) (fun z_48 e_48 => ?_)
                  refine lv_iload_n hx hb dX8_begin_81 rfl (lv_at hl 3 rfl) ?_
                  refine call_p (va_runV (As := [.int r_47, .int z_48, .int at_]) (rest := []) ⟨hx, hb, hml, hown, hts⟩ (t_X8_keep l D cI cR cM _   hj hG hI  (by first | assumption | omega) (by first | assumption | omega)) (cwV 3 hts gX8_begin_X8_keep rfl rfl rfl (by decide +kernel) ⟨Nat.le_of_ble_eq_true rfl, Nat.le_of_ble_eq_true rfl⟩) (pre_T hK hP hD (gm_14 hG) fg_10 rfl) rfl rfl hl.1 rfl (lv_room (Nat.le_of_ble_eq_true rfl)) dX8_begin_82 ⟨Nat.le_of_ble_eq_true rfl, Nat.le_of_ble_eq_true rfl⟩) hD hS hA (fun u_49 H locs hw hP hD hS => ?_)
                  obtain ⟨f_49, e0_49⟩ : ∃ x, x = u_49 := ⟨_, rfl⟩
                  subst e0_49
                  obtain ⟨hI, hF_49, hTK_49⟩ : IN jn cI cR cM g L S f_49 ∧ FR S [14, 31, 32, 33] f_9 f_49 ∧ (TK g cI f_49) := hw
                  have hP : va_P D vwCl (va_pl L f_49) H := hP
                  have hD : va_D A (va_pl L f_49) := hD
                  have hF := FR_tr hF hF_49 (by decide)
                  have fb_50 : f_49 (g 11) = .inr (7, [.ref (g 30), .int len_11]) := FR_at hF_49 (gs_11 hG) (show (11 : Nat) ∉ ([14, 31, 32, 33] : List Nat) by decide) fg_11
                  refine lv_goto (tgt := 113) hx hb dX8_begin_85 (by decide) ?_
                  refine lv_goto (tgt := 7) hx hb dX8_begin_113 (by decide) ?_
                  exact ih7 a2 f_49 _ _ _ (by omega) hI hF (by first | assumption | omega) (by first | assumption | omega) hP hD hS (lv_sub hl [0, 1] rfl)
                · obtain ⟨z_51, q_51, e_51⟩ := i_inc (a := a2.toInt) (1) (rfl) (by decide) (by omega) (by omega)
                  refine lv_iinc (v := z_51) (lv' := [(1, .int z_51), (0, .ref (g 14)), (2, .int r_28), (3, .int at_)]) hx hb dX8_begin_64 hl (k := 1) rfl q_51 (by decide) rfl (fun ls hl => ?_)
                  refine lv_goto (tgt := 39) hx hb dX8_begin_67 (by decide) ?_
                  exact ih39 z_51 _ _ _ (by omega) (by first | assumption | omega) hP hD hS (lv_sub hl [1, 0, 2, 3] rfl)
          exact loop39 ((400 - z_29.toInt).toNat + 1) z_29 _ _ _ (by omega) (by first | assumption | omega) hP hD hS (lv_sub hl [3, 0, 2, 1] rfl)
  have hz_52 : (0 : Int32).toInt = 0 := by decide
  exact loop7 ((400 - (0 : Int32).toInt).toNat + 1) (0 : Int32) f_4 _ _ _ (by omega) hI hF (by first | assumption | omega) (by first | assumption | omega) hP hD hS (lv_sub hl [1, 0] rfl)
set_option maxRecDepth 100000 in
set_option maxHeartbeats 4000000 in
theorem t_X4_readTape (l : Launch) (D : va_G) (cI cR cM : ClassId) (sz : Nat) {jn : Nat} {g : Nat → Nat} {L : List Nat} {S : Sg} {f : Nat → va_E} {adK adV : Nat → Nat} {B0 : Nat}  (hj : 1 ≤ jn ∧ jn ≤ 3) (hG : SG g L S) (hI : IN jn cI cR cM g L S f) (hB : ∀ a, a ∈ L → B0 ≤ a) (hTK : TK g cI f) : Met l yX4_readTape wsX4_readTape ({ frames := 17, cells := 0, slots := 0, locals := 433 }) (P0S D cI cR cM [.ref (g 13)] sz (va_pl L f) adK adV B0) (QG (S := Int32 × (Nat → va_E)) (fun u => some (.int u.1)) (fun u => va_pl L u.2) (fun u => IN jn cI cR cM g L S u.2 ∧ FR S [0, 1, 2, 3, 13, 14, 31, 32, 33, 34] f u.2 ∧ (TK g cI u.2) ∧ (u.1.toInt = 0 ∨ u.1.toInt = 1)) D (va_A (va_pl L f) sz)) 0 0 (va_A (va_pl L f) sz) := by
  refine goS (cc := cX4_readTape) (maxL := 3) (ret := (some .boolean)) (by decide +kernel) rfl (Nat.le_of_ble_eq_true rfl) ?_
  intro p e s m below meth c ls args Q hQ hsz hx hb hr hml hts hown hlocks hnm hP hK hD hl hST
  subst hsz
  have hD := hD.self (sz := s.heap.size)
  generalize hAe : va_A (va_pl L f) s.heap.size = A at hD hQ
  have hA : ∀ q, s.heap.size ≤ q → A q := fun q h => by rw [← hAe]; exact Or.inr h
  have hS : va_S A s.heap s.heap [] := va_S.rf
  have hF : FR S [0, 1, 2, 3, 13, 14, 31, 32, 33, 34] f f := FR_rf
  have hAB : ∀ q, A q → B0 ≤ q := fun q h => by
    rw [← hAe] at h
    rcases h with ⟨k, e9, h⟩ | h
    · exact hB q (pl_mem h)
    · exact Nat.le_trans hST.1 h
  have hV := hST.2.1.narrow hAB
  have hZ9 := hST.2.2.2.1.narrow hAB
  have hQ9 := hST.2.2.2.2.narrow hAB
  have hl : lv_has ls 3 [(0, .ref (g 13))] := hl
  refine lv_aload_n hx hb dX4_readTape_0 rfl (lv_at hl 0 rfl) ?_
  refine lv_iconst (v := 0) hx hb dX4_readTape_1 (by decide) ?_
  obtain ⟨fa_1, pl_1, fg_1⟩ := op_13 hI (gm_13 hG) (gs_13 hG)
  have hz_3 : (0 : Int32).toInt = 0 := by decide
  refine t_put (D := D) (L := L) (f := f) (ci := 4) (v := .int 0) (ty := .int) (C := RX4) (T := TX4) (N := 11) hx hb hts (by decide +kernel) tyX4 tyX4_ok nmX4 hown hK.1 hP hD hS (gm_13 hG) fg_1 rfl 9 (by decide) (hts (.fieldLink RX4 31 "JugglingHall$Reader" "fault" "I") (by decide +kernel)) (fun _ h9 => h9) rfl (by decide +kernel) rfl rfl (Nat.le_of_ble_eq_true rfl) dX4_readTape_2 (fun f_2 H locs e9_2 o_2 hP hD hS => ?_)
  have fa_2 : f_2 (g 13) = .inr (4, [.int (nI jn), .ref (g 14), .ref (g 12), .ref (g 22), .ref (g 34), .ref (g 23), .ref (g 24), .ref (g 25), .ref (g 26), .int 0, .int pl_1]) := e9_2
  have hI := IN_set (e := .inr (4, [.int (nI jn), .ref (g 14), .ref (g 12), .ref (g 22), .ref (g 34), .ref (g 23), .ref (g 24), .ref (g 25), .ref (g 26), .int 0, .int pl_1])) hI (gs_13 hG) (mk_13 ) fa_2 o_2
  have hF := FR_set hF (gs_13 hG) (show (13 : Nat) ∈ ([0, 1, 2, 3, 13, 14, 31, 32, 33, 34] : List Nat) by decide) o_2
  have hTK_2 : TK g cI f_2 := TK_set (f := f) (by assumption) hG (gs_13 hG) (show (13 : Nat) ∉ ([14, 31, 32] : List Nat) by decide) o_2
  refine lv_aload_n hx hb dX4_readTape_5 rfl (lv_at hl 0 rfl) ?_
  refine lv_iconst (v := (-1)) hx hb dX4_readTape_6 (by decide) ?_
  have hz_5 : (-1 : Int32).toInt = (-1) := by decide
  refine t_put (D := D) (L := L) (f := f_2) (ci := 4) (v := .int (-1)) (ty := .int) (C := RX4) (T := TX4) (N := 11) hx hb hts (by decide +kernel) tyX4 tyX4_ok nmX4 hown hK.1 hP hD hS (gm_13 hG) fa_2 rfl 10 (by decide) (hts (.fieldLink RX4 35 "JugglingHall$Reader" "place" "I") (by decide +kernel)) (fun _ h9 => h9) rfl (by decide +kernel) rfl rfl (Nat.le_of_ble_eq_true rfl) dX4_readTape_7 (fun f_4 H locs e9_4 o_4 hP hD hS => ?_)
  have fa_4 : f_4 (g 13) = .inr (4, [.int (nI jn), .ref (g 14), .ref (g 12), .ref (g 22), .ref (g 34), .ref (g 23), .ref (g 24), .ref (g 25), .ref (g 26), .int 0, .int (-1)]) := e9_4
  have hI := IN_set (e := .inr (4, [.int (nI jn), .ref (g 14), .ref (g 12), .ref (g 22), .ref (g 34), .ref (g 23), .ref (g 24), .ref (g 25), .ref (g 26), .int 0, .int (-1)])) hI (gs_13 hG) (mk_13 ) fa_4 o_4
  have hF := FR_set hF (gs_13 hG) (show (13 : Nat) ∈ ([0, 1, 2, 3, 13, 14, 31, 32, 33, 34] : List Nat) by decide) o_4
  have hTK_4 : TK g cI f_4 := TK_set (f := f_2) (by assumption) hG (gs_13 hG) (show (13 : Nat) ∉ ([14, 31, 32] : List Nat) by decide) o_4
  refine lv_aload_n hx hb dX4_readTape_10 rfl (lv_at hl 0 rfl) ?_
  refine t_get (D := D) (L := L) (f := f_4) (ci := 4) (v := .ref (g 26)) (C := RX4) (T := TX4) (N := 11) hx hb hts (by decide +kernel) hown hK.1 hP (gm_13 hG) fa_4 rfl 8 (by decide) (hts (.fieldLink RX4 27 "JugglingHall$Reader" "marks" "LJugglingHall$Marks;") (by decide +kernel)) (fun _ h9 => h9) rfl dX4_readTape_11 ?_
  refine lv_iconst (v := 0) hx hb dX4_readTape_14 (by decide) ?_
  obtain ⟨p_6, m_6, s_6⟩ := hG.2.2.2
  obtain ⟨cnt_7, fg_7, v1_7, v2_7, mp_7, sp_7⟩ := op_2 hI m_6 s_6
  have hz_9 : (0 : Int32).toInt = 0 := by decide
  refine t_putN (D := D) (L := L) (f := f_4) (ci := 3) (v := .int 0) (ty := .int) (C := RX3) (T := TX3) (N := 2) (host := "JugglingHall") hx hb hts (by decide +kernel) tyX3 tyX3_ok nmX3 hown hK.1 hP hD hS m_6 fg_7 rfl 1 (by decide) (hK.nw (.fieldLinkNest RX4 59 "JugglingHall$Marks" "count" "I" "JugglingHall") (by decide +kernel) rfl) (fun _ h9 => h9) rfl (by decide +kernel) rfl rfl (Nat.le_of_ble_eq_true rfl) dX4_readTape_15 (fun f_8 H locs e9_8 o_8 hP hD hS => ?_)
  have fa_8 : f_8 (g 26) = .inr (3, [.ref p_6, .int 0]) := e9_8
  have hI := IN_set (e := .inr (3, [.ref p_6, .int 0])) hI s_6 (mk_2 (by first | assumption | omega) (by first | assumption | omega) (by first | assumption | omega) (by first | assumption | omega)) fa_8 o_8
  have hF := FR_set hF s_6 (show (2 : Nat) ∈ ([0, 1, 2, 3, 13, 14, 31, 32, 33, 34] : List Nat) by decide) o_8
  have hTK_8 : TK g cI f_8 := TK_set (f := f_4) (by assumption) hG s_6 (show (2 : Nat) ∉ ([14, 31, 32] : List Nat) by decide) o_8
  have fb_10 : f_8 (g 13) = .inr (4, [.int (nI jn), .ref (g 14), .ref (g 12), .ref (g 22), .ref (g 34), .ref (g 23), .ref (g 24), .ref (g 25), .ref (g 26), .int 0, .int (-1)]) := f_at o_8 (S_ne (gs_13 hG) s_6 (show (13 : Nat) ≠ 2 by decide)) fa_4
  refine lv_iconst (v := 0) hx hb dX4_readTape_18 (by decide) ?_
  refine lv_istore_n (lv' := [(1, .int 0), (0, .ref (g 13))]) hx hb dX4_readTape_19 rfl hl (by decide) rfl (fun ls hl => ?_)
  have loop20 : ∀ (ddloop20 : Nat) (le : Int32) (f_11 : Nat → va_E) (H : Heap) (locs : List Loc) (ls : Array Slot), (20 - le.toInt).toNat < ddloop20 → IN jn cI cR cM g L S f_11 → FR S [0, 1, 2, 3, 13, 14, 31, 32, 33, 34] f f_11 → (0 ≤ le.toInt ∧ le.toInt ≤ 8) → (TK g cI f_11) → va_P D vwCl (va_pl L f_11) H → va_D A (va_pl L f_11) → va_S A s.heap H locs → lv_has ls 3 [(0, .ref (g 13)), (1, .int le)] → W p l e ({ frames := 17, cells := 0, slots := 0, locals := 433 }) s m args below meth c H locs (0) (0) Q (F0 m 20 ls []) := by
    intro ddloop20
    induction ddloop20 with
    | zero =>
      intro le f_11 H locs ls hdd
      exact absurd hdd (Nat.not_lt_zero _)
    | succ ddloop20 ih20 =>
      intro le f_11 H locs ls hdd hI hF hi hTK hP hD hS hl
      refine lv_iload_n hx hb dX4_readTape_20 rfl (lv_at hl 1 rfl) ?_
      refine lv_aload_n hx hb dX4_readTape_21 rfl (lv_at hl 0 rfl) ?_
      obtain ⟨fa_12, pl_12, fg_12⟩ := op_13 hI (gm_13 hG) (gs_13 hG)
      refine t_get (D := D) (L := L) (f := f_11) (ci := 4) (v := .ref (g 23)) (C := RX4) (T := TX4) (N := 11) hx hb hts (by decide +kernel) hown hK.1 hP (gm_13 hG) fg_12 rfl 5 (by decide) (hts (.fieldLink RX4 21 "JugglingHall$Reader" "here" "[LJugglingHall$Row;") (by decide +kernel)) (fun _ h9 => h9) rfl dX4_readTape_22 ?_
      obtain ⟨c_13, fg_13, iv0_13⟩ := op_23 hI (gm_23 hG) (gs_23 hG)
      refine t_alen (L := L) (f := f_11) (v := 8) hx hb hK.1 hP (gm_23 hG) 1 fg_13 rfl rfl dX4_readTape_25 ?_
      refine a_icmp_ge (u := le.toInt) (v := 8) (tgt := 45) hx hb dX4_readTape_26 (by decide) (rfl) (by decide) (fun c_14 => ?_) (fun c_14 => ?_)
      · refine lv_aload_n hx hb dX4_readTape_45 rfl (lv_at hl 0 rfl) ?_
        refine t_get (D := D) (L := L) (f := f_11) (ci := 4) (v := .ref (g 14)) (C := RX4) (T := TX4) (N := 11) hx hb hts (by decide +kernel) hown hK.1 hP (gm_13 hG) fg_12 rfl 1 (by decide) (hts (.fieldLink RX4 41 "JugglingHall$Reader" "tokens" "LJugglingHall$Tokens;") (by decide +kernel)) (fun _ h9 => h9) rfl dX4_readTape_46 ?_
        obtain ⟨cnt_15, nx_15, kd_15, vl_15, st_15, ls_15, fg_15, iv0_15, iv1_15, iv2_15⟩ := op_14 hI (gm_14 hG) (gs_14 hG)
        refine call_p (va_runV (As := []) (rest := []) ⟨hx, hb, hml, hown, hts⟩ (t_X8_begin l D cI cR cM _   hj hG hI hB  (by first | assumption | omega)) (cwV 0 hts gX4_readTape_X8_begin rfl rfl rfl (by decide +kernel) ⟨Nat.le_of_ble_eq_true rfl, Nat.le_of_ble_eq_true rfl⟩) (pre_TS hK hST hS hAB hP hD (gm_14 hG) fg_15 rfl) rfl rfl hl.1 rfl (lv_room (Nat.le_of_ble_eq_true rfl)) dX4_readTape_49 ⟨Nat.le_of_ble_eq_true rfl, Nat.le_of_ble_eq_true rfl⟩) hD hS hA (fun u_16 H locs hw hP hD hS => ?_)
        obtain ⟨f_16, e0_16⟩ : ∃ x, x = u_16 := ⟨_, rfl⟩
        subst e0_16
        obtain ⟨hI, hF_16, hTK_16⟩ : IN jn cI cR cM g L S f_16 ∧ FR S [14, 31, 32, 33] f_11 f_16 ∧ (TK g cI f_16) := hw
        have hP : va_P D vwCl (va_pl L f_16) H := hP
        have hD : va_D A (va_pl L f_16) := hD
        have hF := FR_tr hF hF_16 (by decide)
        have fb_17 : f_16 (g 13) = .inr (4, [.int (nI jn), .ref (g 14), .ref (g 12), .ref (g 22), .ref (g 34), .ref (g 23), .ref (g 24), .ref (g 25), .ref (g 26), .int fa_12, .int pl_12]) := FR_at hF_16 (gs_13 hG) (show (13 : Nat) ∉ ([14, 31, 32, 33] : List Nat) by decide) fg_12
        have fb_18 : f_16 (g 23) = .inl (cR, 8, .inr (.inr (.inr (.inr c_13)))) := FR_at hF_16 (gs_23 hG) (show (23 : Nat) ∉ ([14, 31, 32, 33] : List Nat) by decide) fg_13
        refine lv_iconst (v := 0) hx hb dX4_readTape_52 (by decide) ?_
        refine lv_istore_n (lv' := [(1, .int 0), (0, .ref (g 13))]) hx hb dX4_readTape_53 rfl hl (by decide) rfl (fun ls hl => ?_)
        have loop54 : ∀ (ddloop54 : Nat) (ii : Int32) (f_19 : Nat → va_E) (H : Heap) (locs : List Loc) (ls : Array Slot), (400 - ii.toInt).toNat < ddloop54 → IN jn cI cR cM g L S f_19 → FR S [0, 1, 2, 3, 13, 14, 31, 32, 33, 34] f f_19 → (0 ≤ ii.toInt ∧ ii.toInt ≤ 301) → (TK g cI f_19) → va_P D vwCl (va_pl L f_19) H → va_D A (va_pl L f_19) → va_S A s.heap H locs → lv_has ls 3 [(0, .ref (g 13)), (1, .int ii)] → W p l e ({ frames := 17, cells := 0, slots := 0, locals := 433 }) s m args below meth c H locs (0) (0) Q (F0 m 54 ls []) := by
          intro ddloop54
          induction ddloop54 with
          | zero =>
            intro ii f_19 H locs ls hdd
            exact absurd hdd (Nat.not_lt_zero _)
          | succ ddloop54 ih54 =>
            intro ii f_19 H locs ls hdd hI hF hi hTK hP hD hS hl
            refine lv_iload_n hx hb dX4_readTape_54 rfl (lv_at hl 1 rfl) ?_
            refine lv_sipush (v := 300) hx hb dX4_readTape_55 (by decide) ?_
            refine a_icmp_gt (u := ii.toInt) (v := 300) (tgt := 125) hx hb dX4_readTape_58 (by decide) (rfl) (by decide) (fun c_20 => ?_) (fun c_20 => ?_)
            · refine lv_iconst (v := 1) hx hb dX4_readTape_125 (by decide) ?_
              have hz_21 : (1 : Int32).toInt = 1 := by decide
              exact g_zret ((1 : Int32), f_19) hx hb hr hlocks hS (by first | exact Or.inl rfl | exact Or.inr rfl) rfl (⟨hI, hF, show TK g cI f_19 from (by first | assumption | omega), show (1 : Int32).toInt = 0 ∨ (1 : Int32).toInt = 1 from (by first | assumption | omega)⟩) hP hD hQ (Nat.le_of_ble_eq_true rfl) (Nat.le_of_ble_eq_true rfl) dX4_readTape_126
            · refine lv_aload_n hx hb dX4_readTape_61 rfl (lv_at hl 0 rfl) ?_
              obtain ⟨fa_22, pl_22, fg_22⟩ := op_13 hI (gm_13 hG) (gs_13 hG)
              refine t_get (D := D) (L := L) (f := f_19) (ci := 4) (v := .ref (g 14)) (C := RX4) (T := TX4) (N := 11) hx hb hts (by decide +kernel) hown hK.1 hP (gm_13 hG) fg_22 rfl 1 (by decide) (hts (.fieldLink RX4 41 "JugglingHall$Reader" "tokens" "LJugglingHall$Tokens;") (by decide +kernel)) (fun _ h9 => h9) rfl dX4_readTape_62 ?_
              obtain ⟨cnt_23, nx_23, kd_23, vl_23, st_23, ls_23, fg_23, iv0_23, iv1_23, iv2_23⟩ := op_14 hI (gm_14 hG) (gs_14 hG)
              refine t_getN (D := D) (L := L) (f := f_19) (ci := 8) (v := .int kd_23) (C := RX8) (T := TX8) (N := 10) (host := "JugglingHall") hx hb hts (by decide +kernel) hown hK.1 hP (gm_14 hG) fg_23 rfl 6 (by decide) (hK.nw (.fieldLinkNest RX4 70 "JugglingHall$Tokens" "kind" "I" "JugglingHall") (by decide +kernel) rfl) (fun _ h9 => h9) rfl dX4_readTape_65 ?_
              refine a_if_eq (u := kd_23.toInt) (tgt := 125) hx hb dX4_readTape_68 (by decide) (rfl) (fun c_24 => ?_) (fun c_24 => ?_)
              · refine lv_iconst (v := 1) hx hb dX4_readTape_125 (by decide) ?_
                have hz_25 : (1 : Int32).toInt = 1 := by decide
                exact g_zret ((1 : Int32), f_19) hx hb hr hlocks hS (by first | exact Or.inl rfl | exact Or.inr rfl) rfl (⟨hI, hF, show TK g cI f_19 from (by first | assumption | omega), show (1 : Int32).toInt = 0 ∨ (1 : Int32).toInt = 1 from (by first | assumption | omega)⟩) hP hD hQ (Nat.le_of_ble_eq_true rfl) (Nat.le_of_ble_eq_true rfl) dX4_readTape_126
              · refine lv_aload_n hx hb dX4_readTape_71 rfl (lv_at hl 0 rfl) ?_
                refine t_get (D := D) (L := L) (f := f_19) (ci := 4) (v := .ref (g 14)) (C := RX4) (T := TX4) (N := 11) hx hb hts (by decide +kernel) hown hK.1 hP (gm_13 hG) fg_22 rfl 1 (by decide) (hts (.fieldLink RX4 41 "JugglingHall$Reader" "tokens" "LJugglingHall$Tokens;") (by decide +kernel)) (fun _ h9 => h9) rfl dX4_readTape_72 ?_
                refine t_getN (D := D) (L := L) (f := f_19) (ci := 8) (v := .int kd_23) (C := RX8) (T := TX8) (N := 10) (host := "JugglingHall") hx hb hts (by decide +kernel) hown hK.1 hP (gm_14 hG) fg_23 rfl 6 (by decide) (hK.nw (.fieldLinkNest RX4 70 "JugglingHall$Tokens" "kind" "I" "JugglingHall") (by decide +kernel) rfl) (fun _ h9 => h9) rfl dX4_readTape_75 ?_
                refine lv_iconst (v := 4) hx hb dX4_readTape_78 (by decide) ?_
                refine a_icmp_ne (u := kd_23.toInt) (v := 4) (tgt := 89) hx hb dX4_readTape_79 (by decide) (rfl) (by decide) (fun c_26 => ?_) (fun c_26 => ?_)
                · refine lv_aload_n hx hb dX4_readTape_89 rfl (lv_at hl 0 rfl) ?_
                  refine t_get (D := D) (L := L) (f := f_19) (ci := 4) (v := .ref (g 14)) (C := RX4) (T := TX4) (N := 11) hx hb hts (by decide +kernel) hown hK.1 hP (gm_13 hG) fg_22 rfl 1 (by decide) (hts (.fieldLink RX4 41 "JugglingHall$Reader" "tokens" "LJugglingHall$Tokens;") (by decide +kernel)) (fun _ h9 => h9) rfl dX4_readTape_90 ?_
                  refine t_getN (D := D) (L := L) (f := f_19) (ci := 8) (v := .int kd_23) (C := RX8) (T := TX8) (N := 10) (host := "JugglingHall") hx hb hts (by decide +kernel) hown hK.1 hP (gm_14 hG) fg_23 rfl 6 (by decide) (hK.nw (.fieldLinkNest RX4 70 "JugglingHall$Tokens" "kind" "I" "JugglingHall") (by decide +kernel) rfl) (fun _ h9 => h9) rfl dX4_readTape_93 ?_
                  refine lv_iconst (v := 5) hx hb dX4_readTape_96 (by decide) ?_
                  refine a_icmp_ne (u := kd_23.toInt) (v := 5) (tgt := 107) hx hb dX4_readTape_97 (by decide) (rfl) (by decide) (fun c_27 => ?_) (fun c_27 => ?_)
                  · refine lv_aload_n hx hb dX4_readTape_107 rfl (lv_at hl 0 rfl) ?_
                    refine lv_iconst (v := 1) hx hb dX4_readTape_108 (by decide) ?_
                    have hz_28 : (1 : Int32).toInt = 1 := by decide
                    refine call_p (va_runV (As := [.int 1]) (rest := []) ⟨hx, hb, hml, hown, hts⟩ (t_X4_fail l D cI cR cM _   hj hG hI  ) (cwV 1 hts gX4_readTape_X4_fail rfl rfl rfl (by decide +kernel) ⟨Nat.le_of_ble_eq_true rfl, Nat.le_of_ble_eq_true rfl⟩) (pre_T hK hP hD (gm_13 hG) fg_22 rfl) rfl rfl hl.1 rfl (lv_room (Nat.le_of_ble_eq_true rfl)) dX4_readTape_109 ⟨Nat.le_of_ble_eq_true rfl, Nat.le_of_ble_eq_true rfl⟩) hD hS hA (fun u_29 H locs hw hP hD hS => ?_)
                    obtain ⟨r_29, f_29⟩ := u_29
                    obtain ⟨hI, hF_29, h0_29, h01_29⟩ : IN jn cI cR cM g L S f_29 ∧ FR S [13] f_19 f_29 ∧ (r_29.toInt = 0) ∧ (r_29.toInt = 0 ∨ r_29.toInt = 1) := hw
                    have hP : va_P D vwCl (va_pl L f_29) H := hP
                    have hD : va_D A (va_pl L f_29) := hD
                    have hF := FR_tr hF hF_29 (by decide)
                    have hTK_29 : TK g cI f_29 := TK_fr (f := f_19) (by assumption) hG hF_29 (by decide)
                    have fb_30 : f_29 (g 14) = .inr (8, [.ref (g 11), .ref (g 31), .ref (g 32), .ref (g 33), .int cnt_23, .int nx_23, .int kd_23, .int vl_23, .int st_23, .int ls_23]) := FR_at hF_29 (gs_14 hG) (show (14 : Nat) ∉ ([13] : List Nat) by decide) fg_23
                    refine lv_istore_n (lv' := [(2, .int r_29), (0, .ref (g 13)), (1, .int ii)]) hx hb dX4_readTape_112 rfl hl (by decide) rfl (fun ls hl => ?_)
                    refine lv_iload_n hx hb dX4_readTape_113 rfl (lv_at hl 0 rfl) ?_
                    refine a_if_ne (u := r_29.toInt) (tgt := 119) hx hb dX4_readTape_114 (by decide) (rfl) (fun c_31 => ?_) (fun c_31 => ?_)
                    · obtain ⟨z_32, q_32, e_32⟩ := i_inc (a := ii.toInt) (1) (rfl) (by decide) (by omega) (by omega)
                      refine lv_iinc (v := z_32) (lv' := [(1, .int z_32), (2, .int r_29), (0, .ref (g 13))]) hx hb dX4_readTape_119 hl (k := 2) rfl q_32 (by decide) rfl (fun ls hl => ?_)
                      refine lv_goto (tgt := 54) hx hb dX4_readTape_122 (by decide) ?_
                      exact ih54 z_32 f_29 _ _ _ (by omega) hI hF (by first | assumption | omega) (by first | assumption | omega) hP hD hS (lv_sub hl [2, 0] rfl)
                    · refine lv_iconst (v := 0) hx hb dX4_readTape_117 (by decide) ?_
                      have hz_33 : (0 : Int32).toInt = 0 := by decide
                      exact g_zret ((0 : Int32), f_29) hx hb hr hlocks hS (by first | exact Or.inl rfl | exact Or.inr rfl) rfl (⟨hI, hF, show TK g cI f_29 from (by first | assumption | omega), show (0 : Int32).toInt = 0 ∨ (0 : Int32).toInt = 1 from (by first | assumption | omega)⟩) hP hD hQ (Nat.le_of_ble_eq_true rfl) (Nat.le_of_ble_eq_true rfl) dX4_readTape_118
                  · refine lv_aload_n hx hb dX4_readTape_100 rfl (lv_at hl 0 rfl) ?_
                    refine call_p (va_runV (As := []) (rest := []) ⟨hx, hb, hml, hown, hts⟩ (t_X4_readMarks l D cI cR cM _   hj hG hI  (by first | assumption | omega)) (cwV 0 hts gX4_readTape_X4_readMarks rfl rfl rfl (by decide +kernel) ⟨Nat.le_of_ble_eq_true rfl, Nat.le_of_ble_eq_true rfl⟩) (pre_T hK hP hD (gm_13 hG) fg_22 rfl) rfl rfl hl.1 rfl (lv_room (Nat.le_of_ble_eq_true rfl)) dX4_readTape_101 ⟨Nat.le_of_ble_eq_true rfl, Nat.le_of_ble_eq_true rfl⟩) hD hS hA (fun u_34 H locs hw hP hD hS => ?_)
                    obtain ⟨r_34, f_34⟩ := u_34
                    obtain ⟨hI, hF_34, hTK_34, h01_34⟩ : IN jn cI cR cM g L S f_34 ∧ FR S [2, 3, 13, 14] f_19 f_34 ∧ (TK g cI f_34) ∧ (r_34.toInt = 0 ∨ r_34.toInt = 1) := hw
                    have hP : va_P D vwCl (va_pl L f_34) H := hP
                    have hD : va_D A (va_pl L f_34) := hD
                    have hF := FR_tr hF hF_34 (by decide)
                    refine lv_goto (tgt := 112) hx hb dX4_readTape_104 (by decide) ?_
                    refine lv_istore_n (lv' := [(2, .int r_34), (0, .ref (g 13)), (1, .int ii)]) hx hb dX4_readTape_112 rfl hl (by decide) rfl (fun ls hl => ?_)
                    refine lv_iload_n hx hb dX4_readTape_113 rfl (lv_at hl 0 rfl) ?_
                    refine a_if_ne (u := r_34.toInt) (tgt := 119) hx hb dX4_readTape_114 (by decide) (rfl) (fun c_35 => ?_) (fun c_35 => ?_)
                    · obtain ⟨z_36, q_36, e_36⟩ := i_inc (a := ii.toInt) (1) (rfl) (by decide) (by omega) (by omega)
                      refine lv_iinc (v := z_36) (lv' := [(1, .int z_36), (2, .int r_34), (0, .ref (g 13))]) hx hb dX4_readTape_119 hl (k := 2) rfl q_36 (by decide) rfl (fun ls hl => ?_)
                      refine lv_goto (tgt := 54) hx hb dX4_readTape_122 (by decide) ?_
                      exact ih54 z_36 f_34 _ _ _ (by omega) hI hF (by first | assumption | omega) (by first | assumption | omega) hP hD hS (lv_sub hl [2, 0] rfl)
                    · refine lv_iconst (v := 0) hx hb dX4_readTape_117 (by decide) ?_
                      have hz_37 : (0 : Int32).toInt = 0 := by decide
                      exact g_zret ((0 : Int32), f_34) hx hb hr hlocks hS (by first | exact Or.inl rfl | exact Or.inr rfl) rfl (⟨hI, hF, show TK g cI f_34 from (by first | assumption | omega), show (0 : Int32).toInt = 0 ∨ (0 : Int32).toInt = 1 from (by first | assumption | omega)⟩) hP hD hQ (Nat.le_of_ble_eq_true rfl) (Nat.le_of_ble_eq_true rfl) dX4_readTape_118
                · refine lv_aload_n hx hb dX4_readTape_82 rfl (lv_at hl 0 rfl) ?_
                  refine call_p (va_runV (As := []) (rest := []) ⟨hx, hb, hml, hown, hts⟩ (t_X4_readRow l D cI cR cM _   hj hG hI  (by first | assumption | omega)) (cwV 0 hts gX4_readTape_X4_readRow rfl rfl rfl (by decide +kernel) ⟨Nat.le_of_ble_eq_true rfl, Nat.le_of_ble_eq_true rfl⟩) (pre_T hK hP hD (gm_13 hG) fg_22 rfl) rfl rfl hl.1 rfl (lv_room (Nat.le_of_ble_eq_true rfl)) dX4_readTape_83 ⟨Nat.le_of_ble_eq_true rfl, Nat.le_of_ble_eq_true rfl⟩) hD hS hA (fun u_38 H locs hw hP hD hS => ?_)
                  obtain ⟨r_38, f_38⟩ := u_38
                  obtain ⟨hI, hF_38, hTK_38, h01_38⟩ : IN jn cI cR cM g L S f_38 ∧ FR S [0, 1, 13, 14, 34] f_19 f_38 ∧ (TK g cI f_38) ∧ (r_38.toInt = 0 ∨ r_38.toInt = 1) := hw
                  have hP : va_P D vwCl (va_pl L f_38) H := hP
                  have hD : va_D A (va_pl L f_38) := hD
                  have hF := FR_tr hF hF_38 (by decide)
                  refine lv_goto (tgt := 112) hx hb dX4_readTape_86 (by decide) ?_
                  refine lv_istore_n (lv' := [(2, .int r_38), (0, .ref (g 13)), (1, .int ii)]) hx hb dX4_readTape_112 rfl hl (by decide) rfl (fun ls hl => ?_)
                  refine lv_iload_n hx hb dX4_readTape_113 rfl (lv_at hl 0 rfl) ?_
                  refine a_if_ne (u := r_38.toInt) (tgt := 119) hx hb dX4_readTape_114 (by decide) (rfl) (fun c_39 => ?_) (fun c_39 => ?_)
                  · obtain ⟨z_40, q_40, e_40⟩ := i_inc (a := ii.toInt) (1) (rfl) (by decide) (by omega) (by omega)
                    refine lv_iinc (v := z_40) (lv' := [(1, .int z_40), (2, .int r_38), (0, .ref (g 13))]) hx hb dX4_readTape_119 hl (k := 2) rfl q_40 (by decide) rfl (fun ls hl => ?_)
                    refine lv_goto (tgt := 54) hx hb dX4_readTape_122 (by decide) ?_
                    exact ih54 z_40 f_38 _ _ _ (by omega) hI hF (by first | assumption | omega) (by first | assumption | omega) hP hD hS (lv_sub hl [2, 0] rfl)
                  · refine lv_iconst (v := 0) hx hb dX4_readTape_117 (by decide) ?_
                    have hz_41 : (0 : Int32).toInt = 0 := by decide
                    exact g_zret ((0 : Int32), f_38) hx hb hr hlocks hS (by first | exact Or.inl rfl | exact Or.inr rfl) rfl (⟨hI, hF, show TK g cI f_38 from (by first | assumption | omega), show (0 : Int32).toInt = 0 ∨ (0 : Int32).toInt = 1 from (by first | assumption | omega)⟩) hP hD hQ (Nat.le_of_ble_eq_true rfl) (Nat.le_of_ble_eq_true rfl) dX4_readTape_118
        have hz_42 : (0 : Int32).toInt = 0 := by decide
        exact loop54 ((400 - (0 : Int32).toInt).toNat + 1) (0 : Int32) f_16 _ _ _ (by omega) hI hF (by first | assumption | omega) (by first | assumption | omega) hP hD hS (lv_sub hl [1, 0] rfl)
      · refine lv_aload_n hx hb dX4_readTape_29 rfl (lv_at hl 0 rfl) ?_
        refine t_get (D := D) (L := L) (f := f_11) (ci := 4) (v := .ref (g 23)) (C := RX4) (T := TX4) (N := 11) hx hb hts (by decide +kernel) hown hK.1 hP (gm_13 hG) fg_12 rfl 5 (by decide) (hts (.fieldLink RX4 21 "JugglingHall$Reader" "here" "[LJugglingHall$Row;") (by decide +kernel)) (fun _ h9 => h9) rfl dX4_readTape_30 ?_
        refine lv_iload_n hx hb dX4_readTape_33 rfl (lv_at hl 1 rfl) ?_
        refine t_aald (L := L) (f := f_11) (y := c_13) (u := le.toInt) hx hb hK.1 hP (gm_23 hG) 1 fg_13 rfl dX4_readTape_34 (rfl) (by omega) (fun w_43 q_43 => ?_)
        obtain ⟨r_43, p_43, n_43, er_43, m_43, s_43⟩ := iv0_13 le.toInt (by omega) (by omega)
        have q_43 := q_43.trans er_43
        subst q_43
        refine W.eq (g2 := F0 m 35 ls [.ref r_43]) rfl ?_
        refine lv_iconst (v := 0) hx hb dX4_readTape_35 (by decide) ?_
        obtain ⟨len_44, fg_44, v1_44, v2_44, v3_44, mp_44, sp_44⟩ := op_0 hI m_43 s_43
        obtain ⟨w1_44, w2_44, w3_44, w4_44, w5_44⟩ := lenw hj v1_44 v2_44 v3_44
        have hz_46 : (0 : Int32).toInt = 0 := by decide
        refine t_putN (D := D) (L := L) (f := f_11) (ci := 5) (v := .int 0) (ty := .int) (C := RX5) (T := TX5) (N := 4) (host := "JugglingHall") hx hb hts (by decide +kernel) tyX5 tyX5_ok nmX5 hown hK.1 hP hD hS m_43 fg_44 rfl 3 (by decide) (hK.nw (.fieldLinkNest RX4 62 "JugglingHall$Row" "length" "I" "JugglingHall") (by decide +kernel) rfl) (fun _ h9 => h9) rfl (by decide +kernel) rfl rfl (Nat.le_of_ble_eq_true rfl) dX4_readTape_36 (fun f_45 H locs e9_45 o_45 hP hD hS => ?_)
        have fa_45 : f_45 r_43 = .inr (5, [.int (nI jn), .int (nI (2 * jn)), .ref p_43, .int 0]) := e9_45
        have hI := IN_set (e := .inr (5, [.int (nI jn), .int (nI (2 * jn)), .ref p_43, .int 0])) hI s_43 (mk_0 (by first | assumption | omega) (by rw [show (0 : Int32).toInt = 0 from rfl, Int.zero_mul]; omega) (by first | assumption | omega) (by first | assumption | omega) (by first | assumption | omega)) fa_45 o_45
        have hF := FR_set hF s_43 (show (0 : Nat) ∈ ([0, 1, 2, 3, 13, 14, 31, 32, 33, 34] : List Nat) by decide) o_45
        have hTK_45 : TK g cI f_45 := TK_set (f := f_11) (by assumption) hG s_43 (show (0 : Nat) ∉ ([14, 31, 32] : List Nat) by decide) o_45
        have fb_47 : f_45 (g 13) = .inr (4, [.int (nI jn), .ref (g 14), .ref (g 12), .ref (g 22), .ref (g 34), .ref (g 23), .ref (g 24), .ref (g 25), .ref (g 26), .int fa_12, .int pl_12]) := f_at o_45 (S_ne (gs_13 hG) s_43 (show (13 : Nat) ≠ 0 by decide)) fg_12
        have fb_48 : f_45 (g 23) = .inl (cR, 8, .inr (.inr (.inr (.inr c_13)))) := f_at o_45 (S_ne (gs_23 hG) s_43 (show (23 : Nat) ≠ 0 by decide)) fg_13
        obtain ⟨z_49, q_49, e_49⟩ := i_inc (a := le.toInt) (1) (rfl) (by decide) (by omega) (by omega)
        refine lv_iinc (v := z_49) (lv' := [(1, .int z_49), (0, .ref (g 13))]) hx hb dX4_readTape_39 hl (k := 1) rfl q_49 (by decide) rfl (fun ls hl => ?_)
        refine lv_goto (tgt := 20) hx hb dX4_readTape_42 (by decide) ?_
        exact ih20 z_49 f_45 _ _ _ (by omega) hI hF (by first | assumption | omega) (by first | assumption | omega) hP hD hS (lv_sub hl [1, 0] rfl)
  have hz_50 : (0 : Int32).toInt = 0 := by decide
  exact loop20 ((20 - (0 : Int32).toInt).toNat + 1) (0 : Int32) f_8 _ _ _ (by omega) hI hF (by first | assumption | omega) (by first | assumption | omega) hP hD hS (lv_sub hl [1, 0] rfl)
set_option maxRecDepth 100000 in
set_option maxHeartbeats 4000000 in
theorem t_X10_text (l : Launch) (D : va_G) (cI cR cM : ClassId) (sz : Nat) {jn : Nat} {g : Nat → Nat} {L : List Nat} {S : Sg} {f : Nat → va_E} {adK adV : Nat → Nat} {B0 : Nat}  (hj : 1 ≤ jn ∧ jn ≤ 3) (hG : SG g L S) (hI : IN jn cI cR cM g L S f) (hB : ∀ a, a ∈ L → B0 ≤ a) (hTK : TK g cI f) : Met l yX10_text wsX10_text ({ frames := 18, cells := 18, slots := 1193, locals := 455 }) (P0S D cI cR cM [.ref (g 10)] sz (va_pl L f) adK adV B0) (QG (S := Int32 × List Nat × Sg × (Nat → va_E)) (fun u => some (.int u.1)) (fun u => va_pl (u.2.1) (u.2.2.2)) (fun u => EXT L S u.2.1 u.2.2.1 ∧ IN jn cI cR cM g u.2.1 u.2.2.1 u.2.2.2 ∧ FRX L S [0, 1, 2, 3, 11, 12, 13, 14, 20, 21, 31, 32, 33, 34] f (u.2.2.2) ∧ (TK g cI (u.2.2.2))) D (va_A (va_pl L f) sz)) 18 1193 (va_A (va_pl L f) sz) := by
  refine goS (cc := cX10_text) (maxL := 2) (ret := (some .int)) (by decide +kernel) rfl (Nat.le_of_ble_eq_true rfl) ?_
  intro p e s m below meth c ls args Q hQ hsz hx hb hr hml hts hown hlocks hnm hP hK hD hl hST
  subst hsz
  have hD := hD.self (sz := s.heap.size)
  generalize hAe : va_A (va_pl L f) s.heap.size = A at hD hQ
  have hA : ∀ q, s.heap.size ≤ q → A q := fun q h => by rw [← hAe]; exact Or.inr h
  have hS : va_S A s.heap s.heap [] := va_S.rf
  obtain ⟨L0, eL0⟩ : ∃ x, x = L := ⟨_, rfl⟩
  obtain ⟨S0, eS0⟩ : ∃ x, x = S := ⟨_, rfl⟩
  have hX : EXT L0 S0 L S := by rw [eL0, eS0]; exact EXT_rf
  have hF : FRX L0 S0 [0, 1, 2, 3, 11, 12, 13, 14, 20, 21, 31, 32, 33, 34] f f := FRX_rf
  have hAB : ∀ q, A q → B0 ≤ q := fun q h => by
    rw [← hAe] at h
    rcases h with ⟨k, e9, h⟩ | h
    · exact hB q (pl_mem h)
    · exact Nat.le_trans hST.1 h
  have hV := hST.2.1.narrow hAB
  have hZ9 := hST.2.2.2.1.narrow hAB
  have hQ9 := hST.2.2.2.2.narrow hAB
  have hl : lv_has ls 2 [(0, .ref (g 10))] := hl
  refine lv_aload_n hx hb dX10_text_0 rfl (lv_at hl 0 rfl) ?_
  have fg_1 := op_10 hI (gm_10 hG) (gs_10 hG)
  refine t_get (D := D) (L := L) (f := f) (ci := 10) (v := .ref (g 12)) (C := RX10) (T := TX10) (N := 8) hx hb hts (by decide +kernel) hown hK.1 hP (gm_10 hG) fg_1 rfl 2 (by decide) (hts (.fieldLink RX10 32 "JugglingHall" "book" "LJugglingHall$Book;") (by decide +kernel)) (fun _ h9 => h9) rfl dX10_text_1 ?_
  obtain ⟨tm_2, lk_2, fg_2, iv0_2, iv1_2, iv2_2⟩ := op_12 hI (gm_12 hG) (gs_12 hG)
  refine roP (va_runV (As := []) (rest := []) ⟨hx, hb, hml, hown, hts⟩ (t_X0_isFull l D cI cR cM _   hj hG hI  ) (cwV 0 hts gX10_text_X0_isFull rfl rfl rfl (by decide +kernel) ⟨Nat.le_of_ble_eq_true rfl, Nat.le_of_ble_eq_true rfl⟩) (pre_T hK hP hD (gm_12 hG) fg_2 rfl) rfl rfl hl.1 rfl (lv_room (Nat.le_of_ble_eq_true rfl)) dX10_text_4 ⟨Nat.le_of_ble_eq_true rfl, Nat.le_of_ble_eq_true rfl⟩) hS hA hP (fun r_3 H locs hw hP hS => ?_)
  obtain ⟨hb_3, h01_3⟩ : (∀ tm lk, f (g 12) = .inr (0, [.ref (g 20), .ref (g 21), .int tm, .int lk]) → r_3.toInt = 0 → tm.toInt < 60) ∧ (r_3.toInt = 0 ∨ r_3.toInt = 1) := hw
  refine a_if_eq (u := r_3.toInt) (tgt := 12) hx hb dX10_text_7 (by decide) (rfl) (fun c_4 => ?_) (fun c_4 => ?_)
  · refine lv_aload_n hx hb dX10_text_12 rfl (lv_at hl 0 rfl) ?_
    refine t_get (D := D) (L := L) (f := f) (ci := 10) (v := .ref (g 13)) (C := RX10) (T := TX10) (N := 8) hx hb hts (by decide +kernel) hown hK.1 hP (gm_10 hG) fg_1 rfl 3 (by decide) (hts (.fieldLink RX10 46 "JugglingHall" "reader" "LJugglingHall$Reader;") (by decide +kernel)) (fun _ h9 => h9) rfl dX10_text_13 ?_
    obtain ⟨fa_5, pl_5, fg_5⟩ := op_13 hI (gm_13 hG) (gs_13 hG)
    refine call_p (va_runV (As := []) (rest := []) ⟨hx, hb, hml, hown, hts⟩ (t_X4_readTape l D cI cR cM _   hj hG hI hB  (by first | assumption | omega)) (cwV 0 hts gX10_text_X4_readTape rfl rfl rfl (by decide +kernel) ⟨Nat.le_of_ble_eq_true rfl, Nat.le_of_ble_eq_true rfl⟩) (pre_TS hK hST hS hAB hP hD (gm_13 hG) fg_5 rfl) rfl rfl hl.1 rfl (lv_room (Nat.le_of_ble_eq_true rfl)) dX10_text_16 ⟨Nat.le_of_ble_eq_true rfl, Nat.le_of_ble_eq_true rfl⟩) hD hS hA (fun u_6 H locs hw hP hD hS => ?_)
    obtain ⟨r_6, f_6⟩ := u_6
    obtain ⟨hI, hF_6, hTK_6, h01_6⟩ : IN jn cI cR cM g L S f_6 ∧ FR S [0, 1, 2, 3, 13, 14, 31, 32, 33, 34] f f_6 ∧ (TK g cI f_6) ∧ (r_6.toInt = 0 ∨ r_6.toInt = 1) := hw
    have hP : va_P D vwCl (va_pl L f_6) H := hP
    have hD : va_D A (va_pl L f_6) := hD
    have hF := FRX_tr hF hX hF_6 (by decide)
    have fb_7 : f_6 (g 10) = .inr (10, [.int (nI jn), .ref (g 11), .ref (g 12), .ref (g 13), .ref (g 15), .ref (g 16), .ref (g 17), .ref (g 18)]) := FR_at hF_6 (gs_10 hG) (show (10 : Nat) ∉ ([0, 1, 2, 3, 13, 14, 31, 32, 33, 34] : List Nat) by decide) fg_1
    have fb_8 : f_6 (g 12) = .inr (0, [.ref (g 20), .ref (g 21), .int tm_2, .int lk_2]) := FR_at hF_6 (gs_12 hG) (show (12 : Nat) ∉ ([0, 1, 2, 3, 13, 14, 31, 32, 33, 34] : List Nat) by decide) fg_2
    refine lv_istore_n (lv' := [(1, .int r_6), (0, .ref (g 10))]) hx hb dX10_text_19 rfl hl (by decide) rfl (fun ls hl => ?_)
    refine lv_aload_n hx hb dX10_text_20 rfl (lv_at hl 1 rfl) ?_
    refine t_get (D := D) (L := L) (f := f_6) (ci := 10) (v := .ref (g 11)) (C := RX10) (T := TX10) (N := 8) hx hb hts (by decide +kernel) hown hK.1 hP (gm_10 hG) fb_7 rfl 1 (by decide) (hts (.fieldLink RX10 25 "JugglingHall" "tape" "LJugglingHall$Tape;") (by decide +kernel)) (fun _ h9 => h9) rfl dX10_text_21 ?_
    refine lv_iconst (v := 0) hx hb dX10_text_24 (by decide) ?_
    obtain ⟨len_9, fg_9, iv0_9, iv1_9⟩ := op_11 hI (gm_11 hG) (gs_11 hG)
    have hz_11 : (0 : Int32).toInt = 0 := by decide
    refine t_putN (D := D) (L := L) (f := f_6) (ci := 7) (v := .int 0) (ty := .int) (C := RX7) (T := TX7) (N := 2) (host := "JugglingHall") hx hb hts (by decide +kernel) tyX7 tyX7_ok nmX7 hown hK.1 hP hD hS (gm_11 hG) fg_9 rfl 1 (by decide) (hK.nw (.fieldLinkNest RX10 86 "JugglingHall$Tape" "length" "I" "JugglingHall") (by decide +kernel) rfl) (fun _ h9 => h9) rfl (by decide +kernel) rfl rfl (Nat.le_of_ble_eq_true rfl) dX10_text_25 (fun f_10 H locs e9_10 o_10 hP hD hS => ?_)
    have fa_10 : f_10 (g 11) = .inr (7, [.ref (g 30), .int 0]) := e9_10
    have hI := IN_set (e := .inr (7, [.ref (g 30), .int 0])) hI (gs_11 hG) (mk_11 (by first | assumption | omega) (by first | assumption | omega)) fa_10 o_10
    have hF := FRX_set hF hX (gs_11 hG) (show (11 : Nat) ∈ ([0, 1, 2, 3, 11, 12, 13, 14, 20, 21, 31, 32, 33, 34] : List Nat) by decide) o_10
    have hTK_10 : TK g cI f_10 := TK_set (f := f_6) (by assumption) hG (gs_11 hG) (show (11 : Nat) ∉ ([14, 31, 32] : List Nat) by decide) o_10
    have fb_12 : f_10 (g 10) = .inr (10, [.int (nI jn), .ref (g 11), .ref (g 12), .ref (g 13), .ref (g 15), .ref (g 16), .ref (g 17), .ref (g 18)]) := f_at o_10 (S_ne (gs_10 hG) (gs_11 hG) (show (10 : Nat) ≠ 11 by decide)) fb_7
    have fb_13 : f_10 (g 12) = .inr (0, [.ref (g 20), .ref (g 21), .int tm_2, .int lk_2]) := f_at o_10 (S_ne (gs_12 hG) (gs_11 hG) (show (12 : Nat) ≠ 11 by decide)) fb_8
    refine lv_iload_n hx hb dX10_text_28 rfl (lv_at hl 0 rfl) ?_
    refine a_if_ne (u := r_6.toInt) (tgt := 34) hx hb dX10_text_29 (by decide) (rfl) (fun c_14 => ?_) (fun c_14 => ?_)
    · refine lv_aload_n hx hb dX10_text_34 rfl (lv_at hl 1 rfl) ?_
      refine t_get (D := D) (L := L) (f := f_10) (ci := 10) (v := .ref (g 13)) (C := RX10) (T := TX10) (N := 8) hx hb hts (by decide +kernel) hown hK.1 hP (gm_10 hG) fb_12 rfl 3 (by decide) (hts (.fieldLink RX10 46 "JugglingHall" "reader" "LJugglingHall$Reader;") (by decide +kernel)) (fun _ h9 => h9) rfl dX10_text_35 ?_
      obtain ⟨fa_15, pl_15, fg_15⟩ := op_13 hI (gm_13 hG) (gs_13 hG)
      refine call_p (va_runV (As := []) (rest := []) ⟨hx, hb, hml, hown, hts⟩ (t_X4_tellAll l D cI cR cM _   hj hG hI  (by first | assumption | omega)) (cwV 0 hts gX10_text_X4_tellAll rfl rfl rfl (by decide +kernel) ⟨Nat.le_of_ble_eq_true rfl, Nat.le_of_ble_eq_true rfl⟩) (pre_T hK hP hD (gm_13 hG) fg_15 rfl) rfl rfl hl.1 rfl (lv_room (Nat.le_of_ble_eq_true rfl)) dX10_text_38 ⟨Nat.le_of_ble_eq_true rfl, Nat.le_of_ble_eq_true rfl⟩) hD hS hA (fun u_16 H locs hw hP hD hS => ?_)
      obtain ⟨L, S, f_16⟩ := u_16
      dsimp only at hw hP hD
      obtain ⟨hX_16, hI_16, hF_16, hTK_16⟩ := hw
      have fb_17 : f_16 (g 10) = .inr (10, [.int (nI jn), .ref (g 11), .ref (g 12), .ref (g 13), .ref (g 15), .ref (g 16), .ref (g 17), .ref (g 18)]) := FRX_at hF_16 (gm_10 hG) (gs_10 hG) (show (10 : Nat) ∉ ([0, 1, 2, 3, 12, 20, 21] : List Nat) by decide) fb_12
      have fb_18 : f_16 (g 11) = .inr (7, [.ref (g 30), .int 0]) := FRX_at hF_16 (gm_11 hG) (gs_11 hG) (show (11 : Nat) ∉ ([0, 1, 2, 3, 12, 20, 21] : List Nat) by decide) fa_10
      have fb_19 : f_16 (g 13) = .inr (4, [.int (nI jn), .ref (g 14), .ref (g 12), .ref (g 22), .ref (g 34), .ref (g 23), .ref (g 24), .ref (g 25), .ref (g 26), .int fa_15, .int pl_15]) := FRX_at hF_16 (gm_13 hG) (gs_13 hG) (show (13 : Nat) ∉ ([0, 1, 2, 3, 12, 20, 21] : List Nat) by decide) fg_15
      have hF := FRX_trX hF hX hF_16 (by decide)
      have hX := EXT_tr hX hX_16
      have hG := SG_ext hX_16 hG
      have hI := hI_16
      refine W.widen (k := 18) (n := 1193) (Nat.le_of_ble_eq_true rfl) (Nat.le_of_ble_eq_true rfl) ?_
      refine lv_aload_n hx hb dX10_text_41 rfl (lv_at hl 1 rfl) ?_
      refine t_get (D := D) (L := L) (f := f_16) (ci := 10) (v := .ref (g 12)) (C := RX10) (T := TX10) (N := 8) hx hb hts (by decide +kernel) hown hK.1 hP (gm_10 hG) fb_17 rfl 2 (by decide) (hts (.fieldLink RX10 32 "JugglingHall" "book" "LJugglingHall$Book;") (by decide +kernel)) (fun _ h9 => h9) rfl dX10_text_42 ?_
      obtain ⟨tm_20, lk_20, fg_20, iv0_20, iv1_20, iv2_20⟩ := op_12 hI (gm_12 hG) (gs_12 hG)
      refine t_getN (D := D) (L := L) (f := f_16) (ci := 0) (v := .int tm_20) (C := RX0) (T := TX0) (N := 4) (host := "JugglingHall") hx hb hts (by decide +kernel) hown hK.1 hP (gm_12 hG) fg_20 rfl 2 (by decide) (hK.nw (.fieldLinkNest RX10 99 "JugglingHall$Book" "time" "I" "JugglingHall") (by decide +kernel) rfl) (fun _ h9 => h9) rfl dX10_text_45 ?_
      exact g_iret (tm_20, L, S, f_16) hx hb hr hlocks hS rfl (⟨EXT_c eL0 eS0 hX, hI, FRX_c eL0 eS0 hF, (by first | assumption | omega)⟩) hP hD hQ (Nat.le_of_ble_eq_true rfl) (Nat.le_of_ble_eq_true rfl) dX10_text_48
    · refine lv_iconst (v := (-1)) hx hb dX10_text_32 (by decide) ?_
      have hz_21 : (-1 : Int32).toInt = (-1) := by decide
      exact g_iret ((-1 : Int32), L, S, f_10) hx hb hr hlocks hS rfl (⟨EXT_c eL0 eS0 hX, hI, FRX_c eL0 eS0 hF, (by first | assumption | omega)⟩) hP hD hQ (Nat.le_of_ble_eq_true rfl) (Nat.le_of_ble_eq_true rfl) dX10_text_33
  · refine lv_iconst (v := (-1)) hx hb dX10_text_10 (by decide) ?_
    have hz_22 : (-1 : Int32).toInt = (-1) := by decide
    exact g_iret ((-1 : Int32), L, S, f) hx hb hr hlocks hS rfl (⟨EXT_c eL0 eS0 hX, hI, FRX_c eL0 eS0 hF, (by first | assumption | omega)⟩) hP hD hQ (Nat.le_of_ble_eq_true rfl) (Nat.le_of_ble_eq_true rfl) dX10_text_11
