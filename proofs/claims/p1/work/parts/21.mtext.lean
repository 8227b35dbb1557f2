theorem dX11_rowAt_0 : decode cX11_rowAt 0 = .ok (.sipush 150, 3) := by decide +kernel
theorem dX11_rowAt_3 : decode cX11_rowAt 3 = .ok (.bipush 8, 2) := by decide +kernel
theorem dX11_rowAt_5 : decode cX11_rowAt 5 = .ok (.iload_n 0, 1) := by decide +kernel
theorem dX11_rowAt_6 : decode cX11_rowAt 6 = .ok (.imul, 1) := by decide +kernel
theorem dX11_rowAt_7 : decode cX11_rowAt 7 = .ok (.iload_n 1, 1) := by decide +kernel
theorem dX11_rowAt_8 : decode cX11_rowAt 8 = .ok (.iadd, 1) := by decide +kernel
theorem dX11_rowAt_9 : decode cX11_rowAt 9 = .ok (.imul, 1) := by decide +kernel
theorem dX11_rowAt_10 : decode cX11_rowAt 10 = .ok (.ireturn, 1) := by decide +kernel
theorem dX11_four_0 : decode cX11_four 0 = .ok (.bipush 24, 2) := by decide +kernel
theorem dX11_four_2 : decode cX11_four 2 = .ok (.istore_n 2, 1) := by decide +kernel
theorem dX11_four_3 : decode cX11_four 3 = .ok (.iload_n 2, 1) := by decide +kernel
theorem dX11_four_4 : decode cX11_four 4 = .ok (.ifCond .lt 35, 3) := by decide +kernel
theorem dX11_four_7 : decode cX11_four 7 = .ok (.aload_n 0, 1) := by decide +kernel
theorem dX11_four_8 : decode cX11_four 8 = .ok (.getfield 17, 3) := by decide +kernel
theorem dX11_four_11 : decode cX11_four 11 = .ok (.aload_n 0, 1) := by decide +kernel
theorem dX11_four_12 : decode cX11_four 12 = .ok (.getfield 110, 3) := by decide +kernel
theorem dX11_four_15 : decode cX11_four 15 = .ok (.iload_n 1, 1) := by decide +kernel
theorem dX11_four_16 : decode cX11_four 16 = .ok (.iload_n 2, 1) := by decide +kernel
theorem dX11_four_17 : decode cX11_four 17 = .ok (.ishr, 1) := by decide +kernel
theorem dX11_four_18 : decode cX11_four 18 = .ok (.sipush 255, 3) := by decide +kernel
theorem dX11_four_21 : decode cX11_four 21 = .ok (.iand, 1) := by decide +kernel
theorem dX11_four_22 : decode cX11_four 22 = .ok (.iastore, 1) := by decide +kernel
theorem dX11_four_23 : decode cX11_four 23 = .ok (.aload_n 0, 1) := by decide +kernel
theorem dX11_four_24 : decode cX11_four 24 = .ok (.dup, 1) := by decide +kernel
theorem dX11_four_25 : decode cX11_four 25 = .ok (.getfield 110, 3) := by decide +kernel
theorem dX11_four_28 : decode cX11_four 28 = .ok (.iconst 1, 1) := by decide +kernel
theorem dX11_four_29 : decode cX11_four 29 = .ok (.iadd, 1) := by decide +kernel
theorem dX11_four_30 : decode cX11_four 30 = .ok (.putfield 110, 3) := by decide +kernel
theorem dX11_four_33 : decode cX11_four 33 = .ok (.iinc 2 (-8), 3) := by decide +kernel
theorem dX11_four_36 : decode cX11_four 36 = .ok (.goto (-33), 3) := by decide +kernel
theorem dX11_four_39 : decode cX11_four 39 = .ok (.return_, 1) := by decide +kernel
theorem dX11_feed_0 : decode cX11_feed 0 = .ok (.aload_n 0, 1) := by decide +kernel
theorem dX11_feed_1 : decode cX11_feed 1 = .ok (.getfield 110, 3) := by decide +kernel
theorem dX11_feed_4 : decode cX11_feed 4 = .ok (.bipush 20, 2) := by decide +kernel
theorem dX11_feed_6 : decode cX11_feed 6 = .ok (.iadd, 1) := by decide +kernel
theorem dX11_feed_7 : decode cX11_feed 7 = .ok (.sipush 300, 3) := by decide +kernel
theorem dX11_feed_10 : decode cX11_feed 10 = .ok (.if_icmp .le 5, 3) := by decide +kernel
theorem dX11_feed_15 : decode cX11_feed 15 = .ok (.aload_n 0, 1) := by decide +kernel
theorem dX11_feed_16 : decode cX11_feed 16 = .ok (.iload_n 1, 1) := by decide +kernel
theorem dX11_feed_17 : decode cX11_feed 17 = .ok (.invokevirtual 113, 3) := by decide +kernel
theorem dX11_feed_20 : decode cX11_feed 20 = .ok (.aload_n 0, 1) := by decide +kernel
theorem dX11_feed_21 : decode cX11_feed 21 = .ok (.iload_n 2, 1) := by decide +kernel
theorem dX11_feed_22 : decode cX11_feed 22 = .ok (.invokevirtual 113, 3) := by decide +kernel
theorem dX11_feed_25 : decode cX11_feed 25 = .ok (.aload_n 0, 1) := by decide +kernel
theorem dX11_feed_26 : decode cX11_feed 26 = .ok (.iload_n 3, 1) := by decide +kernel
theorem dX11_feed_27 : decode cX11_feed 27 = .ok (.invokevirtual 113, 3) := by decide +kernel
theorem dX11_feed_30 : decode cX11_feed 30 = .ok (.aload_n 0, 1) := by decide +kernel
theorem dX11_feed_31 : decode cX11_feed 31 = .ok (.iload 4, 2) := by decide +kernel
theorem dX11_feed_33 : decode cX11_feed 33 = .ok (.invokevirtual 113, 3) := by decide +kernel
theorem dX11_feed_36 : decode cX11_feed 36 = .ok (.aload_n 0, 1) := by decide +kernel
theorem dX11_feed_37 : decode cX11_feed 37 = .ok (.iload 5, 2) := by decide +kernel
theorem dX11_feed_39 : decode cX11_feed 39 = .ok (.invokevirtual 113, 3) := by decide +kernel
theorem dX11_feed_42 : decode cX11_feed 42 = .ok (.aload_n 0, 1) := by decide +kernel
theorem dX11_feed_43 : decode cX11_feed 43 = .ok (.getfield 110, 3) := by decide +kernel
theorem dX11_feed_46 : decode cX11_feed 46 = .ok (.ireturn, 1) := by decide +kernel
theorem dX11_end_0 : decode cX11_end 0 = .ok (.iload_n 1, 1) := by decide +kernel
theorem dX11_end_1 : decode cX11_end 1 = .ok (.iconst 0, 1) := by decide +kernel
theorem dX11_end_2 : decode cX11_end 2 = .ok (.aload_n 0, 1) := by decide +kernel
theorem dX11_end_3 : decode cX11_end 3 = .ok (.getfield 110, 3) := by decide +kernel
theorem dX11_end_6 : decode cX11_end 6 = .ok (.invokestatic 100, 3) := by decide +kernel
theorem dX11_end_9 : decode cX11_end 9 = .ok (.ifCond .ne 5, 3) := by decide +kernel
theorem dX11_end_12 : decode cX11_end 12 = .ok (.iconst (-1), 1) := by decide +kernel
theorem dX11_end_13 : decode cX11_end 13 = .ok (.ireturn, 1) := by decide +kernel
theorem dX11_end_14 : decode cX11_end 14 = .ok (.aload_n 0, 1) := by decide +kernel
theorem dX11_end_15 : decode cX11_end 15 = .ok (.iload_n 1, 1) := by decide +kernel
theorem dX11_end_16 : decode cX11_end 16 = .ok (.putfield 110, 3) := by decide +kernel
theorem dX11_end_19 : decode cX11_end 19 = .ok (.iload_n 1, 1) := by decide +kernel
theorem dX11_end_20 : decode cX11_end 20 = .ok (.ireturn, 1) := by decide +kernel
theorem dX11_see_0 : decode cX11_see 0 = .ok (.iload_n 1, 1) := by decide +kernel
theorem dX11_see_1 : decode cX11_see 1 = .ok (.aload_n 0, 1) := by decide +kernel
theorem dX11_see_2 : decode cX11_see 2 = .ok (.getfield 110, 3) := by decide +kernel
theorem dX11_see_5 : decode cX11_see 5 = .ok (.if_icmp .ge 12, 3) := by decide +kernel
theorem dX11_see_17 : decode cX11_see 17 = .ok (.iconst (-1), 1) := by decide +kernel
theorem dX11_see_18 : decode cX11_see 18 = .ok (.ireturn, 1) := by decide +kernel
theorem dX11_nextToken_0 : decode cX11_nextToken 0 = .ok (.aload_n 0, 1) := by decide +kernel
theorem dX11_nextToken_1 : decode cX11_nextToken 1 = .ok (.aload_n 0, 1) := by decide +kernel
theorem dX11_nextToken_2 : decode cX11_nextToken 2 = .ok (.getfield 117, 3) := by decide +kernel
theorem dX11_nextToken_5 : decode cX11_nextToken 5 = .ok (.invokevirtual 123, 3) := by decide +kernel
theorem dX11_nextToken_8 : decode cX11_nextToken 8 = .ok (.bipush 32, 2) := by decide +kernel
theorem dX11_nextToken_10 : decode cX11_nextToken 10 = .ok (.if_icmp .eq 16, 3) := by decide +kernel
theorem dX11_nextToken_13 : decode cX11_nextToken 13 = .ok (.aload_n 0, 1) := by decide +kernel
theorem dX11_nextToken_14 : decode cX11_nextToken 14 = .ok (.aload_n 0, 1) := by decide +kernel
theorem dX11_nextToken_15 : decode cX11_nextToken 15 = .ok (.getfield 117, 3) := by decide +kernel
theorem dX11_nextToken_18 : decode cX11_nextToken 18 = .ok (.invokevirtual 123, 3) := by decide +kernel
theorem dX11_nextToken_21 : decode cX11_nextToken 21 = .ok (.bipush 10, 2) := by decide +kernel
theorem dX11_nextToken_23 : decode cX11_nextToken 23 = .ok (.if_icmp .ne 16, 3) := by decide +kernel
theorem dX11_nextToken_39 : decode cX11_nextToken 39 = .ok (.aload_n 0, 1) := by decide +kernel
theorem dX11_nextToken_40 : decode cX11_nextToken 40 = .ok (.aload_n 0, 1) := by decide +kernel
theorem dX11_nextToken_41 : decode cX11_nextToken 41 = .ok (.getfield 117, 3) := by decide +kernel
theorem dX11_nextToken_44 : decode cX11_nextToken 44 = .ok (.putfield 120, 3) := by decide +kernel
theorem dX11_nextToken_47 : decode cX11_nextToken 47 = .ok (.aload_n 0, 1) := by decide +kernel
theorem dX11_nextToken_48 : decode cX11_nextToken 48 = .ok (.aload_n 0, 1) := by decide +kernel
theorem dX11_nextToken_49 : decode cX11_nextToken 49 = .ok (.getfield 117, 3) := by decide +kernel
theorem dX11_nextToken_52 : decode cX11_nextToken 52 = .ok (.invokevirtual 123, 3) := by decide +kernel
theorem dX11_nextToken_55 : decode cX11_nextToken 55 = .ok (.istore_n 1, 1) := by decide +kernel
theorem dX11_nextToken_56 : decode cX11_nextToken 56 = .ok (.iload_n 1, 1) := by decide +kernel
theorem dX11_nextToken_57 : decode cX11_nextToken 57 = .ok (.ifCond .ge 11, 3) := by decide +kernel
theorem dX11_nextToken_60 : decode cX11_nextToken 60 = .ok (.aload_n 0, 1) := by decide +kernel
theorem dX11_nextToken_61 : decode cX11_nextToken 61 = .ok (.iconst 0, 1) := by decide +kernel
theorem dX11_nextToken_62 : decode cX11_nextToken 62 = .ok (.putfield 131, 3) := by decide +kernel
theorem dX11_nextToken_65 : decode cX11_nextToken 65 = .ok (.goto 184, 3) := by decide +kernel
theorem dX11_nextToken_249 : decode cX11_nextToken 249 = .ok (.return_, 1) := by decide +kernel
theorem dX11_readText_0 : decode cX11_readText 0 = .ok (.iconst 0, 1) := by decide +kernel
theorem dX11_readText_1 : decode cX11_readText 1 = .ok (.istore_n 1, 1) := by decide +kernel
theorem dX11_readText_2 : decode cX11_readText 2 = .ok (.iload_n 1, 1) := by decide +kernel
theorem dX11_readText_3 : decode cX11_readText 3 = .ok (.bipush 8, 2) := by decide +kernel
theorem dX11_readText_5 : decode cX11_readText 5 = .ok (.if_icmp .ge 16, 3) := by decide +kernel
theorem dX11_readText_8 : decode cX11_readText 8 = .ok (.aload_n 0, 1) := by decide +kernel
theorem dX11_readText_9 : decode cX11_readText 9 = .ok (.getfield 42, 3) := by decide +kernel
theorem dX11_readText_12 : decode cX11_readText 12 = .ok (.iload_n 1, 1) := by decide +kernel
theorem dX11_readText_13 : decode cX11_readText 13 = .ok (.iconst 0, 1) := by decide +kernel
theorem dX11_readText_14 : decode cX11_readText 14 = .ok (.iastore, 1) := by decide +kernel
theorem dX11_readText_15 : decode cX11_readText 15 = .ok (.iinc 1 1, 3) := by decide +kernel
theorem dX11_readText_18 : decode cX11_readText 18 = .ok (.goto (-16), 3) := by decide +kernel
theorem dX11_readText_21 : decode cX11_readText 21 = .ok (.aload_n 0, 1) := by decide +kernel
theorem dX11_readText_22 : decode cX11_readText 22 = .ok (.getfield 48, 3) := by decide +kernel
theorem dX11_readText_25 : decode cX11_readText 25 = .ok (.iconst 0, 1) := by decide +kernel
theorem dX11_readText_26 : decode cX11_readText 26 = .ok (.iconst 0, 1) := by decide +kernel
theorem dX11_readText_27 : decode cX11_readText 27 = .ok (.iastore, 1) := by decide +kernel
theorem dX11_readText_28 : decode cX11_readText 28 = .ok (.aload_n 0, 1) := by decide +kernel
theorem dX11_readText_29 : decode cX11_readText 29 = .ok (.iconst 0, 1) := by decide +kernel
theorem dX11_readText_30 : decode cX11_readText 30 = .ok (.putfield 117, 3) := by decide +kernel
theorem dX11_readText_33 : decode cX11_readText 33 = .ok (.aload_n 0, 1) := by decide +kernel
theorem dX11_readText_34 : decode cX11_readText 34 = .ok (.invokevirtual 163, 3) := by decide +kernel
theorem dX11_readText_37 : decode cX11_readText 37 = .ok (.aload_n 0, 1) := by decide +kernel
theorem dX11_readText_38 : decode cX11_readText 38 = .ok (.getfield 131, 3) := by decide +kernel
theorem dX11_readText_41 : decode cX11_readText 41 = .ok (.ifCond .eq 57, 3) := by decide +kernel
theorem dX11_readText_98 : decode cX11_readText 98 = .ok (.iconst 0, 1) := by decide +kernel
theorem dX11_readText_99 : decode cX11_readText 99 = .ok (.ireturn, 1) := by decide +kernel
theorem dX11_text_0 : decode cX11_text 0 = .ok (.aload_n 0, 1) := by decide +kernel
theorem dX11_text_1 : decode cX11_text 1 = .ok (.getfield 185, 3) := by decide +kernel
theorem dX11_text_4 : decode cX11_text 4 = .ok (.bipush 60, 2) := by decide +kernel
theorem dX11_text_6 : decode cX11_text 6 = .ok (.if_icmp .ne 5, 3) := by decide +kernel
theorem dX11_text_11 : decode cX11_text 11 = .ok (.aload_n 0, 1) := by decide +kernel
theorem dX11_text_12 : decode cX11_text 12 = .ok (.aload_n 0, 1) := by decide +kernel
theorem dX11_text_13 : decode cX11_text 13 = .ok (.invokevirtual 230, 3) := by decide +kernel
theorem dX11_text_16 : decode cX11_text 16 = .ok (.putfield 20, 3) := by decide +kernel
theorem dX11_text_19 : decode cX11_text 19 = .ok (.aload_n 0, 1) := by decide +kernel
theorem dX11_text_20 : decode cX11_text 20 = .ok (.aload_n 0, 1) := by decide +kernel
theorem dX11_text_21 : decode cX11_text 21 = .ok (.getfield 20, 3) := by decide +kernel
theorem dX11_text_24 : decode cX11_text 24 = .ok (.ifCond .ne 7, 3) := by decide +kernel
theorem dX11_text_27 : decode cX11_text 27 = .ok (.iconst (-1), 1) := by decide +kernel
theorem dX11_text_28 : decode cX11_text 28 = .ok (.goto 7, 3) := by decide +kernel
theorem dX11_text_35 : decode cX11_text 35 = .ok (.putfield 24, 3) := by decide +kernel
theorem dX11_text_38 : decode cX11_text 38 = .ok (.aload_n 0, 1) := by decide +kernel
theorem dX11_text_39 : decode cX11_text 39 = .ok (.iconst 0, 1) := by decide +kernel
theorem dX11_text_40 : decode cX11_text 40 = .ok (.putfield 110, 3) := by decide +kernel
theorem dX11_text_43 : decode cX11_text 43 = .ok (.aload_n 0, 1) := by decide +kernel
theorem dX11_text_44 : decode cX11_text 44 = .ok (.getfield 20, 3) := by decide +kernel
theorem dX11_text_47 : decode cX11_text 47 = .ok (.ifCond .eq 5, 3) := by decide +kernel
theorem dX11_text_52 : decode cX11_text 52 = .ok (.aload_n 0, 1) := by decide +kernel
theorem dX11_text_53 : decode cX11_text 53 = .ok (.dup, 1) := by decide +kernel
theorem dX11_text_54 : decode cX11_text 54 = .ok (.getfield 185, 3) := by decide +kernel
theorem dX11_text_57 : decode cX11_text 57 = .ok (.iconst 1, 1) := by decide +kernel
theorem dX11_text_58 : decode cX11_text 58 = .ok (.iadd, 1) := by decide +kernel
theorem dX11_text_59 : decode cX11_text 59 = .ok (.putfield 185, 3) := by decide +kernel
theorem dX11_text_62 : decode cX11_text 62 = .ok (.aload_n 0, 1) := by decide +kernel
theorem dX11_text_63 : decode cX11_text 63 = .ok (.aload_n 0, 1) := by decide +kernel
theorem dX11_text_64 : decode cX11_text 64 = .ok (.getfield 185, 3) := by decide +kernel
theorem dX11_text_67 : decode cX11_text 67 = .ok (.putfield 104, 3) := by decide +kernel
theorem dX11_text_70 : decode cX11_text 70 = .ok (.iconst 0, 1) := by decide +kernel
theorem dX11_text_71 : decode cX11_text 71 = .ok (.istore_n 1, 1) := by decide +kernel
theorem dX11_text_72 : decode cX11_text 72 = .ok (.iload_n 1, 1) := by decide +kernel
theorem dX11_text_73 : decode cX11_text 73 = .ok (.bipush 8, 2) := by decide +kernel
theorem dX11_text_75 : decode cX11_text 75 = .ok (.if_icmp .ge 73, 3) := by decide +kernel
theorem dX11_text_78 : decode cX11_text 78 = .ok (.aload_n 0, 1) := by decide +kernel
theorem dX11_text_79 : decode cX11_text 79 = .ok (.getfield 185, 3) := by decide +kernel
theorem dX11_text_82 : decode cX11_text 82 = .ok (.iload_n 1, 1) := by decide +kernel
theorem dX11_text_83 : decode cX11_text 83 = .ok (.invokestatic 96, 3) := by decide +kernel
theorem dX11_text_86 : decode cX11_text 86 = .ok (.istore_n 2, 1) := by decide +kernel
theorem dX11_text_87 : decode cX11_text 87 = .ok (.aload_n 0, 1) := by decide +kernel
theorem dX11_text_88 : decode cX11_text 88 = .ok (.getfield 8, 3) := by decide +kernel
theorem dX11_text_91 : decode cX11_text 91 = .ok (.iload_n 2, 1) := by decide +kernel
theorem dX11_text_92 : decode cX11_text 92 = .ok (.aload_n 0, 1) := by decide +kernel
theorem dX11_text_93 : decode cX11_text 93 = .ok (.getfield 42, 3) := by decide +kernel
theorem dX11_text_96 : decode cX11_text 96 = .ok (.iload_n 1, 1) := by decide +kernel
theorem dX11_text_97 : decode cX11_text 97 = .ok (.iaload, 1) := by decide +kernel
theorem dX11_text_98 : decode cX11_text 98 = .ok (.iastore, 1) := by decide +kernel
theorem dX11_text_99 : decode cX11_text 99 = .ok (.iconst 0, 1) := by decide +kernel
theorem dX11_text_100 : decode cX11_text 100 = .ok (.istore_n 3, 1) := by decide +kernel
theorem dX11_text_101 : decode cX11_text 101 = .ok (.iload_n 3, 1) := by decide +kernel
theorem dX11_text_102 : decode cX11_text 102 = .ok (.bipush 6, 2) := by decide +kernel
theorem dX11_text_104 : decode cX11_text 104 = .ok (.aload_n 0, 1) := by decide +kernel
theorem dX11_text_105 : decode cX11_text 105 = .ok (.getfield 42, 3) := by decide +kernel
theorem dX11_text_108 : decode cX11_text 108 = .ok (.iload_n 1, 1) := by decide +kernel
theorem dX11_text_109 : decode cX11_text 109 = .ok (.iaload, 1) := by decide +kernel
theorem dX11_text_110 : decode cX11_text 110 = .ok (.imul, 1) := by decide +kernel
theorem dX11_text_111 : decode cX11_text 111 = .ok (.if_icmp .ge 31, 3) := by decide +kernel
theorem dX11_text_142 : decode cX11_text 142 = .ok (.iinc 1 1, 3) := by decide +kernel
theorem dX11_text_145 : decode cX11_text 145 = .ok (.goto (-73), 3) := by decide +kernel
theorem dX11_text_148 : decode cX11_text 148 = .ok (.iconst 0, 1) := by decide +kernel
theorem dX11_text_149 : decode cX11_text 149 = .ok (.istore_n 1, 1) := by decide +kernel
theorem dX11_text_150 : decode cX11_text 150 = .ok (.iload_n 1, 1) := by decide +kernel
theorem dX11_text_151 : decode cX11_text 151 = .ok (.bipush 8, 2) := by decide +kernel
theorem dX11_text_153 : decode cX11_text 153 = .ok (.if_icmp .ge 29, 3) := by decide +kernel
theorem dX11_text_156 : decode cX11_text 156 = .ok (.aload_n 0, 1) := by decide +kernel
theorem dX11_text_157 : decode cX11_text 157 = .ok (.getfield 14, 3) := by decide +kernel
theorem dX11_text_160 : decode cX11_text 160 = .ok (.bipush 8, 2) := by decide +kernel
theorem dX11_text_162 : decode cX11_text 162 = .ok (.aload_n 0, 1) := by decide +kernel
theorem dX11_text_163 : decode cX11_text 163 = .ok (.getfield 185, 3) := by decide +kernel
theorem dX11_text_166 : decode cX11_text 166 = .ok (.imul, 1) := by decide +kernel
theorem dX11_text_167 : decode cX11_text 167 = .ok (.iload_n 1, 1) := by decide +kernel
theorem dX11_text_168 : decode cX11_text 168 = .ok (.iadd, 1) := by decide +kernel
theorem dX11_text_169 : decode cX11_text 169 = .ok (.aload_n 0, 1) := by decide +kernel
theorem dX11_text_170 : decode cX11_text 170 = .ok (.getfield 48, 3) := by decide +kernel
theorem dX11_text_173 : decode cX11_text 173 = .ok (.iload_n 1, 1) := by decide +kernel
theorem dX11_text_174 : decode cX11_text 174 = .ok (.iaload, 1) := by decide +kernel
theorem dX11_text_175 : decode cX11_text 175 = .ok (.iastore, 1) := by decide +kernel
theorem dX11_text_176 : decode cX11_text 176 = .ok (.iinc 1 1, 3) := by decide +kernel
theorem dX11_text_179 : decode cX11_text 179 = .ok (.goto (-29), 3) := by decide +kernel
theorem dX11_text_182 : decode cX11_text 182 = .ok (.aload_n 0, 1) := by decide +kernel
theorem dX11_text_183 : decode cX11_text 183 = .ok (.getfield 185, 3) := by decide +kernel
theorem dX11_text_186 : decode cX11_text 186 = .ok (.ireturn, 1) := by decide +kernel
theorem dX11_look_0 : decode cX11_look 0 = .ok (.iload_n 1, 1) := by decide +kernel
theorem dX11_look_1 : decode cX11_look 1 = .ok (.iconst 0, 1) := by decide +kernel
theorem dX11_look_2 : decode cX11_look 2 = .ok (.aload_n 0, 1) := by decide +kernel
theorem dX11_look_3 : decode cX11_look 3 = .ok (.getfield 185, 3) := by decide +kernel
theorem dX11_look_6 : decode cX11_look 6 = .ok (.invokestatic 100, 3) := by decide +kernel
theorem dX11_look_9 : decode cX11_look 9 = .ok (.ifCond .ne 5, 3) := by decide +kernel
theorem dX11_look_12 : decode cX11_look 12 = .ok (.iconst 0, 1) := by decide +kernel
theorem dX11_look_13 : decode cX11_look 13 = .ok (.ireturn, 1) := by decide +kernel
theorem dX11_look_14 : decode cX11_look 14 = .ok (.aload_n 0, 1) := by decide +kernel
theorem dX11_look_15 : decode cX11_look 15 = .ok (.iload_n 1, 1) := by decide +kernel
theorem dX11_look_16 : decode cX11_look 16 = .ok (.putfield 104, 3) := by decide +kernel
theorem dX11_look_19 : decode cX11_look 19 = .ok (.iconst 1, 1) := by decide +kernel
theorem dX11_look_20 : decode cX11_look 20 = .ok (.ireturn, 1) := by decide +kernel
theorem dX11_clear_0 : decode cX11_clear 0 = .ok (.aload_n 0, 1) := by decide +kernel
theorem dX11_clear_1 : decode cX11_clear 1 = .ok (.getfield 310, 3) := by decide +kernel
theorem dX11_clear_4 : decode cX11_clear 4 = .ok (.istore_n 1, 1) := by decide +kernel
theorem dX11_clear_5 : decode cX11_clear 5 = .ok (.aload_n 0, 1) := by decide +kernel
theorem dX11_clear_6 : decode cX11_clear 6 = .ok (.iconst 0, 1) := by decide +kernel
theorem dX11_clear_7 : decode cX11_clear 7 = .ok (.putfield 310, 3) := by decide +kernel
theorem dX11_clear_10 : decode cX11_clear 10 = .ok (.iload_n 1, 1) := by decide +kernel
theorem dX11_clear_11 : decode cX11_clear 11 = .ok (.ireturn, 1) := by decide +kernel
set_option maxRecDepth 20000 in
theorem ggX11_feed_X11_four : GoodIn wsX11_feed wsX11_four := goodIn_r _ [6, 7, 1, 8, 9, 10, 11, 12, 13, 14, 15, 16, 17, 18, 19, 20, 21, 22, 23, 24, 25, 26, 27, 28, 29, 30, 31, 32, 33, 34, 35, 36, 37, 38, 39, 40, 41, 42, 43, 44, 45, 46, 47, 48, 49, 50, 51, 52, 53, 54] (by decide +kernel) (by decide +kernel)
set_option maxRecDepth 20000 in
theorem gX11_feed_X11_four : GoodIn wsX11_feed (wsV RX11 113 RX11 yX11_four wsX11_four) := goodIn_app (goodIn_of _ (by decide +kernel)) ggX11_feed_X11_four
set_option maxRecDepth 20000 in
theorem ggX11_end_X11_isIn : GoodIn wsX11_end wsX11_isIn := goodIn_r _ [5] (by decide +kernel) (by decide +kernel)
set_option maxRecDepth 20000 in
theorem gX11_end_X11_isIn : GoodIn wsX11_end (va_wsS RX11 100 yX11_isIn wsX11_isIn) := goodIn_app (goodIn_of _ (by decide +kernel)) ggX11_end_X11_isIn
set_option maxRecDepth 20000 in
theorem ggX11_nextToken_X11_see : GoodIn wsX11_nextToken wsX11_see := goodIn_r _ [9, 10, 11, 29, 30, 31, 32, 33, 34, 35, 36, 37, 38, 39, 40, 41, 42, 43, 44, 45, 46, 47, 48, 49, 50, 51, 52, 53, 54, 55, 56, 57, 58, 59, 60, 61, 62, 63, 64, 65, 66, 67, 68, 69, 70, 71, 72, 73, 74, 75] (by decide +kernel) (by decide +kernel)
set_option maxRecDepth 20000 in
theorem gX11_nextToken_X11_see : GoodIn wsX11_nextToken (wsV RX11 123 RX11 yX11_see wsX11_see) := goodIn_app (goodIn_of _ (by decide +kernel)) ggX11_nextToken_X11_see
set_option maxRecDepth 100000 in
set_option maxHeartbeats 4000000 in
theorem ggX11_readText_X11_nextToken : GoodIn wsX11_readText wsX11_nextToken := goodIn_r _ [10, 3, 5, 4, 11, 12, 13, 14, 9, 15, 16, 17, 18, 19, 20, 21, 22, 23, 24, 25, 26, 27, 28, 29, 30, 31, 32, 33, 34, 128, 129, 130, 131, 132, 133, 134, 135, 136, 137, 138, 139, 140, 141, 142, 143, 144, 145, 146, 147, 148, 149, 150, 151, 152, 153, 154, 155, 156, 157, 158, 159, 160, 161, 162, 163, 164, 165, 166, 167, 168, 169, 170, 171, 172, 173, 174] (by with_unfolding_all rfl) (by decide +kernel)
set_option maxRecDepth 20000 in
theorem gX11_readText_X11_nextToken : GoodIn wsX11_readText (wsV RX11 163 RX11 yX11_nextToken wsX11_nextToken) := goodIn_app (goodIn_of _ (by decide +kernel)) ggX11_readText_X11_nextToken
set_option maxRecDepth 100000 in
set_option maxHeartbeats 4000000 in
theorem ggX11_text_X11_readText : GoodIn wsX11_text wsX11_readText := goodIn_r _ [16, 8, 11, 17, 18, 19, 20, 21, 22, 15, 23, 24, 25, 26, 27, 28, 5, 29, 30, 31, 32, 33, 34, 35, 36, 37, 38, 39, 40, 41, 42, 43, 44, 45, 46, 47, 48, 49, 50, 51, 9, 52, 53, 54, 55, 56, 3, 57, 58, 59, 60, 61, 62, 63, 64, 65, 66, 67, 68, 69, 70, 71, 72, 73, 74, 75, 76, 77, 78, 79, 80, 81, 82, 83, 84, 85, 86, 87, 88, 89, 90, 91, 92, 93, 94, 95, 96, 97, 98, 99, 100, 101, 102, 103, 104, 105, 106, 107, 108, 109, 1, 7, 110, 111, 112, 113, 114, 115, 116, 117, 118, 119, 120, 121, 122, 123, 124, 125, 126, 127, 128, 129, 130, 131, 132, 133, 134, 135, 136, 137, 138, 139, 140, 141, 142, 143, 144, 145, 146, 147, 148, 149, 150, 151, 152, 153, 154, 155, 156, 157, 158, 159, 160, 161, 162, 163, 164, 165, 166, 167, 168, 169, 170, 171, 172, 173, 174, 175, 176, 177, 178, 179, 180, 181, 182] (by with_unfolding_all rfl) (by decide +kernel)
set_option maxRecDepth 20000 in
theorem gX11_text_X11_readText : GoodIn wsX11_text (wsV RX11 230 RX11 yX11_readText wsX11_readText) := goodIn_app (goodIn_of _ (by decide +kernel)) ggX11_text_X11_readText
set_option maxRecDepth 20000 in
theorem ggX11_text_X11_rowAt : GoodIn wsX11_text wsX11_rowAt := goodIn_r _ [116] (by decide +kernel) (by decide +kernel)
set_option maxRecDepth 20000 in
theorem gX11_text_X11_rowAt : GoodIn wsX11_text (va_wsS RX11 96 yX11_rowAt wsX11_rowAt) := goodIn_app (goodIn_of _ (by decide +kernel)) ggX11_text_X11_rowAt
set_option maxRecDepth 20000 in
theorem ggX11_look_X11_isIn : GoodIn wsX11_look wsX11_isIn := goodIn_r _ [6] (by decide +kernel) (by decide +kernel)
set_option maxRecDepth 20000 in
theorem gX11_look_X11_isIn : GoodIn wsX11_look (va_wsS RX11 100 yX11_isIn wsX11_isIn) := goodIn_app (goodIn_of _ (by decide +kernel)) ggX11_look_X11_isIn
set_option maxRecDepth 100000 in
set_option maxHeartbeats 4000000 in
theorem c_mclear (l : Launch) (D : va_G) (cI cR cM : ClassId) (sz : Nat) (mm : Nat) (m0 m1 m2 m3 m4 m5 m6 m7 m8 m9 m10 m11 m12 m13 m14 m15 m16 m17 m18 m19 m20 m21 m22 m23 m24 m25 m26 m27 m28 m29 m30 m31 m32 m33 m34 m35 m36 m37 m38 m39 m40 m41 m43 m44 m45 m46 : Value)  : Met l yX11_clear wsX11_clear ({ frames := 0, cells := 0, slots := 0, locals := 0 }) (P0 D cI cR cM [.ref mm] sz [(mm, .inr (11, [m0, m1, m2, m3, m4, m5, m6, m7, m8, m9, m10, m11, m12, m13, m14, m15, m16, m17, m18, m19, m20, m21, m22, m23, m24, m25, m26, m27, m28, m29, m30, m31, m32, m33, m34, m35, m36, m37, m38, m39, m40, m41, .int 0, m43, m44, m45, m46]))]) (QG (S := Unit) (fun _ => some (.int 0)) (fun _ => []) (fun _ => True) D (va_A [(mm, .inr (11, [m0, m1, m2, m3, m4, m5, m6, m7, m8, m9, m10, m11, m12, m13, m14, m15, m16, m17, m18, m19, m20, m21, m22, m23, m24, m25, m26, m27, m28, m29, m30, m31, m32, m33, m34, m35, m36, m37, m38, m39, m40, m41, .int 0, m43, m44, m45, m46]))] sz)) 0 0 (va_A [(mm, .inr (11, [m0, m1, m2, m3, m4, m5, m6, m7, m8, m9, m10, m11, m12, m13, m14, m15, m16, m17, m18, m19, m20, m21, m22, m23, m24, m25, m26, m27, m28, m29, m30, m31, m32, m33, m34, m35, m36, m37, m38, m39, m40, m41, .int 0, m43, m44, m45, m46]))] sz) := by
  refine go (cc := cX11_clear) (maxL := 2) (ret := (some .int)) (by decide) rfl (Nat.le_of_ble_eq_true rfl) ?_
  intro p e s m below meth c ls args Q hQ hsz hx hb hr hml hts hown hlocks hnm hP hK hD hl
  subst hsz
  have hD := hD.self (sz := s.heap.size)
  generalize hAe : va_A [(mm, .inr (11, [m0, m1, m2, m3, m4, m5, m6, m7, m8, m9, m10, m11, m12, m13, m14, m15, m16, m17, m18, m19, m20, m21, m22, m23, m24, m25, m26, m27, m28, m29, m30, m31, m32, m33, m34, m35, m36, m37, m38, m39, m40, m41, .int 0, m43, m44, m45, m46]))] s.heap.size = A at hD hQ
  have hA : ∀ q, s.heap.size ≤ q → A q := fun q h => by rw [← hAe]; exact Or.inr h
  have hS : va_S A s.heap s.heap [] := va_S.rf
  have hl : lv_has ls 2 [(0, .ref mm)] := hl
  refine lv_aload_n hx hb dX11_clear_0 rfl (lv_at hl 0 rfl) ?_
  refine va_get (D := D) (ci := 11) (v := .int 0) (C := RX11) (T := TX11) (N := 47) hx hb hts (by decide +kernel) hown hK.1 hP 0 rfl rfl 42 (by decide) (hts (.fieldLink RX11 310 "JugglingHallModel" "scored" "I") (by decide +kernel)) (fun _ h9 => h9) rfl dX11_clear_1 ?_
  refine lv_istore_n (lv' := [(1, .int 0), (0, .ref mm)]) hx hb dX11_clear_4 rfl hl (by decide) rfl (fun ls hl => ?_)
  refine lv_aload_n hx hb dX11_clear_5 rfl (lv_at hl 1 rfl) ?_
  refine lv_iconst (v := 0) hx hb dX11_clear_6 (by decide) ?_
  refine va_put (D := D) (ci := 11) (v := .int 0) (ty := .int) (C := RX11) (T := TX11) (N := 47) hx hb hts (by decide +kernel) tyX11 tyX11_ok nmX11 hown hK.1 hP hD hS 0 rfl rfl 42 (by decide) (hts (.fieldLink RX11 310 "JugglingHallModel" "scored" "I") (by decide +kernel)) (fun _ h9 => h9) rfl (by decide +kernel) rfl rfl (Nat.le_of_ble_eq_true rfl) dX11_clear_7 (fun H locs hP hD hS => ?_)
  have hP : va_P D vwCl [(mm, .inr (11, [m0, m1, m2, m3, m4, m5, m6, m7, m8, m9, m10, m11, m12, m13, m14, m15, m16, m17, m18, m19, m20, m21, m22, m23, m24, m25, m26, m27, m28, m29, m30, m31, m32, m33, m34, m35, m36, m37, m38, m39, m40, m41, .int 0, m43, m44, m45, m46]))] H := hP
  have hD : va_D A [(mm, .inr (11, [m0, m1, m2, m3, m4, m5, m6, m7, m8, m9, m10, m11, m12, m13, m14, m15, m16, m17, m18, m19, m20, m21, m22, m23, m24, m25, m26, m27, m28, m29, m30, m31, m32, m33, m34, m35, m36, m37, m38, m39, m40, m41, .int 0, m43, m44, m45, m46]))] := hD
  refine lv_iload_n hx hb dX11_clear_10 rfl (lv_at hl 0 rfl) ?_
  exact g_iret (()) hx hb hr hlocks hS rfl (trivial) va_P_nil va_D_nil hQ (Nat.le_of_ble_eq_true rfl) (Nat.le_of_ble_eq_true rfl) dX11_clear_11
set_option maxRecDepth 100000 in
set_option maxHeartbeats 4000000 in
theorem c_mlook (l : Launch) (D : va_G) (cI cR cM : ClassId) (sz : Nat) (i0 : Int32) (mm : Nat) (m0 m1 m2 m4 m5 m6 m7 m8 m9 m10 m11 m12 m13 m14 m15 m16 m17 m18 m19 m20 m21 m22 m23 m24 m25 m26 m27 m28 m29 m30 m31 m32 m33 m34 m35 m36 m37 m38 m39 m40 m41 m42 m43 m44 m45 m46 : Value)  : Met l yX11_look wsX11_look ({ frames := 1, cells := 0, slots := 0, locals := 22 }) (P0 D cI cR cM [.ref mm, .int i0] sz [(mm, .inr (11, [m0, m1, m2, .int 0, m4, m5, m6, m7, m8, m9, m10, m11, m12, m13, m14, m15, m16, m17, m18, m19, m20, m21, m22, m23, m24, m25, m26, m27, m28, m29, m30, m31, m32, m33, m34, m35, m36, m37, m38, m39, m40, m41, m42, m43, m44, m45, m46]))]) (QG (S := Unit) (fun _ => some (.int (if i0 = 0 then 1 else 0))) (fun _ => []) (fun _ => True) D (va_A [(mm, .inr (11, [m0, m1, m2, .int 0, m4, m5, m6, m7, m8, m9, m10, m11, m12, m13, m14, m15, m16, m17, m18, m19, m20, m21, m22, m23, m24, m25, m26, m27, m28, m29, m30, m31, m32, m33, m34, m35, m36, m37, m38, m39, m40, m41, m42, m43, m44, m45, m46]))] sz)) 0 0 (va_A [(mm, .inr (11, [m0, m1, m2, .int 0, m4, m5, m6, m7, m8, m9, m10, m11, m12, m13, m14, m15, m16, m17, m18, m19, m20, m21, m22, m23, m24, m25, m26, m27, m28, m29, m30, m31, m32, m33, m34, m35, m36, m37, m38, m39, m40, m41, m42, m43, m44, m45, m46]))] sz) := by
  refine go (cc := cX11_look) (maxL := 2) (ret := (some .boolean)) (by decide) rfl (Nat.le_of_ble_eq_true rfl) ?_
  intro p e s m below meth c ls args Q hQ hsz hx hb hr hml hts hown hlocks hnm hP hK hD hl
  subst hsz
  have hD := hD.self (sz := s.heap.size)
  generalize hAe : va_A [(mm, .inr (11, [m0, m1, m2, .int 0, m4, m5, m6, m7, m8, m9, m10, m11, m12, m13, m14, m15, m16, m17, m18, m19, m20, m21, m22, m23, m24, m25, m26, m27, m28, m29, m30, m31, m32, m33, m34, m35, m36, m37, m38, m39, m40, m41, m42, m43, m44, m45, m46]))] s.heap.size = A at hD hQ
  have hA : ∀ q, s.heap.size ≤ q → A q := fun q h => by rw [← hAe]; exact Or.inr h
  have hS : va_S A s.heap s.heap [] := va_S.rf
  have hl : lv_has ls 2 [(0, .ref mm), (1, .int i0)] := hl
  refine lv_iload_n hx hb dX11_look_0 rfl (lv_at hl 1 rfl) ?_
  refine lv_iconst (v := 0) hx hb dX11_look_1 (by decide) ?_
  refine lv_aload_n hx hb dX11_look_2 rfl (lv_at hl 0 rfl) ?_
  refine va_get (D := D) (ci := 11) (v := .int 0) (C := RX11) (T := TX11) (N := 47) hx hb hts (by decide +kernel) hown hK.1 hP 0 rfl rfl 3 (by decide) (hts (.fieldLink RX11 185 "JugglingHallModel" "time" "I") (by decide +kernel)) (fun _ h9 => h9) rfl dX11_look_3 ?_
  refine ro (va_runS (As := [.int i0, .int 0, .int 0]) (rest := []) ⟨hx, hb, hml, hown, hts⟩ (c_isIn l D cI cR cM _ i0 0 0) (va_cwS 3 hts gX11_look_X11_isIn rfl rfl rfl (by decide +kernel) ⟨Nat.le_of_ble_eq_true rfl, Nat.le_of_ble_eq_true rfl⟩) (pre_S hK va_P_nil (va_D_nil (A := fun _ => True))) rfl rfl hl.1 rfl (lv_room (Nat.le_of_ble_eq_true rfl)) dX11_look_6 ⟨Nat.le_of_ble_eq_true rfl, Nat.le_of_ble_eq_true rfl⟩) hS hA hP (fun H locs hP hS => ?_)
  refine lv_eqi (y := (if i0 = 0 then 1 else 0)) (inI_z) ?_
  rcases Classical.em (i0 = 0) with e0 | e0
  · refine lv_eqi (y := 1) (if_pos e0) ?_
    refine lv_if_ne (tgt := 14) hx hb dX11_look_9 (by decide) (fun c9 => ?_) (fun c9 => absurd c9 (by decide))
    refine lv_aload_n hx hb dX11_look_14 rfl (lv_at hl 0 rfl) ?_
    refine lv_iload_n hx hb dX11_look_15 rfl (lv_at hl 1 rfl) ?_
    refine va_put (D := D) (ci := 11) (v := .int i0) (ty := .int) (C := RX11) (T := TX11) (N := 47) hx hb hts (by decide +kernel) tyX11 tyX11_ok nmX11 hown hK.1 hP hD hS 0 rfl rfl 4 (by decide) (hts (.fieldLink RX11 104 "JugglingHallModel" "looked" "I") (by decide +kernel)) (fun _ h9 => h9) rfl (by decide +kernel) rfl rfl (Nat.le_of_ble_eq_true rfl) dX11_look_16 (fun H locs hP hD hS => ?_)
    have hP : va_P D vwCl [(mm, .inr (11, [m0, m1, m2, .int 0, .int i0, m5, m6, m7, m8, m9, m10, m11, m12, m13, m14, m15, m16, m17, m18, m19, m20, m21, m22, m23, m24, m25, m26, m27, m28, m29, m30, m31, m32, m33, m34, m35, m36, m37, m38, m39, m40, m41, m42, m43, m44, m45, m46]))] H := hP
    have hD : va_D A [(mm, .inr (11, [m0, m1, m2, .int 0, .int i0, m5, m6, m7, m8, m9, m10, m11, m12, m13, m14, m15, m16, m17, m18, m19, m20, m21, m22, m23, m24, m25, m26, m27, m28, m29, m30, m31, m32, m33, m34, m35, m36, m37, m38, m39, m40, m41, m42, m43, m44, m45, m46]))] := hD
    refine lv_iconst (v := 1) hx hb dX11_look_19 (by decide) ?_
    exact g_zret () hx hb hr hlocks hS (by decide) (by rw [if_pos e0]) trivial va_P_nil va_D_nil hQ (Nat.le_of_ble_eq_true rfl) (Nat.le_of_ble_eq_true rfl) dX11_look_20
  · refine lv_eqi (y := 0) (if_neg e0) ?_
    refine lv_if_ne (tgt := 14) hx hb dX11_look_9 (by decide) (fun c9 => absurd (by decide) c9) (fun c9 => ?_)
    refine lv_iconst (v := 0) hx hb dX11_look_12 (by decide) ?_
    exact g_zret () hx hb hr hlocks hS (by decide) (by rw [if_neg e0]) trivial va_P_nil va_D_nil hQ (Nat.le_of_ble_eq_true rfl) (Nat.le_of_ble_eq_true rfl) dX11_look_13
set_option maxRecDepth 100000 in
set_option maxHeartbeats 4000000 in
theorem c_mend (l : Launch) (D : va_G) (cI cR cM : ClassId) (sz : Nat) (i0 : Int32) (mm : Nat) (m0 m1 m2 m3 m4 m5 m7 m8 m9 m10 m11 m12 m13 m14 m15 m16 m17 m18 m19 m20 m21 m22 m23 m24 m25 m26 m27 m28 m29 m30 m31 m32 m33 m34 m35 m36 m37 m38 m39 m40 m41 m42 m43 m44 m45 m46 : Value)  : Met l yX11_end wsX11_end ({ frames := 1, cells := 0, slots := 0, locals := 22 }) (P0 D cI cR cM [.ref mm, .int i0] sz [(mm, .inr (11, [m0, m1, m2, m3, m4, m5, .int 0, m7, m8, m9, m10, m11, m12, m13, m14, m15, m16, m17, m18, m19, m20, m21, m22, m23, m24, m25, m26, m27, m28, m29, m30, m31, m32, m33, m34, m35, m36, m37, m38, m39, m40, m41, m42, m43, m44, m45, m46]))]) (QG (S := Unit) (fun _ => some (.int (if i0 = 0 then 0 else -1))) (fun _ => []) (fun _ => True) D (va_A [(mm, .inr (11, [m0, m1, m2, m3, m4, m5, .int 0, m7, m8, m9, m10, m11, m12, m13, m14, m15, m16, m17, m18, m19, m20, m21, m22, m23, m24, m25, m26, m27, m28, m29, m30, m31, m32, m33, m34, m35, m36, m37, m38, m39, m40, m41, m42, m43, m44, m45, m46]))] sz)) 0 0 (va_A [(mm, .inr (11, [m0, m1, m2, m3, m4, m5, .int 0, m7, m8, m9, m10, m11, m12, m13, m14, m15, m16, m17, m18, m19, m20, m21, m22, m23, m24, m25, m26, m27, m28, m29, m30, m31, m32, m33, m34, m35, m36, m37, m38, m39, m40, m41, m42, m43, m44, m45, m46]))] sz) := by
  refine go (cc := cX11_end) (maxL := 2) (ret := (some .int)) (by decide) rfl (Nat.le_of_ble_eq_true rfl) ?_
  intro p e s m below meth c ls args Q hQ hsz hx hb hr hml hts hown hlocks hnm hP hK hD hl
  subst hsz
  have hD := hD.self (sz := s.heap.size)
  generalize hAe : va_A [(mm, .inr (11, [m0, m1, m2, m3, m4, m5, .int 0, m7, m8, m9, m10, m11, m12, m13, m14, m15, m16, m17, m18, m19, m20, m21, m22, m23, m24, m25, m26, m27, m28, m29, m30, m31, m32, m33, m34, m35, m36, m37, m38, m39, m40, m41, m42, m43, m44, m45, m46]))] s.heap.size = A at hD hQ
  have hA : ∀ q, s.heap.size ≤ q → A q := fun q h => by rw [← hAe]; exact Or.inr h
  have hS : va_S A s.heap s.heap [] := va_S.rf
  have hl : lv_has ls 2 [(0, .ref mm), (1, .int i0)] := hl
  refine lv_iload_n hx hb dX11_end_0 rfl (lv_at hl 1 rfl) ?_
  refine lv_iconst (v := 0) hx hb dX11_end_1 (by decide) ?_
  refine lv_aload_n hx hb dX11_end_2 rfl (lv_at hl 0 rfl) ?_
  refine va_get (D := D) (ci := 11) (v := .int 0) (C := RX11) (T := TX11) (N := 47) hx hb hts (by decide +kernel) hown hK.1 hP 0 rfl rfl 6 (by decide) (hts (.fieldLink RX11 110 "JugglingHallModel" "taped" "I") (by decide +kernel)) (fun _ h9 => h9) rfl dX11_end_3 ?_
  refine ro (va_runS (As := [.int i0, .int 0, .int 0]) (rest := []) ⟨hx, hb, hml, hown, hts⟩ (c_isIn l D cI cR cM _ i0 0 0) (va_cwS 3 hts gX11_end_X11_isIn rfl rfl rfl (by decide +kernel) ⟨Nat.le_of_ble_eq_true rfl, Nat.le_of_ble_eq_true rfl⟩) (pre_S hK va_P_nil (va_D_nil (A := fun _ => True))) rfl rfl hl.1 rfl (lv_room (Nat.le_of_ble_eq_true rfl)) dX11_end_6 ⟨Nat.le_of_ble_eq_true rfl, Nat.le_of_ble_eq_true rfl⟩) hS hA hP (fun H locs hP hS => ?_)
  refine lv_eqi (y := (if i0 = 0 then 1 else 0)) (inI_z) ?_
  rcases Classical.em (i0 = 0) with e0 | e0
  · refine lv_eqi (y := 1) (if_pos e0) ?_
    refine lv_if_ne (tgt := 14) hx hb dX11_end_9 (by decide) (fun c9 => ?_) (fun c9 => absurd c9 (by decide))
    refine lv_aload_n hx hb dX11_end_14 rfl (lv_at hl 0 rfl) ?_
    refine lv_iload_n hx hb dX11_end_15 rfl (lv_at hl 1 rfl) ?_
    refine va_put (D := D) (ci := 11) (v := .int i0) (ty := .int) (C := RX11) (T := TX11) (N := 47) hx hb hts (by decide +kernel) tyX11 tyX11_ok nmX11 hown hK.1 hP hD hS 0 rfl rfl 6 (by decide) (hts (.fieldLink RX11 110 "JugglingHallModel" "taped" "I") (by decide +kernel)) (fun _ h9 => h9) rfl (by decide +kernel) rfl rfl (Nat.le_of_ble_eq_true rfl) dX11_end_16 (fun H locs hP hD hS => ?_)
    have hP : va_P D vwCl [(mm, .inr (11, [m0, m1, m2, m3, m4, m5, .int i0, m7, m8, m9, m10, m11, m12, m13, m14, m15, m16, m17, m18, m19, m20, m21, m22, m23, m24, m25, m26, m27, m28, m29, m30, m31, m32, m33, m34, m35, m36, m37, m38, m39, m40, m41, m42, m43, m44, m45, m46]))] H := hP
    have hD : va_D A [(mm, .inr (11, [m0, m1, m2, m3, m4, m5, .int i0, m7, m8, m9, m10, m11, m12, m13, m14, m15, m16, m17, m18, m19, m20, m21, m22, m23, m24, m25, m26, m27, m28, m29, m30, m31, m32, m33, m34, m35, m36, m37, m38, m39, m40, m41, m42, m43, m44, m45, m46]))] := hD
    refine lv_iload_n hx hb dX11_end_19 rfl (lv_at hl 1 rfl) ?_
    exact g_iret () hx hb hr hlocks hS (by rw [if_pos e0, e0]) trivial va_P_nil va_D_nil hQ (Nat.le_of_ble_eq_true rfl) (Nat.le_of_ble_eq_true rfl) dX11_end_20
  · refine lv_eqi (y := 0) (if_neg e0) ?_
    refine lv_if_ne (tgt := 14) hx hb dX11_end_9 (by decide) (fun c9 => absurd (by decide) c9) (fun c9 => ?_)
    refine lv_iconst (v := (-1)) hx hb dX11_end_12 (by decide) ?_
    exact g_iret () hx hb hr hlocks hS (by rw [if_neg e0]) trivial va_P_nil va_D_nil hQ (Nat.le_of_ble_eq_true rfl) (Nat.le_of_ble_eq_true rfl) dX11_end_13
set_option maxRecDepth 100000 in
set_option maxHeartbeats 4000000 in
theorem c_four (l : Launch) (D : va_G) (cI cR cM : ClassId) (sz : Nat) {n : Nat} (hn : n + 4 ≤ 300) (mm : Nat) (m0 m1 m2 m3 m4 m7 m8 m9 m10 m11 m12 m13 m14 m15 m16 m17 m18 m19 m20 m21 m22 m23 m24 m25 m26 m27 m28 m29 m30 m31 m32 m33 m34 m35 m36 m37 m38 m39 m40 m41 m42 m43 m44 m45 m46 : Value) (tb : Nat) (f : Nat → Int32) (v : Int32) : Met l yX11_four wsX11_four ({ frames := 0, cells := 0, slots := 0, locals := 0 }) (P0 D cI cR cM [.ref mm, .int v] sz [(mm, .inr (11, [m0, m1, m2, m3, m4, .ref tb, .int (nI n), m7, m8, m9, m10, m11, m12, m13, m14, m15, m16, m17, m18, m19, m20, m21, m22, m23, m24, m25, m26, m27, m28, m29, m30, m31, m32, m33, m34, m35, m36, m37, m38, m39, m40, m41, m42, m43, m44, m45, m46])), (tb, .inl (cI, 300, .inl f))]) (QG (S := Nat → Int32) (fun _ => none) (fun g => [(mm, .inr (11, [m0, m1, m2, m3, m4, .ref tb, .int (nI (n + 4)), m7, m8, m9, m10, m11, m12, m13, m14, m15, m16, m17, m18, m19, m20, m21, m22, m23, m24, m25, m26, m27, m28, m29, m30, m31, m32, m33, m34, m35, m36, m37, m38, m39, m40, m41, m42, m43, m44, m45, m46])), (tb, .inl (cI, 300, .inl g))]) (fun _ => True) D (va_A [(mm, .inr (11, [m0, m1, m2, m3, m4, .ref tb, .int (nI n), m7, m8, m9, m10, m11, m12, m13, m14, m15, m16, m17, m18, m19, m20, m21, m22, m23, m24, m25, m26, m27, m28, m29, m30, m31, m32, m33, m34, m35, m36, m37, m38, m39, m40, m41, m42, m43, m44, m45, m46])), (tb, .inl (cI, 300, .inl f))] sz)) 0 0 (va_A [(mm, .inr (11, [m0, m1, m2, m3, m4, .ref tb, .int (nI n), m7, m8, m9, m10, m11, m12, m13, m14, m15, m16, m17, m18, m19, m20, m21, m22, m23, m24, m25, m26, m27, m28, m29, m30, m31, m32, m33, m34, m35, m36, m37, m38, m39, m40, m41, m42, m43, m44, m45, m46])), (tb, .inl (cI, 300, .inl f))] sz) := by
  refine go (cc := cX11_four) (maxL := 3) (ret := none) (by decide) rfl (Nat.le_of_ble_eq_true rfl) ?_
  intro p e s m below meth c ls args Q hQ hsz hx hb hr hml hts hown hlocks hnm hP hK hD hl
  subst hsz
  have hD := hD.self (sz := s.heap.size)
  generalize hAe : va_A [(mm, .inr (11, [m0, m1, m2, m3, m4, .ref tb, .int (nI n), m7, m8, m9, m10, m11, m12, m13, m14, m15, m16, m17, m18, m19, m20, m21, m22, m23, m24, m25, m26, m27, m28, m29, m30, m31, m32, m33, m34, m35, m36, m37, m38, m39, m40, m41, m42, m43, m44, m45, m46])), (tb, .inl (cI, 300, .inl f))] s.heap.size = A at hD hQ
  have hA : ∀ q, s.heap.size ≤ q → A q := fun q h => by rw [← hAe]; exact Or.inr h
  have hS : va_S A s.heap s.heap [] := va_S.rf
  have hl : lv_has ls 3 [(0, .ref mm), (1, .int v)] := hl
  refine lv_bipush (v := 24) hx hb dX11_four_0 (by decide) ?_
  refine lv_istore_n (lv' := [(2, .int 24), (0, .ref mm), (1, .int v)]) hx hb dX11_four_2 rfl hl (by decide) rfl (fun ls hl => ?_)
  refine lv_iload_n hx hb dX11_four_3 rfl (lv_at hl 0 rfl) ?_
  refine lv_if_lt (tgt := 39) hx hb dX11_four_4 (by decide) (fun c4 => absurd c4 (by decide)) (fun c4 => ?_)
  refine lv_aload_n hx hb dX11_four_7 rfl (lv_at hl 1 rfl) ?_
  refine va_get (D := D) (ci := 11) (v := .ref tb) (C := RX11) (T := TX11) (N := 47) hx hb hts (by decide +kernel) hown hK.1 hP 0 rfl rfl 5 (by decide) (hts (.fieldLink RX11 17 "JugglingHallModel" "tape" "[I") (by decide +kernel)) (fun _ h9 => h9) rfl dX11_four_8 ?_
  refine lv_aload_n hx hb dX11_four_11 rfl (lv_at hl 1 rfl) ?_
  refine va_get (D := D) (ci := 11) (v := .int (nI n)) (C := RX11) (T := TX11) (N := 47) hx hb hts (by decide +kernel) hown hK.1 hP 0 rfl rfl 6 (by decide) (hts (.fieldLink RX11 110 "JugglingHallModel" "taped" "I") (by decide +kernel)) (fun _ h9 => h9) rfl dX11_four_12 ?_
  refine lv_iload_n hx hb dX11_four_15 rfl (lv_at hl 2 rfl) ?_
  refine lv_iload_n hx hb dX11_four_16 rfl (lv_at hl 0 rfl) ?_
  refine lv_ishr hx hb dX11_four_17 ?_
  refine lv_sipush (v := 255) hx hb dX11_four_18 (by decide) ?_
  refine lv_iand hx hb dX11_four_21 ?_
  refine ast_n (k := n) hx hb hK.1 hP hD hS 1 0 rfl rfl (by omega) (by decide) dX11_four_22 (fun H locs hP hD hS => ?_)
  have hP : va_P D vwCl [(mm, .inr (11, [m0, m1, m2, m3, m4, .ref tb, .int (nI n), m7, m8, m9, m10, m11, m12, m13, m14, m15, m16, m17, m18, m19, m20, m21, m22, m23, m24, m25, m26, m27, m28, m29, m30, m31, m32, m33, m34, m35, m36, m37, m38, m39, m40, m41, m42, m43, m44, m45, m46])), (tb, .inl (cI, 300, .inl (upd f n (((v : Int32) >>> ((24 : Int32) &&& 31)) &&& 255))))] H := hP
  have hD : va_D A [(mm, .inr (11, [m0, m1, m2, m3, m4, .ref tb, .int (nI n), m7, m8, m9, m10, m11, m12, m13, m14, m15, m16, m17, m18, m19, m20, m21, m22, m23, m24, m25, m26, m27, m28, m29, m30, m31, m32, m33, m34, m35, m36, m37, m38, m39, m40, m41, m42, m43, m44, m45, m46])), (tb, .inl (cI, 300, .inl (upd f n (((v : Int32) >>> ((24 : Int32) &&& 31)) &&& 255))))] := hD
  generalize (upd f n (((v : Int32) >>> ((24 : Int32) &&& 31)) &&& 255)) = f1 at hP hD
  refine lv_aload_n hx hb dX11_four_23 rfl (lv_at hl 1 rfl) ?_
  refine lv_dup hx hb dX11_four_24 rfl ?_
  refine va_get (D := D) (ci := 11) (v := .int (nI n)) (C := RX11) (T := TX11) (N := 47) hx hb hts (by decide +kernel) hown hK.1 hP 0 rfl rfl 6 (by decide) (hts (.fieldLink RX11 110 "JugglingHallModel" "taped" "I") (by decide +kernel)) (fun _ h9 => h9) rfl dX11_four_25 ?_
  refine lv_iconst (v := 1) hx hb dX11_four_28 (by decide) ?_
  refine lv_iadd hx hb dX11_four_29 ?_
  refine lv_eqi (y := nI (n + 1)) (nI_1 _) ?_
  refine va_put (D := D) (ci := 11) (v := .int (nI (n + 1))) (ty := .int) (C := RX11) (T := TX11) (N := 47) hx hb hts (by decide +kernel) tyX11 tyX11_ok nmX11 hown hK.1 hP hD hS 0 rfl rfl 6 (by decide) (hts (.fieldLink RX11 110 "JugglingHallModel" "taped" "I") (by decide +kernel)) (fun _ h9 => h9) rfl (by decide +kernel) rfl rfl (Nat.le_of_ble_eq_true rfl) dX11_four_30 (fun H locs hP hD hS => ?_)
  have hP : va_P D vwCl [(mm, .inr (11, [m0, m1, m2, m3, m4, .ref tb, .int (nI (n + 1)), m7, m8, m9, m10, m11, m12, m13, m14, m15, m16, m17, m18, m19, m20, m21, m22, m23, m24, m25, m26, m27, m28, m29, m30, m31, m32, m33, m34, m35, m36, m37, m38, m39, m40, m41, m42, m43, m44, m45, m46])), (tb, .inl (cI, 300, .inl f1))] H := hP
  have hD : va_D A [(mm, .inr (11, [m0, m1, m2, m3, m4, .ref tb, .int (nI (n + 1)), m7, m8, m9, m10, m11, m12, m13, m14, m15, m16, m17, m18, m19, m20, m21, m22, m23, m24, m25, m26, m27, m28, m29, m30, m31, m32, m33, m34, m35, m36, m37, m38, m39, m40, m41, m42, m43, m44, m45, m46])), (tb, .inl (cI, 300, .inl f1))] := hD
  refine lv_iinc (v := 16) (lv' := [(2, .int 16), (0, .ref mm), (1, .int v)]) hx hb dX11_four_33 hl (k := 0) rfl (by decide) (by decide) rfl (fun ls hl => ?_)
  refine lv_goto (tgt := 3) hx hb dX11_four_36 (by decide) ?_
  refine lv_iload_n hx hb dX11_four_3 rfl (lv_at hl 0 rfl) ?_
  refine lv_if_lt (tgt := 39) hx hb dX11_four_4 (by decide) (fun c4 => absurd c4 (by decide)) (fun c4 => ?_)
  refine lv_aload_n hx hb dX11_four_7 rfl (lv_at hl 1 rfl) ?_
  refine va_get (D := D) (ci := 11) (v := .ref tb) (C := RX11) (T := TX11) (N := 47) hx hb hts (by decide +kernel) hown hK.1 hP 0 rfl rfl 5 (by decide) (hts (.fieldLink RX11 17 "JugglingHallModel" "tape" "[I") (by decide +kernel)) (fun _ h9 => h9) rfl dX11_four_8 ?_
  refine lv_aload_n hx hb dX11_four_11 rfl (lv_at hl 1 rfl) ?_
  refine va_get (D := D) (ci := 11) (v := .int (nI (n + 1))) (C := RX11) (T := TX11) (N := 47) hx hb hts (by decide +kernel) hown hK.1 hP 0 rfl rfl 6 (by decide) (hts (.fieldLink RX11 110 "JugglingHallModel" "taped" "I") (by decide +kernel)) (fun _ h9 => h9) rfl dX11_four_12 ?_
  refine lv_iload_n hx hb dX11_four_15 rfl (lv_at hl 2 rfl) ?_
  refine lv_iload_n hx hb dX11_four_16 rfl (lv_at hl 0 rfl) ?_
  refine lv_ishr hx hb dX11_four_17 ?_
  refine lv_sipush (v := 255) hx hb dX11_four_18 (by decide) ?_
  refine lv_iand hx hb dX11_four_21 ?_
  refine ast_n (k := n + 1) hx hb hK.1 hP hD hS 1 0 rfl rfl (by omega) (by decide) dX11_four_22 (fun H locs hP hD hS => ?_)
  have hP : va_P D vwCl [(mm, .inr (11, [m0, m1, m2, m3, m4, .ref tb, .int (nI (n + 1)), m7, m8, m9, m10, m11, m12, m13, m14, m15, m16, m17, m18, m19, m20, m21, m22, m23, m24, m25, m26, m27, m28, m29, m30, m31, m32, m33, m34, m35, m36, m37, m38, m39, m40, m41, m42, m43, m44, m45, m46])), (tb, .inl (cI, 300, .inl (upd f1 (n + 1) (((v : Int32) >>> ((16 : Int32) &&& 31)) &&& 255))))] H := hP
  have hD : va_D A [(mm, .inr (11, [m0, m1, m2, m3, m4, .ref tb, .int (nI (n + 1)), m7, m8, m9, m10, m11, m12, m13, m14, m15, m16, m17, m18, m19, m20, m21, m22, m23, m24, m25, m26, m27, m28, m29, m30, m31, m32, m33, m34, m35, m36, m37, m38, m39, m40, m41, m42, m43, m44, m45, m46])), (tb, .inl (cI, 300, .inl (upd f1 (n + 1) (((v : Int32) >>> ((16 : Int32) &&& 31)) &&& 255))))] := hD
  generalize (upd f1 (n + 1) (((v : Int32) >>> ((16 : Int32) &&& 31)) &&& 255)) = f2 at hP hD
  refine lv_aload_n hx hb dX11_four_23 rfl (lv_at hl 1 rfl) ?_
  refine lv_dup hx hb dX11_four_24 rfl ?_
  refine va_get (D := D) (ci := 11) (v := .int (nI (n + 1))) (C := RX11) (T := TX11) (N := 47) hx hb hts (by decide +kernel) hown hK.1 hP 0 rfl rfl 6 (by decide) (hts (.fieldLink RX11 110 "JugglingHallModel" "taped" "I") (by decide +kernel)) (fun _ h9 => h9) rfl dX11_four_25 ?_
  refine lv_iconst (v := 1) hx hb dX11_four_28 (by decide) ?_
  refine lv_iadd hx hb dX11_four_29 ?_
  refine lv_eqi (y := nI (n + 2)) (nI_1 _) ?_
  refine va_put (D := D) (ci := 11) (v := .int (nI (n + 2))) (ty := .int) (C := RX11) (T := TX11) (N := 47) hx hb hts (by decide +kernel) tyX11 tyX11_ok nmX11 hown hK.1 hP hD hS 0 rfl rfl 6 (by decide) (hts (.fieldLink RX11 110 "JugglingHallModel" "taped" "I") (by decide +kernel)) (fun _ h9 => h9) rfl (by decide +kernel) rfl rfl (Nat.le_of_ble_eq_true rfl) dX11_four_30 (fun H locs hP hD hS => ?_)
  have hP : va_P D vwCl [(mm, .inr (11, [m0, m1, m2, m3, m4, .ref tb, .int (nI (n + 2)), m7, m8, m9, m10, m11, m12, m13, m14, m15, m16, m17, m18, m19, m20, m21, m22, m23, m24, m25, m26, m27, m28, m29, m30, m31, m32, m33, m34, m35, m36, m37, m38, m39, m40, m41, m42, m43, m44, m45, m46])), (tb, .inl (cI, 300, .inl f2))] H := hP
  have hD : va_D A [(mm, .inr (11, [m0, m1, m2, m3, m4, .ref tb, .int (nI (n + 2)), m7, m8, m9, m10, m11, m12, m13, m14, m15, m16, m17, m18, m19, m20, m21, m22, m23, m24, m25, m26, m27, m28, m29, m30, m31, m32, m33, m34, m35, m36, m37, m38, m39, m40, m41, m42, m43, m44, m45, m46])), (tb, .inl (cI, 300, .inl f2))] := hD
  refine lv_iinc (v := 8) (lv' := [(2, .int 8), (0, .ref mm), (1, .int v)]) hx hb dX11_four_33 hl (k := 0) rfl (by decide) (by decide) rfl (fun ls hl => ?_)
  refine lv_goto (tgt := 3) hx hb dX11_four_36 (by decide) ?_
  refine lv_iload_n hx hb dX11_four_3 rfl (lv_at hl 0 rfl) ?_
  refine lv_if_lt (tgt := 39) hx hb dX11_four_4 (by decide) (fun c4 => absurd c4 (by decide)) (fun c4 => ?_)
  refine lv_aload_n hx hb dX11_four_7 rfl (lv_at hl 1 rfl) ?_
  refine va_get (D := D) (ci := 11) (v := .ref tb) (C := RX11) (T := TX11) (N := 47) hx hb hts (by decide +kernel) hown hK.1 hP 0 rfl rfl 5 (by decide) (hts (.fieldLink RX11 17 "JugglingHallModel" "tape" "[I") (by decide +kernel)) (fun _ h9 => h9) rfl dX11_four_8 ?_
  refine lv_aload_n hx hb dX11_four_11 rfl (lv_at hl 1 rfl) ?_
  refine va_get (D := D) (ci := 11) (v := .int (nI (n + 2))) (C := RX11) (T := TX11) (N := 47) hx hb hts (by decide +kernel) hown hK.1 hP 0 rfl rfl 6 (by decide) (hts (.fieldLink RX11 110 "JugglingHallModel" "taped" "I") (by decide +kernel)) (fun _ h9 => h9) rfl dX11_four_12 ?_
  refine lv_iload_n hx hb dX11_four_15 rfl (lv_at hl 2 rfl) ?_
  refine lv_iload_n hx hb dX11_four_16 rfl (lv_at hl 0 rfl) ?_
  refine lv_ishr hx hb dX11_four_17 ?_
  refine lv_sipush (v := 255) hx hb dX11_four_18 (by decide) ?_
  refine lv_iand hx hb dX11_four_21 ?_
  refine ast_n (k := n + 2) hx hb hK.1 hP hD hS 1 0 rfl rfl (by omega) (by decide) dX11_four_22 (fun H locs hP hD hS => ?_)
  have hP : va_P D vwCl [(mm, .inr (11, [m0, m1, m2, m3, m4, .ref tb, .int (nI (n + 2)), m7, m8, m9, m10, m11, m12, m13, m14, m15, m16, m17, m18, m19, m20, m21, m22, m23, m24, m25, m26, m27, m28, m29, m30, m31, m32, m33, m34, m35, m36, m37, m38, m39, m40, m41, m42, m43, m44, m45, m46])), (tb, .inl (cI, 300, .inl (upd f2 (n + 2) (((v : Int32) >>> ((8 : Int32) &&& 31)) &&& 255))))] H := hP
  have hD : va_D A [(mm, .inr (11, [m0, m1, m2, m3, m4, .ref tb, .int (nI (n + 2)), m7, m8, m9, m10, m11, m12, m13, m14, m15, m16, m17, m18, m19, m20, m21, m22, m23, m24, m25, m26, m27, m28, m29, m30, m31, m32, m33, m34, m35, m36, m37, m38, m39, m40, m41, m42, m43, m44, m45, m46])), (tb, .inl (cI, 300, .inl (upd f2 (n + 2) (((v : Int32) >>> ((8 : Int32) &&& 31)) &&& 255))))] := hD
  generalize (upd f2 (n + 2) (((v : Int32) >>> ((8 : Int32) &&& 31)) &&& 255)) = f3 at hP hD
  refine lv_aload_n hx hb dX11_four_23 rfl (lv_at hl 1 rfl) ?_
  refine lv_dup hx hb dX11_four_24 rfl ?_
  refine va_get (D := D) (ci := 11) (v := .int (nI (n + 2))) (C := RX11) (T := TX11) (N := 47) hx hb hts (by decide +kernel) hown hK.1 hP 0 rfl rfl 6 (by decide) (hts (.fieldLink RX11 110 "JugglingHallModel" "taped" "I") (by decide +kernel)) (fun _ h9 => h9) rfl dX11_four_25 ?_
  refine lv_iconst (v := 1) hx hb dX11_four_28 (by decide) ?_
  refine lv_iadd hx hb dX11_four_29 ?_
  refine lv_eqi (y := nI (n + 3)) (nI_1 _) ?_
  refine va_put (D := D) (ci := 11) (v := .int (nI (n + 3))) (ty := .int) (C := RX11) (T := TX11) (N := 47) hx hb hts (by decide +kernel) tyX11 tyX11_ok nmX11 hown hK.1 hP hD hS 0 rfl rfl 6 (by decide) (hts (.fieldLink RX11 110 "JugglingHallModel" "taped" "I") (by decide +kernel)) (fun _ h9 => h9) rfl (by decide +kernel) rfl rfl (Nat.le_of_ble_eq_true rfl) dX11_four_30 (fun H locs hP hD hS => ?_)
  have hP : va_P D vwCl [(mm, .inr (11, [m0, m1, m2, m3, m4, .ref tb, .int (nI (n + 3)), m7, m8, m9, m10, m11, m12, m13, m14, m15, m16, m17, m18, m19, m20, m21, m22, m23, m24, m25, m26, m27, m28, m29, m30, m31, m32, m33, m34, m35, m36, m37, m38, m39, m40, m41, m42, m43, m44, m45, m46])), (tb, .inl (cI, 300, .inl f3))] H := hP
  have hD : va_D A [(mm, .inr (11, [m0, m1, m2, m3, m4, .ref tb, .int (nI (n + 3)), m7, m8, m9, m10, m11, m12, m13, m14, m15, m16, m17, m18, m19, m20, m21, m22, m23, m24, m25, m26, m27, m28, m29, m30, m31, m32, m33, m34, m35, m36, m37, m38, m39, m40, m41, m42, m43, m44, m45, m46])), (tb, .inl (cI, 300, .inl f3))] := hD
  refine lv_iinc (v := 0) (lv' := [(2, .int 0), (0, .ref mm), (1, .int v)]) hx hb dX11_four_33 hl (k := 0) rfl (by decide) (by decide) rfl (fun ls hl => ?_)
  refine lv_goto (tgt := 3) hx hb dX11_four_36 (by decide) ?_
  refine lv_iload_n hx hb dX11_four_3 rfl (lv_at hl 0 rfl) ?_
  refine lv_if_lt (tgt := 39) hx hb dX11_four_4 (by decide) (fun c4 => absurd c4 (by decide)) (fun c4 => ?_)
  refine lv_aload_n hx hb dX11_four_7 rfl (lv_at hl 1 rfl) ?_
  refine va_get (D := D) (ci := 11) (v := .ref tb) (C := RX11) (T := TX11) (N := 47) hx hb hts (by decide +kernel) hown hK.1 hP 0 rfl rfl 5 (by decide) (hts (.fieldLink RX11 17 "JugglingHallModel" "tape" "[I") (by decide +kernel)) (fun _ h9 => h9) rfl dX11_four_8 ?_
  refine lv_aload_n hx hb dX11_four_11 rfl (lv_at hl 1 rfl) ?_
  refine va_get (D := D) (ci := 11) (v := .int (nI (n + 3))) (C := RX11) (T := TX11) (N := 47) hx hb hts (by decide +kernel) hown hK.1 hP 0 rfl rfl 6 (by decide) (hts (.fieldLink RX11 110 "JugglingHallModel" "taped" "I") (by decide +kernel)) (fun _ h9 => h9) rfl dX11_four_12 ?_
  refine lv_iload_n hx hb dX11_four_15 rfl (lv_at hl 2 rfl) ?_
  refine lv_iload_n hx hb dX11_four_16 rfl (lv_at hl 0 rfl) ?_
  refine lv_ishr hx hb dX11_four_17 ?_
  refine lv_sipush (v := 255) hx hb dX11_four_18 (by decide) ?_
  refine lv_iand hx hb dX11_four_21 ?_
  refine ast_n (k := n + 3) hx hb hK.1 hP hD hS 1 0 rfl rfl (by omega) (by decide) dX11_four_22 (fun H locs hP hD hS => ?_)
  have hP : va_P D vwCl [(mm, .inr (11, [m0, m1, m2, m3, m4, .ref tb, .int (nI (n + 3)), m7, m8, m9, m10, m11, m12, m13, m14, m15, m16, m17, m18, m19, m20, m21, m22, m23, m24, m25, m26, m27, m28, m29, m30, m31, m32, m33, m34, m35, m36, m37, m38, m39, m40, m41, m42, m43, m44, m45, m46])), (tb, .inl (cI, 300, .inl (upd f3 (n + 3) (((v : Int32) >>> ((0 : Int32) &&& 31)) &&& 255))))] H := hP
  have hD : va_D A [(mm, .inr (11, [m0, m1, m2, m3, m4, .ref tb, .int (nI (n + 3)), m7, m8, m9, m10, m11, m12, m13, m14, m15, m16, m17, m18, m19, m20, m21, m22, m23, m24, m25, m26, m27, m28, m29, m30, m31, m32, m33, m34, m35, m36, m37, m38, m39, m40, m41, m42, m43, m44, m45, m46])), (tb, .inl (cI, 300, .inl (upd f3 (n + 3) (((v : Int32) >>> ((0 : Int32) &&& 31)) &&& 255))))] := hD
  generalize (upd f3 (n + 3) (((v : Int32) >>> ((0 : Int32) &&& 31)) &&& 255)) = f4 at hP hD
  refine lv_aload_n hx hb dX11_four_23 rfl (lv_at hl 1 rfl) ?_
  refine lv_dup hx hb dX11_four_24 rfl ?_
  refine va_get (D := D) (ci := 11) (v := .int (nI (n + 3))) (C := RX11) (T := TX11) (N := 47) hx hb hts (by decide +kernel) hown hK.1 hP 0 rfl rfl 6 (by decide) (hts (.fieldLink RX11 110 "JugglingHallModel" "taped" "I") (by decide +kernel)) (fun _ h9 => h9) rfl dX11_four_25 ?_
  refine lv_iconst (v := 1) hx hb dX11_four_28 (by decide) ?_
  refine lv_iadd hx hb dX11_four_29 ?_
  refine lv_eqi (y := nI (n + 4)) (nI_1 _) ?_
  refine va_put (D := D) (ci := 11) (v := .int (nI (n + 4))) (ty := .int) (C := RX11) (T := TX11) (N := 47) hx hb hts (by decide +kernel) tyX11 tyX11_ok nmX11 hown hK.1 hP hD hS 0 rfl rfl 6 (by decide) (hts (.fieldLink RX11 110 "JugglingHallModel" "taped" "I") (by decide +kernel)) (fun _ h9 => h9) rfl (by decide +kernel) rfl rfl (Nat.le_of_ble_eq_true rfl) dX11_four_30 (fun H locs hP hD hS => ?_)
  have hP : va_P D vwCl [(mm, .inr (11, [m0, m1, m2, m3, m4, .ref tb, .int (nI (n + 4)), m7, m8, m9, m10, m11, m12, m13, m14, m15, m16, m17, m18, m19, m20, m21, m22, m23, m24, m25, m26, m27, m28, m29, m30, m31, m32, m33, m34, m35, m36, m37, m38, m39, m40, m41, m42, m43, m44, m45, m46])), (tb, .inl (cI, 300, .inl f4))] H := hP
  have hD : va_D A [(mm, .inr (11, [m0, m1, m2, m3, m4, .ref tb, .int (nI (n + 4)), m7, m8, m9, m10, m11, m12, m13, m14, m15, m16, m17, m18, m19, m20, m21, m22, m23, m24, m25, m26, m27, m28, m29, m30, m31, m32, m33, m34, m35, m36, m37, m38, m39, m40, m41, m42, m43, m44, m45, m46])), (tb, .inl (cI, 300, .inl f4))] := hD
  refine lv_iinc (v := (-8)) (lv' := [(2, .int (-8)), (0, .ref mm), (1, .int v)]) hx hb dX11_four_33 hl (k := 0) rfl (by decide) (by decide) rfl (fun ls hl => ?_)
  refine lv_goto (tgt := 3) hx hb dX11_four_36 (by decide) ?_
  refine lv_iload_n hx hb dX11_four_3 rfl (lv_at hl 0 rfl) ?_
  refine lv_if_lt (tgt := 39) hx hb dX11_four_4 (by decide) (fun c4 => ?_) (fun c4 => absurd (by decide) c4)
  exact g_vret (f4) hx hb hr hlocks hS rfl (trivial) (hP.sub [0, 1] rfl) (hD.sub [0, 1] (by decide) rfl) hQ (Nat.le_of_ble_eq_true rfl) (Nat.le_of_ble_eq_true rfl) dX11_four_39
set_option maxRecDepth 100000 in
set_option maxHeartbeats 4000000 in
theorem c_mfeed (l : Launch) (D : va_G) (cI cR cM : ClassId) (sz : Nat) (i0 i1 i2 i3 i4 : Int32) (mm : Nat) (m0 m1 m2 m3 m4 m7 m8 m9 m10 m11 m12 m13 m14 m15 m16 m17 m18 m19 m20 m21 m22 m23 m24 m25 m26 m27 m28 m29 m30 m31 m32 m33 m34 m35 m36 m37 m38 m39 m40 m41 m42 m43 m44 m45 m46 : Value) (tb : Nat) : Met l yX11_feed wsX11_feed ({ frames := 1, cells := 0, slots := 0, locals := 22 }) (P0 D cI cR cM [.ref mm, .int i0, .int i1, .int i2, .int i3, .int i4] sz [(mm, .inr (11, [m0, m1, m2, m3, m4, .ref tb, .int (nI 0), m7, m8, m9, m10, m11, m12, m13, m14, m15, m16, m17, m18, m19, m20, m21, m22, m23, m24, m25, m26, m27, m28, m29, m30, m31, m32, m33, m34, m35, m36, m37, m38, m39, m40, m41, m42, m43, m44, m45, m46])), (tb, .inl (cI, 300, .inl (fun _ => 0)))]) (QG (S := Unit) (fun _ => some (.int (nI 20))) (fun _ => []) (fun _ => True) D (va_A [(mm, .inr (11, [m0, m1, m2, m3, m4, .ref tb, .int (nI 0), m7, m8, m9, m10, m11, m12, m13, m14, m15, m16, m17, m18, m19, m20, m21, m22, m23, m24, m25, m26, m27, m28, m29, m30, m31, m32, m33, m34, m35, m36, m37, m38, m39, m40, m41, m42, m43, m44, m45, m46])), (tb, .inl (cI, 300, .inl (fun _ => 0)))] sz)) 0 0 (va_A [(mm, .inr (11, [m0, m1, m2, m3, m4, .ref tb, .int (nI 0), m7, m8, m9, m10, m11, m12, m13, m14, m15, m16, m17, m18, m19, m20, m21, m22, m23, m24, m25, m26, m27, m28, m29, m30, m31, m32, m33, m34, m35, m36, m37, m38, m39, m40, m41, m42, m43, m44, m45, m46])), (tb, .inl (cI, 300, .inl (fun _ => 0)))] sz) := by
  refine go (cc := cX11_feed) (maxL := 6) (ret := (some .int)) (by decide) rfl (Nat.le_of_ble_eq_true rfl) ?_
  intro p e s m below meth c ls args Q hQ hsz hx hb hr hml hts hown hlocks hnm hP hK hD hl
  subst hsz
  have hD := hD.self (sz := s.heap.size)
  generalize hAe : va_A [(mm, .inr (11, [m0, m1, m2, m3, m4, .ref tb, .int (nI 0), m7, m8, m9, m10, m11, m12, m13, m14, m15, m16, m17, m18, m19, m20, m21, m22, m23, m24, m25, m26, m27, m28, m29, m30, m31, m32, m33, m34, m35, m36, m37, m38, m39, m40, m41, m42, m43, m44, m45, m46])), (tb, .inl (cI, 300, .inl (fun _ => 0)))] s.heap.size = A at hD hQ
  have hA : ∀ q, s.heap.size ≤ q → A q := fun q h => by rw [← hAe]; exact Or.inr h
  have hS : va_S A s.heap s.heap [] := va_S.rf
  have hl : lv_has ls 6 [(0, .ref mm), (1, .int i0), (2, .int i1), (3, .int i2), (4, .int i3), (5, .int i4)] := hl
  refine lv_aload_n hx hb dX11_feed_0 rfl (lv_at hl 0 rfl) ?_
  refine va_get (D := D) (ci := 11) (v := .int (nI 0)) (C := RX11) (T := TX11) (N := 47) hx hb hts (by decide +kernel) hown hK.1 hP 0 rfl rfl 6 (by decide) (hts (.fieldLink RX11 110 "JugglingHallModel" "taped" "I") (by decide +kernel)) (fun _ h9 => h9) rfl dX11_feed_1 ?_
  refine lv_bipush (v := 20) hx hb dX11_feed_4 (by decide) ?_
  refine lv_iadd hx hb dX11_feed_6 ?_
  refine lv_sipush (v := 300) hx hb dX11_feed_7 (by decide) ?_
  refine lv_icmp_le (tgt := 15) hx hb dX11_feed_10 (by decide) (fun c10 => ?_) (fun c10 => absurd (by decide) c10)
  refine lv_aload_n hx hb dX11_feed_15 rfl (lv_at hl 0 rfl) ?_
  refine lv_iload_n hx hb dX11_feed_16 rfl (lv_at hl 1 rfl) ?_
  have hPc := hP.sub (ws' := [(mm, .inr (11, [m0, m1, m2, m3, m4, .ref tb, .int (nI 0), m7, m8, m9, m10, m11, m12, m13, m14, m15, m16, m17, m18, m19, m20, m21, m22, m23, m24, m25, m26, m27, m28, m29, m30, m31, m32, m33, m34, m35, m36, m37, m38, m39, m40, m41, m42, m43, m44, m45, m46])), (tb, .inl (cI, 300, .inl (fun _ => 0)))]) [0, 1] rfl
  have hDc := hD.sub (ws' := [(mm, .inr (11, [m0, m1, m2, m3, m4, .ref tb, .int (nI 0), m7, m8, m9, m10, m11, m12, m13, m14, m15, m16, m17, m18, m19, m20, m21, m22, m23, m24, m25, m26, m27, m28, m29, m30, m31, m32, m33, m34, m35, m36, m37, m38, m39, m40, m41, m42, m43, m44, m45, m46])), (tb, .inl (cI, 300, .inl (fun _ => 0)))]) [0, 1] (by decide) rfl
  refine call_g (wr := []) (va_runV (As := [.int i0]) (rest := []) ⟨hx, hb, hml, hown, hts⟩ (c_four l D cI cR cM _ (n := 0) (by decide) mm m0 m1 m2 m3 m4 m7 m8 m9 m10 m11 m12 m13 m14 m15 m16 m17 m18 m19 m20 m21 m22 m23 m24 m25 m26 m27 m28 m29 m30 m31 m32 m33 m34 m35 m36 m37 m38 m39 m40 m41 m42 m43 m44 m45 m46 tb (fun _ => 0) i0) (cwV 1 hts gX11_feed_X11_four rfl rfl rfl (by decide +kernel) ⟨Nat.le_of_ble_eq_true rfl, Nat.le_of_ble_eq_true rfl⟩) (pre_V hK hPc hDc 0 11 rfl rfl) rfl rfl hl.1 rfl (lv_room (Nat.le_of_ble_eq_true rfl)) dX11_feed_17 ⟨Nat.le_of_ble_eq_true rfl, Nat.le_of_ble_eq_true rfl⟩) hP hD hS hA [0, 1] [] rfl rfl (by decide) (by decide) (fun g1 H locs hw hP hD hS => ?_)
  have hP : va_P D vwCl [(mm, .inr (11, [m0, m1, m2, m3, m4, .ref tb, .int (nI 4), m7, m8, m9, m10, m11, m12, m13, m14, m15, m16, m17, m18, m19, m20, m21, m22, m23, m24, m25, m26, m27, m28, m29, m30, m31, m32, m33, m34, m35, m36, m37, m38, m39, m40, m41, m42, m43, m44, m45, m46])), (tb, .inl (cI, 300, .inl g1))] H := hP
  have hD : va_D A [(mm, .inr (11, [m0, m1, m2, m3, m4, .ref tb, .int (nI 4), m7, m8, m9, m10, m11, m12, m13, m14, m15, m16, m17, m18, m19, m20, m21, m22, m23, m24, m25, m26, m27, m28, m29, m30, m31, m32, m33, m34, m35, m36, m37, m38, m39, m40, m41, m42, m43, m44, m45, m46])), (tb, .inl (cI, 300, .inl g1))] := hD
  refine lv_aload_n hx hb dX11_feed_20 rfl (lv_at hl 0 rfl) ?_
  refine lv_iload_n hx hb dX11_feed_21 rfl (lv_at hl 2 rfl) ?_
  have hPc := hP.sub (ws' := [(mm, .inr (11, [m0, m1, m2, m3, m4, .ref tb, .int (nI 4), m7, m8, m9, m10, m11, m12, m13, m14, m15, m16, m17, m18, m19, m20, m21, m22, m23, m24, m25, m26, m27, m28, m29, m30, m31, m32, m33, m34, m35, m36, m37, m38, m39, m40, m41, m42, m43, m44, m45, m46])), (tb, .inl (cI, 300, .inl g1))]) [0, 1] rfl
  have hDc := hD.sub (ws' := [(mm, .inr (11, [m0, m1, m2, m3, m4, .ref tb, .int (nI 4), m7, m8, m9, m10, m11, m12, m13, m14, m15, m16, m17, m18, m19, m20, m21, m22, m23, m24, m25, m26, m27, m28, m29, m30, m31, m32, m33, m34, m35, m36, m37, m38, m39, m40, m41, m42, m43, m44, m45, m46])), (tb, .inl (cI, 300, .inl g1))]) [0, 1] (by decide) rfl
  refine call_g (wr := []) (va_runV (As := [.int i1]) (rest := []) ⟨hx, hb, hml, hown, hts⟩ (c_four l D cI cR cM _ (n := 4) (by decide) mm m0 m1 m2 m3 m4 m7 m8 m9 m10 m11 m12 m13 m14 m15 m16 m17 m18 m19 m20 m21 m22 m23 m24 m25 m26 m27 m28 m29 m30 m31 m32 m33 m34 m35 m36 m37 m38 m39 m40 m41 m42 m43 m44 m45 m46 tb g1 i1) (cwV 1 hts gX11_feed_X11_four rfl rfl rfl (by decide +kernel) ⟨Nat.le_of_ble_eq_true rfl, Nat.le_of_ble_eq_true rfl⟩) (pre_V hK hPc hDc 0 11 rfl rfl) rfl rfl hl.1 rfl (lv_room (Nat.le_of_ble_eq_true rfl)) dX11_feed_22 ⟨Nat.le_of_ble_eq_true rfl, Nat.le_of_ble_eq_true rfl⟩) hP hD hS hA [0, 1] [] rfl rfl (by decide) (by decide) (fun g2 H locs hw hP hD hS => ?_)
  have hP : va_P D vwCl [(mm, .inr (11, [m0, m1, m2, m3, m4, .ref tb, .int (nI 8), m7, m8, m9, m10, m11, m12, m13, m14, m15, m16, m17, m18, m19, m20, m21, m22, m23, m24, m25, m26, m27, m28, m29, m30, m31, m32, m33, m34, m35, m36, m37, m38, m39, m40, m41, m42, m43, m44, m45, m46])), (tb, .inl (cI, 300, .inl g2))] H := hP
  have hD : va_D A [(mm, .inr (11, [m0, m1, m2, m3, m4, .ref tb, .int (nI 8), m7, m8, m9, m10, m11, m12, m13, m14, m15, m16, m17, m18, m19, m20, m21, m22, m23, m24, m25, m26, m27, m28, m29, m30, m31, m32, m33, m34, m35, m36, m37, m38, m39, m40, m41, m42, m43, m44, m45, m46])), (tb, .inl (cI, 300, .inl g2))] := hD
  refine lv_aload_n hx hb dX11_feed_25 rfl (lv_at hl 0 rfl) ?_
  refine lv_iload_n hx hb dX11_feed_26 rfl (lv_at hl 3 rfl) ?_
  have hPc := hP.sub (ws' := [(mm, .inr (11, [m0, m1, m2, m3, m4, .ref tb, .int (nI 8), m7, m8, m9, m10, m11, m12, m13, m14, m15, m16, m17, m18, m19, m20, m21, m22, m23, m24, m25, m26, m27, m28, m29, m30, m31, m32, m33, m34, m35, m36, m37, m38, m39, m40, m41, m42, m43, m44, m45, m46])), (tb, .inl (cI, 300, .inl g2))]) [0, 1] rfl
  have hDc := hD.sub (ws' := [(mm, .inr (11, [m0, m1, m2, m3, m4, .ref tb, .int (nI 8), m7, m8, m9, m10, m11, m12, m13, m14, m15, m16, m17, m18, m19, m20, m21, m22, m23, m24, m25, m26, m27, m28, m29, m30, m31, m32, m33, m34, m35, m36, m37, m38, m39, m40, m41, m42, m43, m44, m45, m46])), (tb, .inl (cI, 300, .inl g2))]) [0, 1] (by decide) rfl
  refine call_g (wr := []) (va_runV (As := [.int i2]) (rest := []) ⟨hx, hb, hml, hown, hts⟩ (c_four l D cI cR cM _ (n := 8) (by decide) mm m0 m1 m2 m3 m4 m7 m8 m9 m10 m11 m12 m13 m14 m15 m16 m17 m18 m19 m20 m21 m22 m23 m24 m25 m26 m27 m28 m29 m30 m31 m32 m33 m34 m35 m36 m37 m38 m39 m40 m41 m42 m43 m44 m45 m46 tb g2 i2) (cwV 1 hts gX11_feed_X11_four rfl rfl rfl (by decide +kernel) ⟨Nat.le_of_ble_eq_true rfl, Nat.le_of_ble_eq_true rfl⟩) (pre_V hK hPc hDc 0 11 rfl rfl) rfl rfl hl.1 rfl (lv_room (Nat.le_of_ble_eq_true rfl)) dX11_feed_27 ⟨Nat.le_of_ble_eq_true rfl, Nat.le_of_ble_eq_true rfl⟩) hP hD hS hA [0, 1] [] rfl rfl (by decide) (by decide) (fun g3 H locs hw hP hD hS => ?_)
  have hP : va_P D vwCl [(mm, .inr (11, [m0, m1, m2, m3, m4, .ref tb, .int (nI 12), m7, m8, m9, m10, m11, m12, m13, m14, m15, m16, m17, m18, m19, m20, m21, m22, m23, m24, m25, m26, m27, m28, m29, m30, m31, m32, m33, m34, m35, m36, m37, m38, m39, m40, m41, m42, m43, m44, m45, m46])), (tb, .inl (cI, 300, .inl g3))] H := hP
  have hD : va_D A [(mm, .inr (11, [m0, m1, m2, m3, m4, .ref tb, .int (nI 12), m7, m8, m9, m10, m11, m12, m13, m14, m15, m16, m17, m18, m19, m20, m21, m22, m23, m24, m25, m26, m27, m28, m29, m30, m31, m32, m33, m34, m35, m36, m37, m38, m39, m40, m41, m42, m43, m44, m45, m46])), (tb, .inl (cI, 300, .inl g3))] := hD
  refine lv_aload_n hx hb dX11_feed_30 rfl (lv_at hl 0 rfl) ?_
  refine lv_iload hx hb dX11_feed_31 (lv_at hl 4 rfl) ?_
  have hPc := hP.sub (ws' := [(mm, .inr (11, [m0, m1, m2, m3, m4, .ref tb, .int (nI 12), m7, m8, m9, m10, m11, m12, m13, m14, m15, m16, m17, m18, m19, m20, m21, m22, m23, m24, m25, m26, m27, m28, m29, m30, m31, m32, m33, m34, m35, m36, m37, m38, m39, m40, m41, m42, m43, m44, m45, m46])), (tb, .inl (cI, 300, .inl g3))]) [0, 1] rfl
  have hDc := hD.sub (ws' := [(mm, .inr (11, [m0, m1, m2, m3, m4, .ref tb, .int (nI 12), m7, m8, m9, m10, m11, m12, m13, m14, m15, m16, m17, m18, m19, m20, m21, m22, m23, m24, m25, m26, m27, m28, m29, m30, m31, m32, m33, m34, m35, m36, m37, m38, m39, m40, m41, m42, m43, m44, m45, m46])), (tb, .inl (cI, 300, .inl g3))]) [0, 1] (by decide) rfl
  refine call_g (wr := []) (va_runV (As := [.int i3]) (rest := []) ⟨hx, hb, hml, hown, hts⟩ (c_four l D cI cR cM _ (n := 12) (by decide) mm m0 m1 m2 m3 m4 m7 m8 m9 m10 m11 m12 m13 m14 m15 m16 m17 m18 m19 m20 m21 m22 m23 m24 m25 m26 m27 m28 m29 m30 m31 m32 m33 m34 m35 m36 m37 m38 m39 m40 m41 m42 m43 m44 m45 m46 tb g3 i3) (cwV 1 hts gX11_feed_X11_four rfl rfl rfl (by decide +kernel) ⟨Nat.le_of_ble_eq_true rfl, Nat.le_of_ble_eq_true rfl⟩) (pre_V hK hPc hDc 0 11 rfl rfl) rfl rfl hl.1 rfl (lv_room (Nat.le_of_ble_eq_true rfl)) dX11_feed_33 ⟨Nat.le_of_ble_eq_true rfl, Nat.le_of_ble_eq_true rfl⟩) hP hD hS hA [0, 1] [] rfl rfl (by decide) (by decide) (fun g4 H locs hw hP hD hS => ?_)
  have hP : va_P D vwCl [(mm, .inr (11, [m0, m1, m2, m3, m4, .ref tb, .int (nI 16), m7, m8, m9, m10, m11, m12, m13, m14, m15, m16, m17, m18, m19, m20, m21, m22, m23, m24, m25, m26, m27, m28, m29, m30, m31, m32, m33, m34, m35, m36, m37, m38, m39, m40, m41, m42, m43, m44, m45, m46])), (tb, .inl (cI, 300, .inl g4))] H := hP
  have hD : va_D A [(mm, .inr (11, [m0, m1, m2, m3, m4, .ref tb, .int (nI 16), m7, m8, m9, m10, m11, m12, m13, m14, m15, m16, m17, m18, m19, m20, m21, m22, m23, m24, m25, m26, m27, m28, m29, m30, m31, m32, m33, m34, m35, m36, m37, m38, m39, m40, m41, m42, m43, m44, m45, m46])), (tb, .inl (cI, 300, .inl g4))] := hD
  refine lv_aload_n hx hb dX11_feed_36 rfl (lv_at hl 0 rfl) ?_
  refine lv_iload hx hb dX11_feed_37 (lv_at hl 5 rfl) ?_
  have hPc := hP.sub (ws' := [(mm, .inr (11, [m0, m1, m2, m3, m4, .ref tb, .int (nI 16), m7, m8, m9, m10, m11, m12, m13, m14, m15, m16, m17, m18, m19, m20, m21, m22, m23, m24, m25, m26, m27, m28, m29, m30, m31, m32, m33, m34, m35, m36, m37, m38, m39, m40, m41, m42, m43, m44, m45, m46])), (tb, .inl (cI, 300, .inl g4))]) [0, 1] rfl
  have hDc := hD.sub (ws' := [(mm, .inr (11, [m0, m1, m2, m3, m4, .ref tb, .int (nI 16), m7, m8, m9, m10, m11, m12, m13, m14, m15, m16, m17, m18, m19, m20, m21, m22, m23, m24, m25, m26, m27, m28, m29, m30, m31, m32, m33, m34, m35, m36, m37, m38, m39, m40, m41, m42, m43, m44, m45, m46])), (tb, .inl (cI, 300, .inl g4))]) [0, 1] (by decide) rfl
  refine call_g (wr := []) (va_runV (As := [.int i4]) (rest := []) ⟨hx, hb, hml, hown, hts⟩ (c_four l D cI cR cM _ (n := 16) (by decide) mm m0 m1 m2 m3 m4 m7 m8 m9 m10 m11 m12 m13 m14 m15 m16 m17 m18 m19 m20 m21 m22 m23 m24 m25 m26 m27 m28 m29 m30 m31 m32 m33 m34 m35 m36 m37 m38 m39 m40 m41 m42 m43 m44 m45 m46 tb g4 i4) (cwV 1 hts gX11_feed_X11_four rfl rfl rfl (by decide +kernel) ⟨Nat.le_of_ble_eq_true rfl, Nat.le_of_ble_eq_true rfl⟩) (pre_V hK hPc hDc 0 11 rfl rfl) rfl rfl hl.1 rfl (lv_room (Nat.le_of_ble_eq_true rfl)) dX11_feed_39 ⟨Nat.le_of_ble_eq_true rfl, Nat.le_of_ble_eq_true rfl⟩) hP hD hS hA [0, 1] [] rfl rfl (by decide) (by decide) (fun g5 H locs hw hP hD hS => ?_)
  have hP : va_P D vwCl [(mm, .inr (11, [m0, m1, m2, m3, m4, .ref tb, .int (nI 20), m7, m8, m9, m10, m11, m12, m13, m14, m15, m16, m17, m18, m19, m20, m21, m22, m23, m24, m25, m26, m27, m28, m29, m30, m31, m32, m33, m34, m35, m36, m37, m38, m39, m40, m41, m42, m43, m44, m45, m46])), (tb, .inl (cI, 300, .inl g5))] H := hP
  have hD : va_D A [(mm, .inr (11, [m0, m1, m2, m3, m4, .ref tb, .int (nI 20), m7, m8, m9, m10, m11, m12, m13, m14, m15, m16, m17, m18, m19, m20, m21, m22, m23, m24, m25, m26, m27, m28, m29, m30, m31, m32, m33, m34, m35, m36, m37, m38, m39, m40, m41, m42, m43, m44, m45, m46])), (tb, .inl (cI, 300, .inl g5))] := hD
  refine lv_aload_n hx hb dX11_feed_42 rfl (lv_at hl 0 rfl) ?_
  refine va_get (D := D) (ci := 11) (v := .int (nI 20)) (C := RX11) (T := TX11) (N := 47) hx hb hts (by decide +kernel) hown hK.1 hP 0 rfl rfl 6 (by decide) (hts (.fieldLink RX11 110 "JugglingHallModel" "taped" "I") (by decide +kernel)) (fun _ h9 => h9) rfl dX11_feed_43 ?_
  exact g_iret (()) hx hb hr hlocks hS rfl (trivial) va_P_nil va_D_nil hQ (Nat.le_of_ble_eq_true rfl) (Nat.le_of_ble_eq_true rfl) dX11_feed_46
set_option maxRecDepth 100000 in
set_option maxHeartbeats 4000000 in
theorem c_see0 (l : Launch) (D : va_G) (cI cR cM : ClassId) (sz : Nat) (mm : Nat) (fs : List Value) (hf_taped : fs[6]? = some (.int 0)) : Met l yX11_see wsX11_see ({ frames := 0, cells := 0, slots := 0, locals := 0 }) (P0 D cI cR cM [.ref mm, .int 0] sz [(mm, .inr (11, fs))]) (QE (some (.int (-1))) sz) 0 0 (va_A [] sz) := by
  refine go (cc := cX11_see) (maxL := 2) (ret := (some .int)) (by decide) rfl (Nat.le_of_ble_eq_true rfl) ?_
  intro p e s m below meth c ls args Q hQ hsz hx hb hr hml hts hown hlocks hnm hP hK hD hl
  subst hsz
  have hS : va_S (va_A [] s.heap.size) s.heap s.heap [] := va_S.rf
  have hA : ∀ q, s.heap.size ≤ q → va_A [] s.heap.size q := fun q h => Or.inr h
  have hl : lv_has ls 2 [(0, .ref mm), (1, .int 0)] := hl
  refine lv_iload_n hx hb dX11_see_0 rfl (lv_at hl 1 rfl) ?_
  refine lv_aload_n hx hb dX11_see_1 rfl (lv_at hl 0 rfl) ?_
  refine va_get (D := D) (ci := 11) (v := .int 0) (C := RX11) (T := TX11) (N := 47) hx hb hts (by decide +kernel) hown hK.1 hP 0 rfl rfl 6 (by decide) (hts (.fieldLink RX11 110 "JugglingHallModel" "taped" "I") (by decide +kernel)) (fun _ h9 => h9) hf_taped dX11_see_2 ?_
  refine lv_icmp_ge (tgt := 17) hx hb dX11_see_5 (by decide) (fun c5 => ?_) (fun c5 => absurd (by decide) c5)
  refine lv_iconst (v := (-1)) hx hb dX11_see_17 (by decide) ?_
  exact ro_iret hx hb hr hlocks hS (rfl) hQ dX11_see_18
set_option maxRecDepth 100000 in
set_option maxHeartbeats 4000000 in
theorem c_nextToken (l : Launch) (D : va_G) (cI cR cM : ClassId) (sz : Nat) (mm : Nat) (m0 m1 m2 m3 m4 m5 m7 m8 m10 m11 m12 m13 m14 m15 m16 m17 m18 m19 m20 m21 m22 m23 m24 m25 m26 m27 m28 m29 m30 m31 m32 m33 m34 m35 m36 m37 m38 m39 m40 m41 m42 m43 m44 m45 m46 : Value)  : Met l yX11_nextToken wsX11_nextToken ({ frames := 1, cells := 0, slots := 0, locals := 21 }) (P0 D cI cR cM [.ref mm] sz [(mm, .inr (11, [m0, m1, m2, m3, m4, m5, .int 0, m7, m8, .int 0, m10, m11, m12, m13, m14, m15, m16, m17, m18, m19, m20, m21, m22, m23, m24, m25, m26, m27, m28, m29, m30, m31, m32, m33, m34, m35, m36, m37, m38, m39, m40, m41, m42, m43, m44, m45, m46]))]) (QG (S := Unit) (fun _ => none) (fun _ => [(mm, .inr (11, [m0, m1, m2, m3, m4, m5, .int 0, m7, m8, .int 0, .int 0, .int 0, m12, m13, m14, m15, m16, m17, m18, m19, m20, m21, m22, m23, m24, m25, m26, m27, m28, m29, m30, m31, m32, m33, m34, m35, m36, m37, m38, m39, m40, m41, m42, m43, m44, m45, m46]))]) (fun _ => True) D (va_A [(mm, .inr (11, [m0, m1, m2, m3, m4, m5, .int 0, m7, m8, .int 0, m10, m11, m12, m13, m14, m15, m16, m17, m18, m19, m20, m21, m22, m23, m24, m25, m26, m27, m28, m29, m30, m31, m32, m33, m34, m35, m36, m37, m38, m39, m40, m41, m42, m43, m44, m45, m46]))] sz)) 0 0 (va_A [(mm, .inr (11, [m0, m1, m2, m3, m4, m5, .int 0, m7, m8, .int 0, m10, m11, m12, m13, m14, m15, m16, m17, m18, m19, m20, m21, m22, m23, m24, m25, m26, m27, m28, m29, m30, m31, m32, m33, m34, m35, m36, m37, m38, m39, m40, m41, m42, m43, m44, m45, m46]))] sz) := by
  refine go (cc := cX11_nextToken) (maxL := 3) (ret := none) (by decide) rfl (Nat.le_of_ble_eq_true rfl) ?_
  intro p e s m below meth c ls args Q hQ hsz hx hb hr hml hts hown hlocks hnm hP hK hD hl
  subst hsz
  have hD := hD.self (sz := s.heap.size)
  generalize hAe : va_A [(mm, .inr (11, [m0, m1, m2, m3, m4, m5, .int 0, m7, m8, .int 0, m10, m11, m12, m13, m14, m15, m16, m17, m18, m19, m20, m21, m22, m23, m24, m25, m26, m27, m28, m29, m30, m31, m32, m33, m34, m35, m36, m37, m38, m39, m40, m41, m42, m43, m44, m45, m46]))] s.heap.size = A at hD hQ
  have hA : ∀ q, s.heap.size ≤ q → A q := fun q h => by rw [← hAe]; exact Or.inr h
  have hS : va_S A s.heap s.heap [] := va_S.rf
  have hl : lv_has ls 3 [(0, .ref mm)] := hl
  refine lv_aload_n hx hb dX11_nextToken_0 rfl (lv_at hl 0 rfl) ?_
  refine lv_aload_n hx hb dX11_nextToken_1 rfl (lv_at hl 0 rfl) ?_
  refine va_get (D := D) (ci := 11) (v := .int 0) (C := RX11) (T := TX11) (N := 47) hx hb hts (by decide +kernel) hown hK.1 hP 0 rfl rfl 9 (by decide) (hts (.fieldLink RX11 117 "JugglingHallModel" "at" "I") (by decide +kernel)) (fun _ h9 => h9) rfl dX11_nextToken_2 ?_
  have hPc := hP.sub (ws' := [(mm, .inr (11, [m0, m1, m2, m3, m4, m5, .int 0, m7, m8, .int 0, m10, m11, m12, m13, m14, m15, m16, m17, m18, m19, m20, m21, m22, m23, m24, m25, m26, m27, m28, m29, m30, m31, m32, m33, m34, m35, m36, m37, m38, m39, m40, m41, m42, m43, m44, m45, m46]))]) [0] rfl
  have hDc := hD.sub (ws' := [(mm, .inr (11, [m0, m1, m2, m3, m4, m5, .int 0, m7, m8, .int 0, m10, m11, m12, m13, m14, m15, m16, m17, m18, m19, m20, m21, m22, m23, m24, m25, m26, m27, m28, m29, m30, m31, m32, m33, m34, m35, m36, m37, m38, m39, m40, m41, m42, m43, m44, m45, m46]))]) [0] (by decide) rfl
  refine ro (va_runV (As := [.int 0]) (rest := []) ⟨hx, hb, hml, hown, hts⟩ (c_see0 l D cI cR cM _ mm [m0, m1, m2, m3, m4, m5, .int 0, m7, m8, .int 0, m10, m11, m12, m13, m14, m15, m16, m17, m18, m19, m20, m21, m22, m23, m24, m25, m26, m27, m28, m29, m30, m31, m32, m33, m34, m35, m36, m37, m38, m39, m40, m41, m42, m43, m44, m45, m46] rfl) (cwV 1 hts gX11_nextToken_X11_see rfl rfl rfl (by decide +kernel) ⟨Nat.le_of_ble_eq_true rfl, Nat.le_of_ble_eq_true rfl⟩) (pre_V hK hPc hDc 0 11 rfl rfl) rfl rfl hl.1 rfl (lv_room (Nat.le_of_ble_eq_true rfl)) dX11_nextToken_5 ⟨Nat.le_of_ble_eq_true rfl, Nat.le_of_ble_eq_true rfl⟩) hS hA hP (fun H locs hP hS => ?_)
  refine lv_bipush (v := 32) hx hb dX11_nextToken_8 (by decide) ?_
  refine lv_icmp_eq (tgt := 26) hx hb dX11_nextToken_10 (by decide) (fun c10 => absurd c10 (by decide)) (fun c10 => ?_)
  refine lv_aload_n hx hb dX11_nextToken_13 rfl (lv_at hl 0 rfl) ?_
  refine lv_aload_n hx hb dX11_nextToken_14 rfl (lv_at hl 0 rfl) ?_
  refine va_get (D := D) (ci := 11) (v := .int 0) (C := RX11) (T := TX11) (N := 47) hx hb hts (by decide +kernel) hown hK.1 hP 0 rfl rfl 9 (by decide) (hts (.fieldLink RX11 117 "JugglingHallModel" "at" "I") (by decide +kernel)) (fun _ h9 => h9) rfl dX11_nextToken_15 ?_
  have hPc := hP.sub (ws' := [(mm, .inr (11, [m0, m1, m2, m3, m4, m5, .int 0, m7, m8, .int 0, m10, m11, m12, m13, m14, m15, m16, m17, m18, m19, m20, m21, m22, m23, m24, m25, m26, m27, m28, m29, m30, m31, m32, m33, m34, m35, m36, m37, m38, m39, m40, m41, m42, m43, m44, m45, m46]))]) [0] rfl
  have hDc := hD.sub (ws' := [(mm, .inr (11, [m0, m1, m2, m3, m4, m5, .int 0, m7, m8, .int 0, m10, m11, m12, m13, m14, m15, m16, m17, m18, m19, m20, m21, m22, m23, m24, m25, m26, m27, m28, m29, m30, m31, m32, m33, m34, m35, m36, m37, m38, m39, m40, m41, m42, m43, m44, m45, m46]))]) [0] (by decide) rfl
  refine ro (va_runV (As := [.int 0]) (rest := []) ⟨hx, hb, hml, hown, hts⟩ (c_see0 l D cI cR cM _ mm [m0, m1, m2, m3, m4, m5, .int 0, m7, m8, .int 0, m10, m11, m12, m13, m14, m15, m16, m17, m18, m19, m20, m21, m22, m23, m24, m25, m26, m27, m28, m29, m30, m31, m32, m33, m34, m35, m36, m37, m38, m39, m40, m41, m42, m43, m44, m45, m46] rfl) (cwV 1 hts gX11_nextToken_X11_see rfl rfl rfl (by decide +kernel) ⟨Nat.le_of_ble_eq_true rfl, Nat.le_of_ble_eq_true rfl⟩) (pre_V hK hPc hDc 0 11 rfl rfl) rfl rfl hl.1 rfl (lv_room (Nat.le_of_ble_eq_true rfl)) dX11_nextToken_18 ⟨Nat.le_of_ble_eq_true rfl, Nat.le_of_ble_eq_true rfl⟩) hS hA hP (fun H locs hP hS => ?_)
  refine lv_bipush (v := 10) hx hb dX11_nextToken_21 (by decide) ?_
  refine lv_icmp_ne (tgt := 39) hx hb dX11_nextToken_23 (by decide) (fun c23 => ?_) (fun c23 => absurd c23 (by decide))
  refine lv_aload_n hx hb dX11_nextToken_39 rfl (lv_at hl 0 rfl) ?_
  refine lv_aload_n hx hb dX11_nextToken_40 rfl (lv_at hl 0 rfl) ?_
  refine va_get (D := D) (ci := 11) (v := .int 0) (C := RX11) (T := TX11) (N := 47) hx hb hts (by decide +kernel) hown hK.1 hP 0 rfl rfl 9 (by decide) (hts (.fieldLink RX11 117 "JugglingHallModel" "at" "I") (by decide +kernel)) (fun _ h9 => h9) rfl dX11_nextToken_41 ?_
  refine va_put (D := D) (ci := 11) (v := .int 0) (ty := .int) (C := RX11) (T := TX11) (N := 47) hx hb hts (by decide +kernel) tyX11 tyX11_ok nmX11 hown hK.1 hP hD hS 0 rfl rfl 10 (by decide) (hts (.fieldLink RX11 120 "JugglingHallModel" "place" "I") (by decide +kernel)) (fun _ h9 => h9) rfl (by decide +kernel) rfl rfl (Nat.le_of_ble_eq_true rfl) dX11_nextToken_44 (fun H locs hP hD hS => ?_)
  have hP : va_P D vwCl [(mm, .inr (11, [m0, m1, m2, m3, m4, m5, .int 0, m7, m8, .int 0, .int 0, m11, m12, m13, m14, m15, m16, m17, m18, m19, m20, m21, m22, m23, m24, m25, m26, m27, m28, m29, m30, m31, m32, m33, m34, m35, m36, m37, m38, m39, m40, m41, m42, m43, m44, m45, m46]))] H := hP
  have hD : va_D A [(mm, .inr (11, [m0, m1, m2, m3, m4, m5, .int 0, m7, m8, .int 0, .int 0, m11, m12, m13, m14, m15, m16, m17, m18, m19, m20, m21, m22, m23, m24, m25, m26, m27, m28, m29, m30, m31, m32, m33, m34, m35, m36, m37, m38, m39, m40, m41, m42, m43, m44, m45, m46]))] := hD
  refine lv_aload_n hx hb dX11_nextToken_47 rfl (lv_at hl 0 rfl) ?_
  refine lv_aload_n hx hb dX11_nextToken_48 rfl (lv_at hl 0 rfl) ?_
  refine va_get (D := D) (ci := 11) (v := .int 0) (C := RX11) (T := TX11) (N := 47) hx hb hts (by decide +kernel) hown hK.1 hP 0 rfl rfl 9 (by decide) (hts (.fieldLink RX11 117 "JugglingHallModel" "at" "I") (by decide +kernel)) (fun _ h9 => h9) rfl dX11_nextToken_49 ?_
  have hPc := hP.sub (ws' := [(mm, .inr (11, [m0, m1, m2, m3, m4, m5, .int 0, m7, m8, .int 0, .int 0, m11, m12, m13, m14, m15, m16, m17, m18, m19, m20, m21, m22, m23, m24, m25, m26, m27, m28, m29, m30, m31, m32, m33, m34, m35, m36, m37, m38, m39, m40, m41, m42, m43, m44, m45, m46]))]) [0] rfl
  have hDc := hD.sub (ws' := [(mm, .inr (11, [m0, m1, m2, m3, m4, m5, .int 0, m7, m8, .int 0, .int 0, m11, m12, m13, m14, m15, m16, m17, m18, m19, m20, m21, m22, m23, m24, m25, m26, m27, m28, m29, m30, m31, m32, m33, m34, m35, m36, m37, m38, m39, m40, m41, m42, m43, m44, m45, m46]))]) [0] (by decide) rfl
  refine ro (va_runV (As := [.int 0]) (rest := []) ⟨hx, hb, hml, hown, hts⟩ (c_see0 l D cI cR cM _ mm [m0, m1, m2, m3, m4, m5, .int 0, m7, m8, .int 0, .int 0, m11, m12, m13, m14, m15, m16, m17, m18, m19, m20, m21, m22, m23, m24, m25, m26, m27, m28, m29, m30, m31, m32, m33, m34, m35, m36, m37, m38, m39, m40, m41, m42, m43, m44, m45, m46] rfl) (cwV 1 hts gX11_nextToken_X11_see rfl rfl rfl (by decide +kernel) ⟨Nat.le_of_ble_eq_true rfl, Nat.le_of_ble_eq_true rfl⟩) (pre_V hK hPc hDc 0 11 rfl rfl) rfl rfl hl.1 rfl (lv_room (Nat.le_of_ble_eq_true rfl)) dX11_nextToken_52 ⟨Nat.le_of_ble_eq_true rfl, Nat.le_of_ble_eq_true rfl⟩) hS hA hP (fun H locs hP hS => ?_)
  refine lv_istore_n (lv' := [(1, .int (-1)), (0, .ref mm)]) hx hb dX11_nextToken_55 rfl hl (by decide) rfl (fun ls hl => ?_)
  refine lv_iload_n hx hb dX11_nextToken_56 rfl (lv_at hl 0 rfl) ?_
  refine lv_if_ge (tgt := 68) hx hb dX11_nextToken_57 (by decide) (fun c57 => absurd c57 (by decide)) (fun c57 => ?_)
  refine lv_aload_n hx hb dX11_nextToken_60 rfl (lv_at hl 1 rfl) ?_
  refine lv_iconst (v := 0) hx hb dX11_nextToken_61 (by decide) ?_
  refine va_put (D := D) (ci := 11) (v := .int 0) (ty := .int) (C := RX11) (T := TX11) (N := 47) hx hb hts (by decide +kernel) tyX11 tyX11_ok nmX11 hown hK.1 hP hD hS 0 rfl rfl 11 (by decide) (hts (.fieldLink RX11 131 "JugglingHallModel" "token" "I") (by decide +kernel)) (fun _ h9 => h9) rfl (by decide +kernel) rfl rfl (Nat.le_of_ble_eq_true rfl) dX11_nextToken_62 (fun H locs hP hD hS => ?_)
  have hP : va_P D vwCl [(mm, .inr (11, [m0, m1, m2, m3, m4, m5, .int 0, m7, m8, .int 0, .int 0, .int 0, m12, m13, m14, m15, m16, m17, m18, m19, m20, m21, m22, m23, m24, m25, m26, m27, m28, m29, m30, m31, m32, m33, m34, m35, m36, m37, m38, m39, m40, m41, m42, m43, m44, m45, m46]))] H := hP
  have hD : va_D A [(mm, .inr (11, [m0, m1, m2, m3, m4, m5, .int 0, m7, m8, .int 0, .int 0, .int 0, m12, m13, m14, m15, m16, m17, m18, m19, m20, m21, m22, m23, m24, m25, m26, m27, m28, m29, m30, m31, m32, m33, m34, m35, m36, m37, m38, m39, m40, m41, m42, m43, m44, m45, m46]))] := hD
  refine lv_goto (tgt := 249) hx hb dX11_nextToken_65 (by decide) ?_
  exact g_vret (()) hx hb hr hlocks hS rfl (trivial) (hP.sub [0] rfl) (hD.sub [0] (by decide) rfl) hQ (Nat.le_of_ble_eq_true rfl) (Nat.le_of_ble_eq_true rfl) dX11_nextToken_249
set_option maxRecDepth 100000 in
set_option maxHeartbeats 4000000 in
theorem c_readText (l : Launch) (D : va_G) (cI cR cM : ClassId) (sz : Nat) (mm : Nat) (m0 m1 m2 m3 m4 m5 m7 m8 m9 m10 m11 m12 m13 m14 m15 m16 m17 m18 m19 m20 m21 m23 m25 m26 m27 m28 m29 m30 m31 m32 m33 m34 m35 m36 m37 m38 m39 m40 m41 m42 m43 m44 m45 m46 : Value) (fm fk : Nat) : Met l yX11_readText wsX11_readText ({ frames := 2, cells := 0, slots := 0, locals := 43 }) (P0 D cI cR cM [.ref mm] sz [(mm, .inr (11, [m0, m1, m2, m3, m4, m5, .int 0, m7, m8, m9, m10, m11, m12, m13, m14, m15, m16, m17, m18, m19, m20, m21, .ref fm, m23, .ref fk, m25, m26, m27, m28, m29, m30, m31, m32, m33, m34, m35, m36, m37, m38, m39, m40, m41, m42, m43, m44, m45, m46])), (fm, .inl (cI, 8, .inl (fun _ => 0))), (fk, .inl (cI, 8, .inl (fun _ => 0)))]) (QG (S := Unit) (fun _ => some (.int 0)) (fun _ => [(mm, .inr (11, [m0, m1, m2, m3, m4, m5, .int 0, m7, m8, .int 0, .int 0, .int 0, m12, m13, m14, m15, m16, m17, m18, m19, m20, m21, .ref fm, m23, .ref fk, m25, m26, m27, m28, m29, m30, m31, m32, m33, m34, m35, m36, m37, m38, m39, m40, m41, m42, m43, m44, m45, m46])), (fm, .inl (cI, 8, .inl (upd (upd (upd (upd (upd (upd (upd (upd (fun _ => 0) 0 0) 1 0) 2 0) 3 0) 4 0) 5 0) 6 0) 7 0))), (fk, .inl (cI, 8, .inl (upd (fun _ => 0) 0 0)))]) (fun _ => True) D (va_A [(mm, .inr (11, [m0, m1, m2, m3, m4, m5, .int 0, m7, m8, m9, m10, m11, m12, m13, m14, m15, m16, m17, m18, m19, m20, m21, .ref fm, m23, .ref fk, m25, m26, m27, m28, m29, m30, m31, m32, m33, m34, m35, m36, m37, m38, m39, m40, m41, m42, m43, m44, m45, m46])), (fm, .inl (cI, 8, .inl (fun _ => 0))), (fk, .inl (cI, 8, .inl (fun _ => 0)))] sz)) 0 0 (va_A [(mm, .inr (11, [m0, m1, m2, m3, m4, m5, .int 0, m7, m8, m9, m10, m11, m12, m13, m14, m15, m16, m17, m18, m19, m20, m21, .ref fm, m23, .ref fk, m25, m26, m27, m28, m29, m30, m31, m32, m33, m34, m35, m36, m37, m38, m39, m40, m41, m42, m43, m44, m45, m46])), (fm, .inl (cI, 8, .inl (fun _ => 0))), (fk, .inl (cI, 8, .inl (fun _ => 0)))] sz) := by
  refine go (cc := cX11_readText) (maxL := 2) (ret := (some .int)) (by decide) rfl (Nat.le_of_ble_eq_true rfl) ?_
  intro p e s m below meth c ls args Q hQ hsz hx hb hr hml hts hown hlocks hnm hP hK hD hl
  subst hsz
  have hD := hD.self (sz := s.heap.size)
  generalize hAe : va_A [(mm, .inr (11, [m0, m1, m2, m3, m4, m5, .int 0, m7, m8, m9, m10, m11, m12, m13, m14, m15, m16, m17, m18, m19, m20, m21, .ref fm, m23, .ref fk, m25, m26, m27, m28, m29, m30, m31, m32, m33, m34, m35, m36, m37, m38, m39, m40, m41, m42, m43, m44, m45, m46])), (fm, .inl (cI, 8, .inl (fun _ => 0))), (fk, .inl (cI, 8, .inl (fun _ => 0)))] s.heap.size = A at hD hQ
  have hA : ∀ q, s.heap.size ≤ q → A q := fun q h => by rw [← hAe]; exact Or.inr h
  have hS : va_S A s.heap s.heap [] := va_S.rf
  have hl : lv_has ls 2 [(0, .ref mm)] := hl
  refine lv_iconst (v := 0) hx hb dX11_readText_0 (by decide) ?_
  refine lv_istore_n (lv' := [(1, .int 0), (0, .ref mm)]) hx hb dX11_readText_1 rfl hl (by decide) rfl (fun ls hl => ?_)
  refine lv_iload_n hx hb dX11_readText_2 rfl (lv_at hl 0 rfl) ?_
  refine lv_bipush (v := 8) hx hb dX11_readText_3 (by decide) ?_
  refine lv_icmp_ge (tgt := 21) hx hb dX11_readText_5 (by decide) (fun c5 => absurd c5 (by decide)) (fun c5 => ?_)
  refine lv_aload_n hx hb dX11_readText_8 rfl (lv_at hl 1 rfl) ?_
  refine va_get (D := D) (ci := 11) (v := .ref fm) (C := RX11) (T := TX11) (N := 47) hx hb hts (by decide +kernel) hown hK.1 hP 0 rfl rfl 22 (by decide) (hts (.fieldLink RX11 42 "JugglingHallModel" "freshMany" "[I") (by decide +kernel)) (fun _ h9 => h9) rfl dX11_readText_9 ?_
  refine lv_iload_n hx hb dX11_readText_12 rfl (lv_at hl 0 rfl) ?_
  refine lv_iconst (v := 0) hx hb dX11_readText_13 (by decide) ?_
  refine ast_n (k := 0) hx hb hK.1 hP hD hS 1 0 rfl rfl (by decide) (by decide) dX11_readText_14 (fun H locs hP hD hS => ?_)
  have hP : va_P D vwCl [(mm, .inr (11, [m0, m1, m2, m3, m4, m5, .int 0, m7, m8, m9, m10, m11, m12, m13, m14, m15, m16, m17, m18, m19, m20, m21, .ref fm, m23, .ref fk, m25, m26, m27, m28, m29, m30, m31, m32, m33, m34, m35, m36, m37, m38, m39, m40, m41, m42, m43, m44, m45, m46])), (fm, .inl (cI, 8, .inl (upd (fun _ => 0) 0 0))), (fk, .inl (cI, 8, .inl (fun _ => 0)))] H := hP
  have hD : va_D A [(mm, .inr (11, [m0, m1, m2, m3, m4, m5, .int 0, m7, m8, m9, m10, m11, m12, m13, m14, m15, m16, m17, m18, m19, m20, m21, .ref fm, m23, .ref fk, m25, m26, m27, m28, m29, m30, m31, m32, m33, m34, m35, m36, m37, m38, m39, m40, m41, m42, m43, m44, m45, m46])), (fm, .inl (cI, 8, .inl (upd (fun _ => 0) 0 0))), (fk, .inl (cI, 8, .inl (fun _ => 0)))] := hD
  refine lv_iinc (v := 1) (lv' := [(1, .int 1), (0, .ref mm)]) hx hb dX11_readText_15 hl (k := 0) rfl (by decide) (by decide) rfl (fun ls hl => ?_)
  refine lv_goto (tgt := 2) hx hb dX11_readText_18 (by decide) ?_
  refine lv_iload_n hx hb dX11_readText_2 rfl (lv_at hl 0 rfl) ?_
  refine lv_bipush (v := 8) hx hb dX11_readText_3 (by decide) ?_
  refine lv_icmp_ge (tgt := 21) hx hb dX11_readText_5 (by decide) (fun c5 => absurd c5 (by decide)) (fun c5 => ?_)
  refine lv_aload_n hx hb dX11_readText_8 rfl (lv_at hl 1 rfl) ?_
  refine va_get (D := D) (ci := 11) (v := .ref fm) (C := RX11) (T := TX11) (N := 47) hx hb hts (by decide +kernel) hown hK.1 hP 0 rfl rfl 22 (by decide) (hts (.fieldLink RX11 42 "JugglingHallModel" "freshMany" "[I") (by decide +kernel)) (fun _ h9 => h9) rfl dX11_readText_9 ?_
  refine lv_iload_n hx hb dX11_readText_12 rfl (lv_at hl 0 rfl) ?_
  refine lv_iconst (v := 0) hx hb dX11_readText_13 (by decide) ?_
  refine ast_n (k := 1) hx hb hK.1 hP hD hS 1 0 rfl rfl (by decide) (by decide) dX11_readText_14 (fun H locs hP hD hS => ?_)
  have hP : va_P D vwCl [(mm, .inr (11, [m0, m1, m2, m3, m4, m5, .int 0, m7, m8, m9, m10, m11, m12, m13, m14, m15, m16, m17, m18, m19, m20, m21, .ref fm, m23, .ref fk, m25, m26, m27, m28, m29, m30, m31, m32, m33, m34, m35, m36, m37, m38, m39, m40, m41, m42, m43, m44, m45, m46])), (fm, .inl (cI, 8, .inl (upd (upd (fun _ => 0) 0 0) 1 0))), (fk, .inl (cI, 8, .inl (fun _ => 0)))] H := hP
  have hD : va_D A [(mm, .inr (11, [m0, m1, m2, m3, m4, m5, .int 0, m7, m8, m9, m10, m11, m12, m13, m14, m15, m16, m17, m18, m19, m20, m21, .ref fm, m23, .ref fk, m25, m26, m27, m28, m29, m30, m31, m32, m33, m34, m35, m36, m37, m38, m39, m40, m41, m42, m43, m44, m45, m46])), (fm, .inl (cI, 8, .inl (upd (upd (fun _ => 0) 0 0) 1 0))), (fk, .inl (cI, 8, .inl (fun _ => 0)))] := hD
  refine lv_iinc (v := 2) (lv' := [(1, .int 2), (0, .ref mm)]) hx hb dX11_readText_15 hl (k := 0) rfl (by decide) (by decide) rfl (fun ls hl => ?_)
  refine lv_goto (tgt := 2) hx hb dX11_readText_18 (by decide) ?_
  refine lv_iload_n hx hb dX11_readText_2 rfl (lv_at hl 0 rfl) ?_
  refine lv_bipush (v := 8) hx hb dX11_readText_3 (by decide) ?_
  refine lv_icmp_ge (tgt := 21) hx hb dX11_readText_5 (by decide) (fun c5 => absurd c5 (by decide)) (fun c5 => ?_)
  refine lv_aload_n hx hb dX11_readText_8 rfl (lv_at hl 1 rfl) ?_
  refine va_get (D := D) (ci := 11) (v := .ref fm) (C := RX11) (T := TX11) (N := 47) hx hb hts (by decide +kernel) hown hK.1 hP 0 rfl rfl 22 (by decide) (hts (.fieldLink RX11 42 "JugglingHallModel" "freshMany" "[I") (by decide +kernel)) (fun _ h9 => h9) rfl dX11_readText_9 ?_
  refine lv_iload_n hx hb dX11_readText_12 rfl (lv_at hl 0 rfl) ?_
  refine lv_iconst (v := 0) hx hb dX11_readText_13 (by decide) ?_
  refine ast_n (k := 2) hx hb hK.1 hP hD hS 1 0 rfl rfl (by decide) (by decide) dX11_readText_14 (fun H locs hP hD hS => ?_)
  have hP : va_P D vwCl [(mm, .inr (11, [m0, m1, m2, m3, m4, m5, .int 0, m7, m8, m9, m10, m11, m12, m13, m14, m15, m16, m17, m18, m19, m20, m21, .ref fm, m23, .ref fk, m25, m26, m27, m28, m29, m30, m31, m32, m33, m34, m35, m36, m37, m38, m39, m40, m41, m42, m43, m44, m45, m46])), (fm, .inl (cI, 8, .inl (upd (upd (upd (fun _ => 0) 0 0) 1 0) 2 0))), (fk, .inl (cI, 8, .inl (fun _ => 0)))] H := hP
  have hD : va_D A [(mm, .inr (11, [m0, m1, m2, m3, m4, m5, .int 0, m7, m8, m9, m10, m11, m12, m13, m14, m15, m16, m17, m18, m19, m20, m21, .ref fm, m23, .ref fk, m25, m26, m27, m28, m29, m30, m31, m32, m33, m34, m35, m36, m37, m38, m39, m40, m41, m42, m43, m44, m45, m46])), (fm, .inl (cI, 8, .inl (upd (upd (upd (fun _ => 0) 0 0) 1 0) 2 0))), (fk, .inl (cI, 8, .inl (fun _ => 0)))] := hD
  refine lv_iinc (v := 3) (lv' := [(1, .int 3), (0, .ref mm)]) hx hb dX11_readText_15 hl (k := 0) rfl (by decide) (by decide) rfl (fun ls hl => ?_)
  refine lv_goto (tgt := 2) hx hb dX11_readText_18 (by decide) ?_
  refine lv_iload_n hx hb dX11_readText_2 rfl (lv_at hl 0 rfl) ?_
  refine lv_bipush (v := 8) hx hb dX11_readText_3 (by decide) ?_
  refine lv_icmp_ge (tgt := 21) hx hb dX11_readText_5 (by decide) (fun c5 => absurd c5 (by decide)) (fun c5 => ?_)
  refine lv_aload_n hx hb dX11_readText_8 rfl (lv_at hl 1 rfl) ?_
  refine va_get (D := D) (ci := 11) (v := .ref fm) (C := RX11) (T := TX11) (N := 47) hx hb hts (by decide +kernel) hown hK.1 hP 0 rfl rfl 22 (by decide) (hts (.fieldLink RX11 42 "JugglingHallModel" "freshMany" "[I") (by decide +kernel)) (fun _ h9 => h9) rfl dX11_readText_9 ?_
  refine lv_iload_n hx hb dX11_readText_12 rfl (lv_at hl 0 rfl) ?_
  refine lv_iconst (v := 0) hx hb dX11_readText_13 (by decide) ?_
  refine ast_n (k := 3) hx hb hK.1 hP hD hS 1 0 rfl rfl (by decide) (by decide) dX11_readText_14 (fun H locs hP hD hS => ?_)
  have hP : va_P D vwCl [(mm, .inr (11, [m0, m1, m2, m3, m4, m5, .int 0, m7, m8, m9, m10, m11, m12, m13, m14, m15, m16, m17, m18, m19, m20, m21, .ref fm, m23, .ref fk, m25, m26, m27, m28, m29, m30, m31, m32, m33, m34, m35, m36, m37, m38, m39, m40, m41, m42, m43, m44, m45, m46])), (fm, .inl (cI, 8, .inl (upd (upd (upd (upd (fun _ => 0) 0 0) 1 0) 2 0) 3 0))), (fk, .inl (cI, 8, .inl (fun _ => 0)))] H := hP
  have hD : va_D A [(mm, .inr (11, [m0, m1, m2, m3, m4, m5, .int 0, m7, m8, m9, m10, m11, m12, m13, m14, m15, m16, m17, m18, m19, m20, m21, .ref fm, m23, .ref fk, m25, m26, m27, m28, m29, m30, m31, m32, m33, m34, m35, m36, m37, m38, m39, m40, m41, m42, m43, m44, m45, m46])), (fm, .inl (cI, 8, .inl (upd (upd (upd (upd (fun _ => 0) 0 0) 1 0) 2 0) 3 0))), (fk, .inl (cI, 8, .inl (fun _ => 0)))] := hD
  refine lv_iinc (v := 4) (lv' := [(1, .int 4), (0, .ref mm)]) hx hb dX11_readText_15 hl (k := 0) rfl (by decide) (by decide) rfl (fun ls hl => ?_)
  refine lv_goto (tgt := 2) hx hb dX11_readText_18 (by decide) ?_
  refine lv_iload_n hx hb dX11_readText_2 rfl (lv_at hl 0 rfl) ?_
  refine lv_bipush (v := 8) hx hb dX11_readText_3 (by decide) ?_
  refine lv_icmp_ge (tgt := 21) hx hb dX11_readText_5 (by decide) (fun c5 => absurd c5 (by decide)) (fun c5 => ?_)
  refine lv_aload_n hx hb dX11_readText_8 rfl (lv_at hl 1 rfl) ?_
  refine va_get (D := D) (ci := 11) (v := .ref fm) (C := RX11) (T := TX11) (N := 47) hx hb hts (by decide +kernel) hown hK.1 hP 0 rfl rfl 22 (by decide) (hts (.fieldLink RX11 42 "JugglingHallModel" "freshMany" "[I") (by decide +kernel)) (fun _ h9 => h9) rfl dX11_readText_9 ?_
  refine lv_iload_n hx hb dX11_readText_12 rfl (lv_at hl 0 rfl) ?_
  refine lv_iconst (v := 0) hx hb dX11_readText_13 (by decide) ?_
  refine ast_n (k := 4) hx hb hK.1 hP hD hS 1 0 rfl rfl (by decide) (by decide) dX11_readText_14 (fun H locs hP hD hS => ?_)
  have hP : va_P D vwCl [(mm, .inr (11, [m0, m1, m2, m3, m4, m5, .int 0, m7, m8, m9, m10, m11, m12, m13, m14, m15, m16, m17, m18, m19, m20, m21, .ref fm, m23, .ref fk, m25, m26, m27, m28, m29, m30, m31, m32, m33, m34, m35, m36, m37, m38, m39, m40, m41, m42, m43, m44, m45, m46])), (fm, .inl (cI, 8, .inl (upd (upd (upd (upd (upd (fun _ => 0) 0 0) 1 0) 2 0) 3 0) 4 0))), (fk, .inl (cI, 8, .inl (fun _ => 0)))] H := hP
  have hD : va_D A [(mm, .inr (11, [m0, m1, m2, m3, m4, m5, .int 0, m7, m8, m9, m10, m11, m12, m13, m14, m15, m16, m17, m18, m19, m20, m21, .ref fm, m23, .ref fk, m25, m26, m27, m28, m29, m30, m31, m32, m33, m34, m35, m36, m37, m38, m39, m40, m41, m42, m43, m44, m45, m46])), (fm, .inl (cI, 8, .inl (upd (upd (upd (upd (upd (fun _ => 0) 0 0) 1 0) 2 0) 3 0) 4 0))), (fk, .inl (cI, 8, .inl (fun _ => 0)))] := hD
  refine lv_iinc (v := 5) (lv' := [(1, .int 5), (0, .ref mm)]) hx hb dX11_readText_15 hl (k := 0) rfl (by decide) (by decide) rfl (fun ls hl => ?_)
  refine lv_goto (tgt := 2) hx hb dX11_readText_18 (by decide) ?_
  refine lv_iload_n hx hb dX11_readText_2 rfl (lv_at hl 0 rfl) ?_
  refine lv_bipush (v := 8) hx hb dX11_readText_3 (by decide) ?_
  refine lv_icmp_ge (tgt := 21) hx hb dX11_readText_5 (by decide) (fun c5 => absurd c5 (by decide)) (fun c5 => ?_)
  refine lv_aload_n hx hb dX11_readText_8 rfl (lv_at hl 1 rfl) ?_
  refine va_get (D := D) (ci := 11) (v := .ref fm) (C := RX11) (T := TX11) (N := 47) hx hb hts (by decide +kernel) hown hK.1 hP 0 rfl rfl 22 (by decide) (hts (.fieldLink RX11 42 "JugglingHallModel" "freshMany" "[I") (by decide +kernel)) (fun _ h9 => h9) rfl dX11_readText_9 ?_
  refine lv_iload_n hx hb dX11_readText_12 rfl (lv_at hl 0 rfl) ?_
  refine lv_iconst (v := 0) hx hb dX11_readText_13 (by decide) ?_
  refine ast_n (k := 5) hx hb hK.1 hP hD hS 1 0 rfl rfl (by decide) (by decide) dX11_readText_14 (fun H locs hP hD hS => ?_)
  have hP : va_P D vwCl [(mm, .inr (11, [m0, m1, m2, m3, m4, m5, .int 0, m7, m8, m9, m10, m11, m12, m13, m14, m15, m16, m17, m18, m19, m20, m21, .ref fm, m23, .ref fk, m25, m26, m27, m28, m29, m30, m31, m32, m33, m34, m35, m36, m37, m38, m39, m40, m41, m42, m43, m44, m45, m46])), (fm, .inl (cI, 8, .inl (upd (upd (upd (upd (upd (upd (fun _ => 0) 0 0) 1 0) 2 0) 3 0) 4 0) 5 0))), (fk, .inl (cI, 8, .inl (fun _ => 0)))] H := hP
  have hD : va_D A [(mm, .inr (11, [m0, m1, m2, m3, m4, m5, .int 0, m7, m8, m9, m10, m11, m12, m13, m14, m15, m16, m17, m18, m19, m20, m21, .ref fm, m23, .ref fk, m25, m26, m27, m28, m29, m30, m31, m32, m33, m34, m35, m36, m37, m38, m39, m40, m41, m42, m43, m44, m45, m46])), (fm, .inl (cI, 8, .inl (upd (upd (upd (upd (upd (upd (fun _ => 0) 0 0) 1 0) 2 0) 3 0) 4 0) 5 0))), (fk, .inl (cI, 8, .inl (fun _ => 0)))] := hD
  refine lv_iinc (v := 6) (lv' := [(1, .int 6), (0, .ref mm)]) hx hb dX11_readText_15 hl (k := 0) rfl (by decide) (by decide) rfl (fun ls hl => ?_)
  refine lv_goto (tgt := 2) hx hb dX11_readText_18 (by decide) ?_
  refine lv_iload_n hx hb dX11_readText_2 rfl (lv_at hl 0 rfl) ?_
  refine lv_bipush (v := 8) hx hb dX11_readText_3 (by decide) ?_
  refine lv_icmp_ge (tgt := 21) hx hb dX11_readText_5 (by decide) (fun c5 => absurd c5 (by decide)) (fun c5 => ?_)
  refine lv_aload_n hx hb dX11_readText_8 rfl (lv_at hl 1 rfl) ?_
  refine va_get (D := D) (ci := 11) (v := .ref fm) (C := RX11) (T := TX11) (N := 47) hx hb hts (by decide +kernel) hown hK.1 hP 0 rfl rfl 22 (by decide) (hts (.fieldLink RX11 42 "JugglingHallModel" "freshMany" "[I") (by decide +kernel)) (fun _ h9 => h9) rfl dX11_readText_9 ?_
  refine lv_iload_n hx hb dX11_readText_12 rfl (lv_at hl 0 rfl) ?_
  refine lv_iconst (v := 0) hx hb dX11_readText_13 (by decide) ?_
  refine ast_n (k := 6) hx hb hK.1 hP hD hS 1 0 rfl rfl (by decide) (by decide) dX11_readText_14 (fun H locs hP hD hS => ?_)
  have hP : va_P D vwCl [(mm, .inr (11, [m0, m1, m2, m3, m4, m5, .int 0, m7, m8, m9, m10, m11, m12, m13, m14, m15, m16, m17, m18, m19, m20, m21, .ref fm, m23, .ref fk, m25, m26, m27, m28, m29, m30, m31, m32, m33, m34, m35, m36, m37, m38, m39, m40, m41, m42, m43, m44, m45, m46])), (fm, .inl (cI, 8, .inl (upd (upd (upd (upd (upd (upd (upd (fun _ => 0) 0 0) 1 0) 2 0) 3 0) 4 0) 5 0) 6 0))), (fk, .inl (cI, 8, .inl (fun _ => 0)))] H := hP
  have hD : va_D A [(mm, .inr (11, [m0, m1, m2, m3, m4, m5, .int 0, m7, m8, m9, m10, m11, m12, m13, m14, m15, m16, m17, m18, m19, m20, m21, .ref fm, m23, .ref fk, m25, m26, m27, m28, m29, m30, m31, m32, m33, m34, m35, m36, m37, m38, m39, m40, m41, m42, m43, m44, m45, m46])), (fm, .inl (cI, 8, .inl (upd (upd (upd (upd (upd (upd (upd (fun _ => 0) 0 0) 1 0) 2 0) 3 0) 4 0) 5 0) 6 0))), (fk, .inl (cI, 8, .inl (fun _ => 0)))] := hD
  refine lv_iinc (v := 7) (lv' := [(1, .int 7), (0, .ref mm)]) hx hb dX11_readText_15 hl (k := 0) rfl (by decide) (by decide) rfl (fun ls hl => ?_)
  refine lv_goto (tgt := 2) hx hb dX11_readText_18 (by decide) ?_
  refine lv_iload_n hx hb dX11_readText_2 rfl (lv_at hl 0 rfl) ?_
  refine lv_bipush (v := 8) hx hb dX11_readText_3 (by decide) ?_
  refine lv_icmp_ge (tgt := 21) hx hb dX11_readText_5 (by decide) (fun c5 => absurd c5 (by decide)) (fun c5 => ?_)
  refine lv_aload_n hx hb dX11_readText_8 rfl (lv_at hl 1 rfl) ?_
  refine va_get (D := D) (ci := 11) (v := .ref fm) (C := RX11) (T := TX11) (N := 47) hx hb hts (by decide +kernel) hown hK.1 hP 0 rfl rfl 22 (by decide) (hts (.fieldLink RX11 42 "JugglingHallModel" "freshMany" "[I") (by decide +kernel)) (fun _ h9 => h9) rfl dX11_readText_9 ?_
  refine lv_iload_n hx hb dX11_readText_12 rfl (lv_at hl 0 rfl) ?_
  refine lv_iconst (v := 0) hx hb dX11_readText_13 (by decide) ?_
  refine ast_n (k := 7) hx hb hK.1 hP hD hS 1 0 rfl rfl (by decide) (by decide) dX11_readText_14 (fun H locs hP hD hS => ?_)
  have hP : va_P D vwCl [(mm, .inr (11, [m0, m1, m2, m3, m4, m5, .int 0, m7, m8, m9, m10, m11, m12, m13, m14, m15, m16, m17, m18, m19, m20, m21, .ref fm, m23, .ref fk, m25, m26, m27, m28, m29, m30, m31, m32, m33, m34, m35, m36, m37, m38, m39, m40, m41, m42, m43, m44, m45, m46])), (fm, .inl (cI, 8, .inl (upd (upd (upd (upd (upd (upd (upd (upd (fun _ => 0) 0 0) 1 0) 2 0) 3 0) 4 0) 5 0) 6 0) 7 0))), (fk, .inl (cI, 8, .inl (fun _ => 0)))] H := hP
  have hD : va_D A [(mm, .inr (11, [m0, m1, m2, m3, m4, m5, .int 0, m7, m8, m9, m10, m11, m12, m13, m14, m15, m16, m17, m18, m19, m20, m21, .ref fm, m23, .ref fk, m25, m26, m27, m28, m29, m30, m31, m32, m33, m34, m35, m36, m37, m38, m39, m40, m41, m42, m43, m44, m45, m46])), (fm, .inl (cI, 8, .inl (upd (upd (upd (upd (upd (upd (upd (upd (fun _ => 0) 0 0) 1 0) 2 0) 3 0) 4 0) 5 0) 6 0) 7 0))), (fk, .inl (cI, 8, .inl (fun _ => 0)))] := hD
  refine lv_iinc (v := 8) (lv' := [(1, .int 8), (0, .ref mm)]) hx hb dX11_readText_15 hl (k := 0) rfl (by decide) (by decide) rfl (fun ls hl => ?_)
  refine lv_goto (tgt := 2) hx hb dX11_readText_18 (by decide) ?_
  refine lv_iload_n hx hb dX11_readText_2 rfl (lv_at hl 0 rfl) ?_
  refine lv_bipush (v := 8) hx hb dX11_readText_3 (by decide) ?_
  refine lv_icmp_ge (tgt := 21) hx hb dX11_readText_5 (by decide) (fun c5 => ?_) (fun c5 => absurd (by decide) c5)
  refine lv_aload_n hx hb dX11_readText_21 rfl (lv_at hl 1 rfl) ?_
  refine va_get (D := D) (ci := 11) (v := .ref fk) (C := RX11) (T := TX11) (N := 47) hx hb hts (by decide +kernel) hown hK.1 hP 0 rfl rfl 24 (by decide) (hts (.fieldLink RX11 48 "JugglingHallModel" "freshMarks" "[I") (by decide +kernel)) (fun _ h9 => h9) rfl dX11_readText_22 ?_
  refine lv_iconst (v := 0) hx hb dX11_readText_25 (by decide) ?_
  refine lv_iconst (v := 0) hx hb dX11_readText_26 (by decide) ?_
  refine ast_n (k := 0) hx hb hK.1 hP hD hS 2 0 rfl rfl (by decide) (by decide) dX11_readText_27 (fun H locs hP hD hS => ?_)
  have hP : va_P D vwCl [(mm, .inr (11, [m0, m1, m2, m3, m4, m5, .int 0, m7, m8, m9, m10, m11, m12, m13, m14, m15, m16, m17, m18, m19, m20, m21, .ref fm, m23, .ref fk, m25, m26, m27, m28, m29, m30, m31, m32, m33, m34, m35, m36, m37, m38, m39, m40, m41, m42, m43, m44, m45, m46])), (fm, .inl (cI, 8, .inl (upd (upd (upd (upd (upd (upd (upd (upd (fun _ => 0) 0 0) 1 0) 2 0) 3 0) 4 0) 5 0) 6 0) 7 0))), (fk, .inl (cI, 8, .inl (upd (fun _ => 0) 0 0)))] H := hP
  have hD : va_D A [(mm, .inr (11, [m0, m1, m2, m3, m4, m5, .int 0, m7, m8, m9, m10, m11, m12, m13, m14, m15, m16, m17, m18, m19, m20, m21, .ref fm, m23, .ref fk, m25, m26, m27, m28, m29, m30, m31, m32, m33, m34, m35, m36, m37, m38, m39, m40, m41, m42, m43, m44, m45, m46])), (fm, .inl (cI, 8, .inl (upd (upd (upd (upd (upd (upd (upd (upd (fun _ => 0) 0 0) 1 0) 2 0) 3 0) 4 0) 5 0) 6 0) 7 0))), (fk, .inl (cI, 8, .inl (upd (fun _ => 0) 0 0)))] := hD
  refine lv_aload_n hx hb dX11_readText_28 rfl (lv_at hl 1 rfl) ?_
  refine lv_iconst (v := 0) hx hb dX11_readText_29 (by decide) ?_
  refine va_put (D := D) (ci := 11) (v := .int 0) (ty := .int) (C := RX11) (T := TX11) (N := 47) hx hb hts (by decide +kernel) tyX11 tyX11_ok nmX11 hown hK.1 hP hD hS 0 rfl rfl 9 (by decide) (hts (.fieldLink RX11 117 "JugglingHallModel" "at" "I") (by decide +kernel)) (fun _ h9 => h9) rfl (by decide +kernel) rfl rfl (Nat.le_of_ble_eq_true rfl) dX11_readText_30 (fun H locs hP hD hS => ?_)
  have hP : va_P D vwCl [(mm, .inr (11, [m0, m1, m2, m3, m4, m5, .int 0, m7, m8, .int 0, m10, m11, m12, m13, m14, m15, m16, m17, m18, m19, m20, m21, .ref fm, m23, .ref fk, m25, m26, m27, m28, m29, m30, m31, m32, m33, m34, m35, m36, m37, m38, m39, m40, m41, m42, m43, m44, m45, m46])), (fm, .inl (cI, 8, .inl (upd (upd (upd (upd (upd (upd (upd (upd (fun _ => 0) 0 0) 1 0) 2 0) 3 0) 4 0) 5 0) 6 0) 7 0))), (fk, .inl (cI, 8, .inl (upd (fun _ => 0) 0 0)))] H := hP
  have hD : va_D A [(mm, .inr (11, [m0, m1, m2, m3, m4, m5, .int 0, m7, m8, .int 0, m10, m11, m12, m13, m14, m15, m16, m17, m18, m19, m20, m21, .ref fm, m23, .ref fk, m25, m26, m27, m28, m29, m30, m31, m32, m33, m34, m35, m36, m37, m38, m39, m40, m41, m42, m43, m44, m45, m46])), (fm, .inl (cI, 8, .inl (upd (upd (upd (upd (upd (upd (upd (upd (fun _ => 0) 0 0) 1 0) 2 0) 3 0) 4 0) 5 0) 6 0) 7 0))), (fk, .inl (cI, 8, .inl (upd (fun _ => 0) 0 0)))] := hD
  refine lv_aload_n hx hb dX11_readText_33 rfl (lv_at hl 1 rfl) ?_
  have hPc := hP.sub (ws' := [(mm, .inr (11, [m0, m1, m2, m3, m4, m5, .int 0, m7, m8, .int 0, m10, m11, m12, m13, m14, m15, m16, m17, m18, m19, m20, m21, .ref fm, m23, .ref fk, m25, m26, m27, m28, m29, m30, m31, m32, m33, m34, m35, m36, m37, m38, m39, m40, m41, m42, m43, m44, m45, m46]))]) [0] rfl
  have hDc := hD.sub (ws' := [(mm, .inr (11, [m0, m1, m2, m3, m4, m5, .int 0, m7, m8, .int 0, m10, m11, m12, m13, m14, m15, m16, m17, m18, m19, m20, m21, .ref fm, m23, .ref fk, m25, m26, m27, m28, m29, m30, m31, m32, m33, m34, m35, m36, m37, m38, m39, m40, m41, m42, m43, m44, m45, m46]))]) [0] (by decide) rfl
  refine call_g (wr := [(fm, .inl (cI, 8, .inl (upd (upd (upd (upd (upd (upd (upd (upd (fun _ => 0) 0 0) 1 0) 2 0) 3 0) 4 0) 5 0) 6 0) 7 0))), (fk, .inl (cI, 8, .inl (upd (fun _ => 0) 0 0)))]) (va_runV (As := []) (rest := []) ⟨hx, hb, hml, hown, hts⟩ (c_nextToken l D cI cR cM _ mm m0 m1 m2 m3 m4 m5 m7 m8 m10 m11 m12 m13 m14 m15 m16 m17 m18 m19 m20 m21 (.ref fm) m23 (.ref fk) m25 m26 m27 m28 m29 m30 m31 m32 m33 m34 m35 m36 m37 m38 m39 m40 m41 m42 m43 m44 m45 m46) (cwV 0 hts gX11_readText_X11_nextToken rfl rfl rfl (by decide +kernel) ⟨Nat.le_of_ble_eq_true rfl, Nat.le_of_ble_eq_true rfl⟩) (pre_V hK hPc hDc 0 11 rfl rfl) rfl rfl hl.1 rfl (lv_room (Nat.le_of_ble_eq_true rfl)) dX11_readText_34 ⟨Nat.le_of_ble_eq_true rfl, Nat.le_of_ble_eq_true rfl⟩) hP hD hS hA [0] [1, 2] rfl rfl (by decide) (by decide) (fun _u H locs hw hP hD hS => ?_)
  have hP : va_P D vwCl [(fm, .inl (cI, 8, .inl (upd (upd (upd (upd (upd (upd (upd (upd (fun _ => 0) 0 0) 1 0) 2 0) 3 0) 4 0) 5 0) 6 0) 7 0))), (fk, .inl (cI, 8, .inl (upd (fun _ => 0) 0 0))), (mm, .inr (11, [m0, m1, m2, m3, m4, m5, .int 0, m7, m8, .int 0, .int 0, .int 0, m12, m13, m14, m15, m16, m17, m18, m19, m20, m21, .ref fm, m23, .ref fk, m25, m26, m27, m28, m29, m30, m31, m32, m33, m34, m35, m36, m37, m38, m39, m40, m41, m42, m43, m44, m45, m46]))] H := hP
  have hD : va_D A [(fm, .inl (cI, 8, .inl (upd (upd (upd (upd (upd (upd (upd (upd (fun _ => 0) 0 0) 1 0) 2 0) 3 0) 4 0) 5 0) 6 0) 7 0))), (fk, .inl (cI, 8, .inl (upd (fun _ => 0) 0 0))), (mm, .inr (11, [m0, m1, m2, m3, m4, m5, .int 0, m7, m8, .int 0, .int 0, .int 0, m12, m13, m14, m15, m16, m17, m18, m19, m20, m21, .ref fm, m23, .ref fk, m25, m26, m27, m28, m29, m30, m31, m32, m33, m34, m35, m36, m37, m38, m39, m40, m41, m42, m43, m44, m45, m46]))] := hD
  refine lv_aload_n hx hb dX11_readText_37 rfl (lv_at hl 1 rfl) ?_
  refine va_get (D := D) (ci := 11) (v := .int 0) (C := RX11) (T := TX11) (N := 47) hx hb hts (by decide +kernel) hown hK.1 hP 2 rfl rfl 11 (by decide) (hts (.fieldLink RX11 131 "JugglingHallModel" "token" "I") (by decide +kernel)) (fun _ h9 => h9) rfl dX11_readText_38 ?_
  refine lv_if_eq (tgt := 98) hx hb dX11_readText_41 (by decide) (fun c41 => ?_) (fun c41 => absurd (by decide) c41)
  refine lv_iconst (v := 0) hx hb dX11_readText_98 (by decide) ?_
  exact g_iret (()) hx hb hr hlocks hS rfl (trivial) (hP.sub [2, 0, 1] rfl) (hD.sub [2, 0, 1] (by decide) rfl) hQ (Nat.le_of_ble_eq_true rfl) (Nat.le_of_ble_eq_true rfl) dX11_readText_99
set_option maxRecDepth 100000 in
set_option maxHeartbeats 4000000 in
theorem c_mrowAt (l : Launch) (D : va_G) (cI cR cM : ClassId) (sz : Nat) (t lt : Int32) : Met l yX11_rowAt wsX11_rowAt ({ frames := 0, cells := 0, slots := 0, locals := 0 }) (P0 D cI cR cM [.int t, .int lt] sz []) (QE (some (.int (150 * (8 * t + lt)))) sz) 0 0 (va_A [] sz) := by
  refine go (cc := cX11_rowAt) (maxL := 2) (ret := (some .int)) (by decide) rfl (Nat.le_of_ble_eq_true rfl) ?_
  intro p e s m below meth c ls args Q hQ hsz hx hb hr hml hts hown hlocks hnm hP hK hD hl
  subst hsz
  have hS : va_S (va_A [] s.heap.size) s.heap s.heap [] := va_S.rf
  have hA : ∀ q, s.heap.size ≤ q → va_A [] s.heap.size q := fun q h => Or.inr h
  have hl : lv_has ls 2 [(0, .int t), (1, .int lt)] := hl
  refine lv_sipush (v := 150) hx hb dX11_rowAt_0 (by decide) ?_
  refine lv_bipush (v := 8) hx hb dX11_rowAt_3 (by decide) ?_
  refine lv_iload_n hx hb dX11_rowAt_5 rfl (lv_at hl 0 rfl) ?_
  refine lv_imul hx hb dX11_rowAt_6 ?_
  refine lv_iload_n hx hb dX11_rowAt_7 rfl (lv_at hl 1 rfl) ?_
  refine lv_iadd hx hb dX11_rowAt_8 ?_
  refine lv_imul hx hb dX11_rowAt_9 ?_
  exact ro_iret hx hb hr hlocks hS (rfl) hQ dX11_rowAt_10
set_option maxRecDepth 100000 in
set_option maxHeartbeats 4000000 in
theorem c_mtext (l : Launch) (D : va_G) (cI cR cM : ClassId) (sz : Nat) (mm : Nat) (m0 m4 m5 m7 m8 m9 m10 m11 m12 m13 m14 m15 m16 m17 m18 m19 m20 m21 m23 m25 m26 m27 m28 m29 m30 m31 m32 m33 m34 m35 m36 m37 m38 m39 m40 m41 m42 m43 m44 m45 m46 : Value) (fm fk rw1 se : Nat) : Met l yX11_text wsX11_text ({ frames := 3, cells := 0, slots := 0, locals := 65 }) (P0 D cI cR cM [.ref mm] sz [(mm, .inr (11, [m0, .ref rw1, .ref se, .int 0, m4, m5, .int 0, m7, m8, m9, m10, m11, m12, m13, m14, m15, m16, m17, m18, m19, m20, m21, .ref fm, m23, .ref fk, m25, m26, m27, m28, m29, m30, m31, m32, m33, m34, m35, m36, m37, m38, m39, m40, m41, m42, m43, m44, m45, m46])), (fm, .inl (cI, 8, .inl (fun _ => 0))), (fk, .inl (cI, 8, .inl (fun _ => 0))), (rw1, .inl (cI, 73200, .inl (fun _ => 0))), (se, .inl (cI, 488, .inl (fun _ => 0)))]) (QG (S := Unit) (fun _ => some (.int 1)) (fun _ => []) (fun _ => True) D (va_A [(mm, .inr (11, [m0, .ref rw1, .ref se, .int 0, m4, m5, .int 0, m7, m8, m9, m10, m11, m12, m13, m14, m15, m16, m17, m18, m19, m20, m21, .ref fm, m23, .ref fk, m25, m26, m27, m28, m29, m30, m31, m32, m33, m34, m35, m36, m37, m38, m39, m40, m41, m42, m43, m44, m45, m46])), (fm, .inl (cI, 8, .inl (fun _ => 0))), (fk, .inl (cI, 8, .inl (fun _ => 0))), (rw1, .inl (cI, 73200, .inl (fun _ => 0))), (se, .inl (cI, 488, .inl (fun _ => 0)))] sz)) 0 0 (va_A [(mm, .inr (11, [m0, .ref rw1, .ref se, .int 0, m4, m5, .int 0, m7, m8, m9, m10, m11, m12, m13, m14, m15, m16, m17, m18, m19, m20, m21, .ref fm, m23, .ref fk, m25, m26, m27, m28, m29, m30, m31, m32, m33, m34, m35, m36, m37, m38, m39, m40, m41, m42, m43, m44, m45, m46])), (fm, .inl (cI, 8, .inl (fun _ => 0))), (fk, .inl (cI, 8, .inl (fun _ => 0))), (rw1, .inl (cI, 73200, .inl (fun _ => 0))), (se, .inl (cI, 488, .inl (fun _ => 0)))] sz) := by
  refine go (cc := cX11_text) (maxL := 4) (ret := (some .int)) (by decide) rfl (Nat.le_of_ble_eq_true rfl) ?_
  intro p e s m below meth c ls args Q hQ hsz hx hb hr hml hts hown hlocks hnm hP hK hD hl
  subst hsz
  have hD := hD.self (sz := s.heap.size)
  generalize hAe : va_A [(mm, .inr (11, [m0, .ref rw1, .ref se, .int 0, m4, m5, .int 0, m7, m8, m9, m10, m11, m12, m13, m14, m15, m16, m17, m18, m19, m20, m21, .ref fm, m23, .ref fk, m25, m26, m27, m28, m29, m30, m31, m32, m33, m34, m35, m36, m37, m38, m39, m40, m41, m42, m43, m44, m45, m46])), (fm, .inl (cI, 8, .inl (fun _ => 0))), (fk, .inl (cI, 8, .inl (fun _ => 0))), (rw1, .inl (cI, 73200, .inl (fun _ => 0))), (se, .inl (cI, 488, .inl (fun _ => 0)))] s.heap.size = A at hD hQ
  have hA : ∀ q, s.heap.size ≤ q → A q := fun q h => by rw [← hAe]; exact Or.inr h
  have hS : va_S A s.heap s.heap [] := va_S.rf
  have hl : lv_has ls 4 [(0, .ref mm)] := hl
  refine lv_aload_n hx hb dX11_text_0 rfl (lv_at hl 0 rfl) ?_
  refine va_get (D := D) (ci := 11) (v := .int 0) (C := RX11) (T := TX11) (N := 47) hx hb hts (by decide +kernel) hown hK.1 hP 0 rfl rfl 3 (by decide) (hts (.fieldLink RX11 185 "JugglingHallModel" "time" "I") (by decide +kernel)) (fun _ h9 => h9) rfl dX11_text_1 ?_
  refine lv_bipush (v := 60) hx hb dX11_text_4 (by decide) ?_
  refine lv_icmp_ne (tgt := 11) hx hb dX11_text_6 (by decide) (fun c6 => ?_) (fun c6 => absurd c6 (by decide))
  refine lv_aload_n hx hb dX11_text_11 rfl (lv_at hl 0 rfl) ?_
  refine lv_aload_n hx hb dX11_text_12 rfl (lv_at hl 0 rfl) ?_
  have hPc := hP.sub (ws' := [(mm, .inr (11, [m0, .ref rw1, .ref se, .int 0, m4, m5, .int 0, m7, m8, m9, m10, m11, m12, m13, m14, m15, m16, m17, m18, m19, m20, m21, .ref fm, m23, .ref fk, m25, m26, m27, m28, m29, m30, m31, m32, m33, m34, m35, m36, m37, m38, m39, m40, m41, m42, m43, m44, m45, m46])), (fm, .inl (cI, 8, .inl (fun _ => 0))), (fk, .inl (cI, 8, .inl (fun _ => 0)))]) [0, 1, 2] rfl
  have hDc := hD.sub (ws' := [(mm, .inr (11, [m0, .ref rw1, .ref se, .int 0, m4, m5, .int 0, m7, m8, m9, m10, m11, m12, m13, m14, m15, m16, m17, m18, m19, m20, m21, .ref fm, m23, .ref fk, m25, m26, m27, m28, m29, m30, m31, m32, m33, m34, m35, m36, m37, m38, m39, m40, m41, m42, m43, m44, m45, m46])), (fm, .inl (cI, 8, .inl (fun _ => 0))), (fk, .inl (cI, 8, .inl (fun _ => 0)))]) [0, 1, 2] (by decide) rfl
  refine call_g (wr := [(rw1, .inl (cI, 73200, .inl (fun _ => 0))), (se, .inl (cI, 488, .inl (fun _ => 0)))]) (va_runV (As := []) (rest := [.ref mm]) ⟨hx, hb, hml, hown, hts⟩ (c_readText l D cI cR cM _ mm m0 (.ref rw1) (.ref se) (.int 0) m4 m5 m7 m8 m9 m10 m11 m12 m13 m14 m15 m16 m17 m18 m19 m20 m21 m23 m25 m26 m27 m28 m29 m30 m31 m32 m33 m34 m35 m36 m37 m38 m39 m40 m41 m42 m43 m44 m45 m46 fm fk) (cwV 0 hts gX11_text_X11_readText rfl rfl rfl (by decide +kernel) ⟨Nat.le_of_ble_eq_true rfl, Nat.le_of_ble_eq_true rfl⟩) (pre_V hK hPc hDc 0 11 rfl rfl) rfl rfl hl.1 rfl (lv_room (Nat.le_of_ble_eq_true rfl)) dX11_text_13 ⟨Nat.le_of_ble_eq_true rfl, Nat.le_of_ble_eq_true rfl⟩) hP hD hS hA [0, 1, 2] [3, 4] rfl rfl (by decide) (by decide) (fun _u H locs hw hP hD hS => ?_)
  have hP : va_P D vwCl [(rw1, .inl (cI, 73200, .inl (fun _ => 0))), (se, .inl (cI, 488, .inl (fun _ => 0))), (mm, .inr (11, [m0, .ref rw1, .ref se, .int 0, m4, m5, .int 0, m7, m8, .int 0, .int 0, .int 0, m12, m13, m14, m15, m16, m17, m18, m19, m20, m21, .ref fm, m23, .ref fk, m25, m26, m27, m28, m29, m30, m31, m32, m33, m34, m35, m36, m37, m38, m39, m40, m41, m42, m43, m44, m45, m46])), (fm, .inl (cI, 8, .inl (upd (upd (upd (upd (upd (upd (upd (upd (fun _ => 0) 0 0) 1 0) 2 0) 3 0) 4 0) 5 0) 6 0) 7 0))), (fk, .inl (cI, 8, .inl (upd (fun _ => 0) 0 0)))] H := hP
  have hD : va_D A [(rw1, .inl (cI, 73200, .inl (fun _ => 0))), (se, .inl (cI, 488, .inl (fun _ => 0))), (mm, .inr (11, [m0, .ref rw1, .ref se, .int 0, m4, m5, .int 0, m7, m8, .int 0, .int 0, .int 0, m12, m13, m14, m15, m16, m17, m18, m19, m20, m21, .ref fm, m23, .ref fk, m25, m26, m27, m28, m29, m30, m31, m32, m33, m34, m35, m36, m37, m38, m39, m40, m41, m42, m43, m44, m45, m46])), (fm, .inl (cI, 8, .inl (upd (upd (upd (upd (upd (upd (upd (upd (fun _ => 0) 0 0) 1 0) 2 0) 3 0) 4 0) 5 0) 6 0) 7 0))), (fk, .inl (cI, 8, .inl (upd (fun _ => 0) 0 0)))] := hD
  refine va_put (D := D) (ci := 11) (v := .int 0) (ty := .int) (C := RX11) (T := TX11) (N := 47) hx hb hts (by decide +kernel) tyX11 tyX11_ok nmX11 hown hK.1 hP hD hS 2 rfl rfl 7 (by decide) (hts (.fieldLink RX11 20 "JugglingHallModel" "fault" "I") (by decide +kernel)) (fun _ h9 => h9) rfl (by decide +kernel) rfl rfl (Nat.le_of_ble_eq_true rfl) dX11_text_16 (fun H locs hP hD hS => ?_)
  have hP : va_P D vwCl [(rw1, .inl (cI, 73200, .inl (fun _ => 0))), (se, .inl (cI, 488, .inl (fun _ => 0))), (mm, .inr (11, [m0, .ref rw1, .ref se, .int 0, m4, m5, .int 0, .int 0, m8, .int 0, .int 0, .int 0, m12, m13, m14, m15, m16, m17, m18, m19, m20, m21, .ref fm, m23, .ref fk, m25, m26, m27, m28, m29, m30, m31, m32, m33, m34, m35, m36, m37, m38, m39, m40, m41, m42, m43, m44, m45, m46])), (fm, .inl (cI, 8, .inl (upd (upd (upd (upd (upd (upd (upd (upd (fun _ => 0) 0 0) 1 0) 2 0) 3 0) 4 0) 5 0) 6 0) 7 0))), (fk, .inl (cI, 8, .inl (upd (fun _ => 0) 0 0)))] H := hP
  have hD : va_D A [(rw1, .inl (cI, 73200, .inl (fun _ => 0))), (se, .inl (cI, 488, .inl (fun _ => 0))), (mm, .inr (11, [m0, .ref rw1, .ref se, .int 0, m4, m5, .int 0, .int 0, m8, .int 0, .int 0, .int 0, m12, m13, m14, m15, m16, m17, m18, m19, m20, m21, .ref fm, m23, .ref fk, m25, m26, m27, m28, m29, m30, m31, m32, m33, m34, m35, m36, m37, m38, m39, m40, m41, m42, m43, m44, m45, m46])), (fm, .inl (cI, 8, .inl (upd (upd (upd (upd (upd (upd (upd (upd (fun _ => 0) 0 0) 1 0) 2 0) 3 0) 4 0) 5 0) 6 0) 7 0))), (fk, .inl (cI, 8, .inl (upd (fun _ => 0) 0 0)))] := hD
  refine lv_aload_n hx hb dX11_text_19 rfl (lv_at hl 0 rfl) ?_
  refine lv_aload_n hx hb dX11_text_20 rfl (lv_at hl 0 rfl) ?_
  refine va_get (D := D) (ci := 11) (v := .int 0) (C := RX11) (T := TX11) (N := 47) hx hb hts (by decide +kernel) hown hK.1 hP 2 rfl rfl 7 (by decide) (hts (.fieldLink RX11 20 "JugglingHallModel" "fault" "I") (by decide +kernel)) (fun _ h9 => h9) rfl dX11_text_21 ?_
  refine lv_if_ne (tgt := 31) hx hb dX11_text_24 (by decide) (fun c24 => absurd (by decide) c24) (fun c24 => ?_)
  refine lv_iconst (v := (-1)) hx hb dX11_text_27 (by decide) ?_
  refine lv_goto (tgt := 35) hx hb dX11_text_28 (by decide) ?_
  refine va_put (D := D) (ci := 11) (v := .int (-1)) (ty := .int) (C := RX11) (T := TX11) (N := 47) hx hb hts (by decide +kernel) tyX11 tyX11_ok nmX11 hown hK.1 hP hD hS 2 rfl rfl 8 (by decide) (hts (.fieldLink RX11 24 "JugglingHallModel" "faultPlace" "I") (by decide +kernel)) (fun _ h9 => h9) rfl (by decide +kernel) rfl rfl (Nat.le_of_ble_eq_true rfl) dX11_text_35 (fun H locs hP hD hS => ?_)
  have hP : va_P D vwCl [(rw1, .inl (cI, 73200, .inl (fun _ => 0))), (se, .inl (cI, 488, .inl (fun _ => 0))), (mm, .inr (11, [m0, .ref rw1, .ref se, .int 0, m4, m5, .int 0, .int 0, .int (-1), .int 0, .int 0, .int 0, m12, m13, m14, m15, m16, m17, m18, m19, m20, m21, .ref fm, m23, .ref fk, m25, m26, m27, m28, m29, m30, m31, m32, m33, m34, m35, m36, m37, m38, m39, m40, m41, m42, m43, m44, m45, m46])), (fm, .inl (cI, 8, .inl (upd (upd (upd (upd (upd (upd (upd (upd (fun _ => 0) 0 0) 1 0) 2 0) 3 0) 4 0) 5 0) 6 0) 7 0))), (fk, .inl (cI, 8, .inl (upd (fun _ => 0) 0 0)))] H := hP
  have hD : va_D A [(rw1, .inl (cI, 73200, .inl (fun _ => 0))), (se, .inl (cI, 488, .inl (fun _ => 0))), (mm, .inr (11, [m0, .ref rw1, .ref se, .int 0, m4, m5, .int 0, .int 0, .int (-1), .int 0, .int 0, .int 0, m12, m13, m14, m15, m16, m17, m18, m19, m20, m21, .ref fm, m23, .ref fk, m25, m26, m27, m28, m29, m30, m31, m32, m33, m34, m35, m36, m37, m38, m39, m40, m41, m42, m43, m44, m45, m46])), (fm, .inl (cI, 8, .inl (upd (upd (upd (upd (upd (upd (upd (upd (fun _ => 0) 0 0) 1 0) 2 0) 3 0) 4 0) 5 0) 6 0) 7 0))), (fk, .inl (cI, 8, .inl (upd (fun _ => 0) 0 0)))] := hD
  refine lv_aload_n hx hb dX11_text_38 rfl (lv_at hl 0 rfl) ?_
  refine lv_iconst (v := 0) hx hb dX11_text_39 (by decide) ?_
  refine va_put (D := D) (ci := 11) (v := .int 0) (ty := .int) (C := RX11) (T := TX11) (N := 47) hx hb hts (by decide +kernel) tyX11 tyX11_ok nmX11 hown hK.1 hP hD hS 2 rfl rfl 6 (by decide) (hts (.fieldLink RX11 110 "JugglingHallModel" "taped" "I") (by decide +kernel)) (fun _ h9 => h9) rfl (by decide +kernel) rfl rfl (Nat.le_of_ble_eq_true rfl) dX11_text_40 (fun H locs hP hD hS => ?_)
  have hP : va_P D vwCl [(rw1, .inl (cI, 73200, .inl (fun _ => 0))), (se, .inl (cI, 488, .inl (fun _ => 0))), (mm, .inr (11, [m0, .ref rw1, .ref se, .int 0, m4, m5, .int 0, .int 0, .int (-1), .int 0, .int 0, .int 0, m12, m13, m14, m15, m16, m17, m18, m19, m20, m21, .ref fm, m23, .ref fk, m25, m26, m27, m28, m29, m30, m31, m32, m33, m34, m35, m36, m37, m38, m39, m40, m41, m42, m43, m44, m45, m46])), (fm, .inl (cI, 8, .inl (upd (upd (upd (upd (upd (upd (upd (upd (fun _ => 0) 0 0) 1 0) 2 0) 3 0) 4 0) 5 0) 6 0) 7 0))), (fk, .inl (cI, 8, .inl (upd (fun _ => 0) 0 0)))] H := hP
  have hD : va_D A [(rw1, .inl (cI, 73200, .inl (fun _ => 0))), (se, .inl (cI, 488, .inl (fun _ => 0))), (mm, .inr (11, [m0, .ref rw1, .ref se, .int 0, m4, m5, .int 0, .int 0, .int (-1), .int 0, .int 0, .int 0, m12, m13, m14, m15, m16, m17, m18, m19, m20, m21, .ref fm, m23, .ref fk, m25, m26, m27, m28, m29, m30, m31, m32, m33, m34, m35, m36, m37, m38, m39, m40, m41, m42, m43, m44, m45, m46])), (fm, .inl (cI, 8, .inl (upd (upd (upd (upd (upd (upd (upd (upd (fun _ => 0) 0 0) 1 0) 2 0) 3 0) 4 0) 5 0) 6 0) 7 0))), (fk, .inl (cI, 8, .inl (upd (fun _ => 0) 0 0)))] := hD
  refine lv_aload_n hx hb dX11_text_43 rfl (lv_at hl 0 rfl) ?_
  refine va_get (D := D) (ci := 11) (v := .int 0) (C := RX11) (T := TX11) (N := 47) hx hb hts (by decide +kernel) hown hK.1 hP 2 rfl rfl 7 (by decide) (hts (.fieldLink RX11 20 "JugglingHallModel" "fault" "I") (by decide +kernel)) (fun _ h9 => h9) rfl dX11_text_44 ?_
  refine lv_if_eq (tgt := 52) hx hb dX11_text_47 (by decide) (fun c47 => ?_) (fun c47 => absurd (by decide) c47)
  refine lv_aload_n hx hb dX11_text_52 rfl (lv_at hl 0 rfl) ?_
  refine lv_dup hx hb dX11_text_53 rfl ?_
  refine va_get (D := D) (ci := 11) (v := .int 0) (C := RX11) (T := TX11) (N := 47) hx hb hts (by decide +kernel) hown hK.1 hP 2 rfl rfl 3 (by decide) (hts (.fieldLink RX11 185 "JugglingHallModel" "time" "I") (by decide +kernel)) (fun _ h9 => h9) rfl dX11_text_54 ?_
  refine lv_iconst (v := 1) hx hb dX11_text_57 (by decide) ?_
  refine lv_iadd hx hb dX11_text_58 ?_
  refine lv_eqi (y := 1) (by decide) ?_
  refine va_put (D := D) (ci := 11) (v := .int 1) (ty := .int) (C := RX11) (T := TX11) (N := 47) hx hb hts (by decide +kernel) tyX11 tyX11_ok nmX11 hown hK.1 hP hD hS 2 rfl rfl 3 (by decide) (hts (.fieldLink RX11 185 "JugglingHallModel" "time" "I") (by decide +kernel)) (fun _ h9 => h9) rfl (by decide +kernel) rfl rfl (Nat.le_of_ble_eq_true rfl) dX11_text_59 (fun H locs hP hD hS => ?_)
  have hP : va_P D vwCl [(rw1, .inl (cI, 73200, .inl (fun _ => 0))), (se, .inl (cI, 488, .inl (fun _ => 0))), (mm, .inr (11, [m0, .ref rw1, .ref se, .int 1, m4, m5, .int 0, .int 0, .int (-1), .int 0, .int 0, .int 0, m12, m13, m14, m15, m16, m17, m18, m19, m20, m21, .ref fm, m23, .ref fk, m25, m26, m27, m28, m29, m30, m31, m32, m33, m34, m35, m36, m37, m38, m39, m40, m41, m42, m43, m44, m45, m46])), (fm, .inl (cI, 8, .inl (upd (upd (upd (upd (upd (upd (upd (upd (fun _ => 0) 0 0) 1 0) 2 0) 3 0) 4 0) 5 0) 6 0) 7 0))), (fk, .inl (cI, 8, .inl (upd (fun _ => 0) 0 0)))] H := hP
  have hD : va_D A [(rw1, .inl (cI, 73200, .inl (fun _ => 0))), (se, .inl (cI, 488, .inl (fun _ => 0))), (mm, .inr (11, [m0, .ref rw1, .ref se, .int 1, m4, m5, .int 0, .int 0, .int (-1), .int 0, .int 0, .int 0, m12, m13, m14, m15, m16, m17, m18, m19, m20, m21, .ref fm, m23, .ref fk, m25, m26, m27, m28, m29, m30, m31, m32, m33, m34, m35, m36, m37, m38, m39, m40, m41, m42, m43, m44, m45, m46])), (fm, .inl (cI, 8, .inl (upd (upd (upd (upd (upd (upd (upd (upd (fun _ => 0) 0 0) 1 0) 2 0) 3 0) 4 0) 5 0) 6 0) 7 0))), (fk, .inl (cI, 8, .inl (upd (fun _ => 0) 0 0)))] := hD
  refine lv_aload_n hx hb dX11_text_62 rfl (lv_at hl 0 rfl) ?_
  refine lv_aload_n hx hb dX11_text_63 rfl (lv_at hl 0 rfl) ?_
  refine va_get (D := D) (ci := 11) (v := .int 1) (C := RX11) (T := TX11) (N := 47) hx hb hts (by decide +kernel) hown hK.1 hP 2 rfl rfl 3 (by decide) (hts (.fieldLink RX11 185 "JugglingHallModel" "time" "I") (by decide +kernel)) (fun _ h9 => h9) rfl dX11_text_64 ?_
  refine va_put (D := D) (ci := 11) (v := .int 1) (ty := .int) (C := RX11) (T := TX11) (N := 47) hx hb hts (by decide +kernel) tyX11 tyX11_ok nmX11 hown hK.1 hP hD hS 2 rfl rfl 4 (by decide) (hts (.fieldLink RX11 104 "JugglingHallModel" "looked" "I") (by decide +kernel)) (fun _ h9 => h9) rfl (by decide +kernel) rfl rfl (Nat.le_of_ble_eq_true rfl) dX11_text_67 (fun H locs hP hD hS => ?_)
  have hP : va_P D vwCl [(rw1, .inl (cI, 73200, .inl (fun _ => 0))), (se, .inl (cI, 488, .inl (fun _ => 0))), (mm, .inr (11, [m0, .ref rw1, .ref se, .int 1, .int 1, m5, .int 0, .int 0, .int (-1), .int 0, .int 0, .int 0, m12, m13, m14, m15, m16, m17, m18, m19, m20, m21, .ref fm, m23, .ref fk, m25, m26, m27, m28, m29, m30, m31, m32, m33, m34, m35, m36, m37, m38, m39, m40, m41, m42, m43, m44, m45, m46])), (fm, .inl (cI, 8, .inl (upd (upd (upd (upd (upd (upd (upd (upd (fun _ => 0) 0 0) 1 0) 2 0) 3 0) 4 0) 5 0) 6 0) 7 0))), (fk, .inl (cI, 8, .inl (upd (fun _ => 0) 0 0)))] H := hP
  have hD : va_D A [(rw1, .inl (cI, 73200, .inl (fun _ => 0))), (se, .inl (cI, 488, .inl (fun _ => 0))), (mm, .inr (11, [m0, .ref rw1, .ref se, .int 1, .int 1, m5, .int 0, .int 0, .int (-1), .int 0, .int 0, .int 0, m12, m13, m14, m15, m16, m17, m18, m19, m20, m21, .ref fm, m23, .ref fk, m25, m26, m27, m28, m29, m30, m31, m32, m33, m34, m35, m36, m37, m38, m39, m40, m41, m42, m43, m44, m45, m46])), (fm, .inl (cI, 8, .inl (upd (upd (upd (upd (upd (upd (upd (upd (fun _ => 0) 0 0) 1 0) 2 0) 3 0) 4 0) 5 0) 6 0) 7 0))), (fk, .inl (cI, 8, .inl (upd (fun _ => 0) 0 0)))] := hD
  refine lv_iconst (v := 0) hx hb dX11_text_70 (by decide) ?_
  refine lv_istore_n (lv' := [(1, .int 0), (0, .ref mm)]) hx hb dX11_text_71 rfl hl (by decide) rfl (fun ls hl => ?_)
  refine lv_iload_n hx hb dX11_text_72 rfl (lv_at hl 0 rfl) ?_
  refine lv_bipush (v := 8) hx hb dX11_text_73 (by decide) ?_
  refine lv_icmp_ge (tgt := 148) hx hb dX11_text_75 (by decide) (fun c75 => absurd c75 (by decide)) (fun c75 => ?_)
  refine lv_aload_n hx hb dX11_text_78 rfl (lv_at hl 1 rfl) ?_
  refine va_get (D := D) (ci := 11) (v := .int 1) (C := RX11) (T := TX11) (N := 47) hx hb hts (by decide +kernel) hown hK.1 hP 2 rfl rfl 3 (by decide) (hts (.fieldLink RX11 185 "JugglingHallModel" "time" "I") (by decide +kernel)) (fun _ h9 => h9) rfl dX11_text_79 ?_
  refine lv_iload_n hx hb dX11_text_82 rfl (lv_at hl 0 rfl) ?_
  refine ro (va_runS (As := [.int 1, .int 0]) (rest := []) ⟨hx, hb, hml, hown, hts⟩ (c_mrowAt l D cI cR cM _ 1 0) (va_cwS 2 hts gX11_text_X11_rowAt rfl rfl rfl (by decide +kernel) ⟨Nat.le_of_ble_eq_true rfl, Nat.le_of_ble_eq_true rfl⟩) (pre_S hK va_P_nil (va_D_nil (A := fun _ => True))) rfl rfl hl.1 rfl (lv_room (Nat.le_of_ble_eq_true rfl)) dX11_text_83 ⟨Nat.le_of_ble_eq_true rfl, Nat.le_of_ble_eq_true rfl⟩) hS hA hP (fun H locs hP hS => ?_)
  refine lv_eqi (y := 1200) (by decide) ?_
  refine lv_istore_n (lv' := [(2, .int 1200), (1, .int 0), (0, .ref mm)]) hx hb dX11_text_86 rfl hl (by decide) rfl (fun ls hl => ?_)
  refine lv_aload_n hx hb dX11_text_87 rfl (lv_at hl 2 rfl) ?_
  refine va_get (D := D) (ci := 11) (v := .ref rw1) (C := RX11) (T := TX11) (N := 47) hx hb hts (by decide +kernel) hown hK.1 hP 2 rfl rfl 1 (by decide) (hts (.fieldLink RX11 8 "JugglingHallModel" "rows" "[I") (by decide +kernel)) (fun _ h9 => h9) rfl dX11_text_88 ?_
  refine lv_iload_n hx hb dX11_text_91 rfl (lv_at hl 0 rfl) ?_
  refine lv_aload_n hx hb dX11_text_92 rfl (lv_at hl 2 rfl) ?_
  refine va_get (D := D) (ci := 11) (v := .ref fm) (C := RX11) (T := TX11) (N := 47) hx hb hts (by decide +kernel) hown hK.1 hP 2 rfl rfl 22 (by decide) (hts (.fieldLink RX11 42 "JugglingHallModel" "freshMany" "[I") (by decide +kernel)) (fun _ h9 => h9) rfl dX11_text_93 ?_
  refine lv_iload_n hx hb dX11_text_96 rfl (lv_at hl 1 rfl) ?_
  refine ald_n (k := 0) hx hb hK.1 hP 3 0 rfl rfl (by decide) (by decide) dX11_text_97 ?_
  refine lv_eqi (y := 0) (rfl) ?_
  refine ast_n (k := 1200) hx hb hK.1 hP hD hS 0 0 rfl rfl (by decide) (by decide) dX11_text_98 (fun H locs hP hD hS => ?_)
  have hP : va_P D vwCl [(rw1, .inl (cI, 73200, .inl (upd (fun _ => 0) 1200 0))), (se, .inl (cI, 488, .inl (fun _ => 0))), (mm, .inr (11, [m0, .ref rw1, .ref se, .int 1, .int 1, m5, .int 0, .int 0, .int (-1), .int 0, .int 0, .int 0, m12, m13, m14, m15, m16, m17, m18, m19, m20, m21, .ref fm, m23, .ref fk, m25, m26, m27, m28, m29, m30, m31, m32, m33, m34, m35, m36, m37, m38, m39, m40, m41, m42, m43, m44, m45, m46])), (fm, .inl (cI, 8, .inl (upd (upd (upd (upd (upd (upd (upd (upd (fun _ => 0) 0 0) 1 0) 2 0) 3 0) 4 0) 5 0) 6 0) 7 0))), (fk, .inl (cI, 8, .inl (upd (fun _ => 0) 0 0)))] H := hP
  have hD : va_D A [(rw1, .inl (cI, 73200, .inl (upd (fun _ => 0) 1200 0))), (se, .inl (cI, 488, .inl (fun _ => 0))), (mm, .inr (11, [m0, .ref rw1, .ref se, .int 1, .int 1, m5, .int 0, .int 0, .int (-1), .int 0, .int 0, .int 0, m12, m13, m14, m15, m16, m17, m18, m19, m20, m21, .ref fm, m23, .ref fk, m25, m26, m27, m28, m29, m30, m31, m32, m33, m34, m35, m36, m37, m38, m39, m40, m41, m42, m43, m44, m45, m46])), (fm, .inl (cI, 8, .inl (upd (upd (upd (upd (upd (upd (upd (upd (fun _ => 0) 0 0) 1 0) 2 0) 3 0) 4 0) 5 0) 6 0) 7 0))), (fk, .inl (cI, 8, .inl (upd (fun _ => 0) 0 0)))] := hD
  generalize (upd (fun _ => 0) 1200 0) = fq1 at hP hD
  refine lv_iconst (v := 0) hx hb dX11_text_99 (by decide) ?_
  refine lv_istore_n (lv' := [(3, .int 0), (2, .int 1200), (1, .int 0), (0, .ref mm)]) hx hb dX11_text_100 rfl hl (by decide) rfl (fun ls hl => ?_)
  refine lv_iload_n hx hb dX11_text_101 rfl (lv_at hl 0 rfl) ?_
  refine lv_bipush (v := 6) hx hb dX11_text_102 (by decide) ?_
  refine lv_aload_n hx hb dX11_text_104 rfl (lv_at hl 3 rfl) ?_
  refine va_get (D := D) (ci := 11) (v := .ref fm) (C := RX11) (T := TX11) (N := 47) hx hb hts (by decide +kernel) hown hK.1 hP 2 rfl rfl 22 (by decide) (hts (.fieldLink RX11 42 "JugglingHallModel" "freshMany" "[I") (by decide +kernel)) (fun _ h9 => h9) rfl dX11_text_105 ?_
  refine lv_iload_n hx hb dX11_text_108 rfl (lv_at hl 2 rfl) ?_
  refine ald_n (k := 0) hx hb hK.1 hP 3 0 rfl rfl (by decide) (by decide) dX11_text_109 ?_
  refine lv_eqi (y := 0) (rfl) ?_
  refine lv_imul hx hb dX11_text_110 ?_
  refine lv_eqi (y := 0) (by decide) ?_
  refine lv_icmp_ge (tgt := 142) hx hb dX11_text_111 (by decide) (fun c111 => ?_) (fun c111 => absurd (by decide) c111)
  refine lv_iinc (v := 1) (lv' := [(1, .int 1), (3, .int 0), (2, .int 1200), (0, .ref mm)]) hx hb dX11_text_142 hl (k := 2) rfl (by decide) (by decide) rfl (fun ls hl => ?_)
  refine lv_goto (tgt := 72) hx hb dX11_text_145 (by decide) ?_
  refine lv_iload_n hx hb dX11_text_72 rfl (lv_at hl 0 rfl) ?_
  refine lv_bipush (v := 8) hx hb dX11_text_73 (by decide) ?_
  refine lv_icmp_ge (tgt := 148) hx hb dX11_text_75 (by decide) (fun c75 => absurd c75 (by decide)) (fun c75 => ?_)
  refine lv_aload_n hx hb dX11_text_78 rfl (lv_at hl 3 rfl) ?_
  refine va_get (D := D) (ci := 11) (v := .int 1) (C := RX11) (T := TX11) (N := 47) hx hb hts (by decide +kernel) hown hK.1 hP 2 rfl rfl 3 (by decide) (hts (.fieldLink RX11 185 "JugglingHallModel" "time" "I") (by decide +kernel)) (fun _ h9 => h9) rfl dX11_text_79 ?_
  refine lv_iload_n hx hb dX11_text_82 rfl (lv_at hl 0 rfl) ?_
  refine ro (va_runS (As := [.int 1, .int 1]) (rest := []) ⟨hx, hb, hml, hown, hts⟩ (c_mrowAt l D cI cR cM _ 1 1) (va_cwS 2 hts gX11_text_X11_rowAt rfl rfl rfl (by decide +kernel) ⟨Nat.le_of_ble_eq_true rfl, Nat.le_of_ble_eq_true rfl⟩) (pre_S hK va_P_nil (va_D_nil (A := fun _ => True))) rfl rfl hl.1 rfl (lv_room (Nat.le_of_ble_eq_true rfl)) dX11_text_83 ⟨Nat.le_of_ble_eq_true rfl, Nat.le_of_ble_eq_true rfl⟩) hS hA hP (fun H locs hP hS => ?_)
  refine lv_eqi (y := 1350) (by decide) ?_
  refine lv_istore_n (lv' := [(2, .int 1350), (1, .int 1), (3, .int 0), (0, .ref mm)]) hx hb dX11_text_86 rfl hl (by decide) rfl (fun ls hl => ?_)
  refine lv_aload_n hx hb dX11_text_87 rfl (lv_at hl 3 rfl) ?_
  refine va_get (D := D) (ci := 11) (v := .ref rw1) (C := RX11) (T := TX11) (N := 47) hx hb hts (by decide +kernel) hown hK.1 hP 2 rfl rfl 1 (by decide) (hts (.fieldLink RX11 8 "JugglingHallModel" "rows" "[I") (by decide +kernel)) (fun _ h9 => h9) rfl dX11_text_88 ?_
  refine lv_iload_n hx hb dX11_text_91 rfl (lv_at hl 0 rfl) ?_
  refine lv_aload_n hx hb dX11_text_92 rfl (lv_at hl 3 rfl) ?_
  refine va_get (D := D) (ci := 11) (v := .ref fm) (C := RX11) (T := TX11) (N := 47) hx hb hts (by decide +kernel) hown hK.1 hP 2 rfl rfl 22 (by decide) (hts (.fieldLink RX11 42 "JugglingHallModel" "freshMany" "[I") (by decide +kernel)) (fun _ h9 => h9) rfl dX11_text_93 ?_
  refine lv_iload_n hx hb dX11_text_96 rfl (lv_at hl 1 rfl) ?_
  refine ald_n (k := 1) hx hb hK.1 hP 3 0 rfl rfl (by decide) (by decide) dX11_text_97 ?_
  refine lv_eqi (y := 0) (rfl) ?_
  refine ast_n (k := 1350) hx hb hK.1 hP hD hS 0 0 rfl rfl (by decide) (by decide) dX11_text_98 (fun H locs hP hD hS => ?_)
  have hP : va_P D vwCl [(rw1, .inl (cI, 73200, .inl (upd fq1 1350 0))), (se, .inl (cI, 488, .inl (fun _ => 0))), (mm, .inr (11, [m0, .ref rw1, .ref se, .int 1, .int 1, m5, .int 0, .int 0, .int (-1), .int 0, .int 0, .int 0, m12, m13, m14, m15, m16, m17, m18, m19, m20, m21, .ref fm, m23, .ref fk, m25, m26, m27, m28, m29, m30, m31, m32, m33, m34, m35, m36, m37, m38, m39, m40, m41, m42, m43, m44, m45, m46])), (fm, .inl (cI, 8, .inl (upd (upd (upd (upd (upd (upd (upd (upd (fun _ => 0) 0 0) 1 0) 2 0) 3 0) 4 0) 5 0) 6 0) 7 0))), (fk, .inl (cI, 8, .inl (upd (fun _ => 0) 0 0)))] H := hP
  have hD : va_D A [(rw1, .inl (cI, 73200, .inl (upd fq1 1350 0))), (se, .inl (cI, 488, .inl (fun _ => 0))), (mm, .inr (11, [m0, .ref rw1, .ref se, .int 1, .int 1, m5, .int 0, .int 0, .int (-1), .int 0, .int 0, .int 0, m12, m13, m14, m15, m16, m17, m18, m19, m20, m21, .ref fm, m23, .ref fk, m25, m26, m27, m28, m29, m30, m31, m32, m33, m34, m35, m36, m37, m38, m39, m40, m41, m42, m43, m44, m45, m46])), (fm, .inl (cI, 8, .inl (upd (upd (upd (upd (upd (upd (upd (upd (fun _ => 0) 0 0) 1 0) 2 0) 3 0) 4 0) 5 0) 6 0) 7 0))), (fk, .inl (cI, 8, .inl (upd (fun _ => 0) 0 0)))] := hD
  generalize (upd fq1 1350 0) = fq2 at hP hD
  refine lv_iconst (v := 0) hx hb dX11_text_99 (by decide) ?_
  refine lv_istore_n (lv' := [(3, .int 0), (2, .int 1350), (1, .int 1), (0, .ref mm)]) hx hb dX11_text_100 rfl hl (by decide) rfl (fun ls hl => ?_)
  refine lv_iload_n hx hb dX11_text_101 rfl (lv_at hl 0 rfl) ?_
  refine lv_bipush (v := 6) hx hb dX11_text_102 (by decide) ?_
  refine lv_aload_n hx hb dX11_text_104 rfl (lv_at hl 3 rfl) ?_
  refine va_get (D := D) (ci := 11) (v := .ref fm) (C := RX11) (T := TX11) (N := 47) hx hb hts (by decide +kernel) hown hK.1 hP 2 rfl rfl 22 (by decide) (hts (.fieldLink RX11 42 "JugglingHallModel" "freshMany" "[I") (by decide +kernel)) (fun _ h9 => h9) rfl dX11_text_105 ?_
  refine lv_iload_n hx hb dX11_text_108 rfl (lv_at hl 2 rfl) ?_
  refine ald_n (k := 1) hx hb hK.1 hP 3 0 rfl rfl (by decide) (by decide) dX11_text_109 ?_
  refine lv_eqi (y := 0) (rfl) ?_
  refine lv_imul hx hb dX11_text_110 ?_
  refine lv_eqi (y := 0) (by decide) ?_
  refine lv_icmp_ge (tgt := 142) hx hb dX11_text_111 (by decide) (fun c111 => ?_) (fun c111 => absurd (by decide) c111)
  refine lv_iinc (v := 2) (lv' := [(1, .int 2), (3, .int 0), (2, .int 1350), (0, .ref mm)]) hx hb dX11_text_142 hl (k := 2) rfl (by decide) (by decide) rfl (fun ls hl => ?_)
  refine lv_goto (tgt := 72) hx hb dX11_text_145 (by decide) ?_
  refine lv_iload_n hx hb dX11_text_72 rfl (lv_at hl 0 rfl) ?_
  refine lv_bipush (v := 8) hx hb dX11_text_73 (by decide) ?_
  refine lv_icmp_ge (tgt := 148) hx hb dX11_text_75 (by decide) (fun c75 => absurd c75 (by decide)) (fun c75 => ?_)
  refine lv_aload_n hx hb dX11_text_78 rfl (lv_at hl 3 rfl) ?_
  refine va_get (D := D) (ci := 11) (v := .int 1) (C := RX11) (T := TX11) (N := 47) hx hb hts (by decide +kernel) hown hK.1 hP 2 rfl rfl 3 (by decide) (hts (.fieldLink RX11 185 "JugglingHallModel" "time" "I") (by decide +kernel)) (fun _ h9 => h9) rfl dX11_text_79 ?_
  refine lv_iload_n hx hb dX11_text_82 rfl (lv_at hl 0 rfl) ?_
  refine ro (va_runS (As := [.int 1, .int 2]) (rest := []) ⟨hx, hb, hml, hown, hts⟩ (c_mrowAt l D cI cR cM _ 1 2) (va_cwS 2 hts gX11_text_X11_rowAt rfl rfl rfl (by decide +kernel) ⟨Nat.le_of_ble_eq_true rfl, Nat.le_of_ble_eq_true rfl⟩) (pre_S hK va_P_nil (va_D_nil (A := fun _ => True))) rfl rfl hl.1 rfl (lv_room (Nat.le_of_ble_eq_true rfl)) dX11_text_83 ⟨Nat.le_of_ble_eq_true rfl, Nat.le_of_ble_eq_true rfl⟩) hS hA hP (fun H locs hP hS => ?_)
  refine lv_eqi (y := 1500) (by decide) ?_
  refine lv_istore_n (lv' := [(2, .int 1500), (1, .int 2), (3, .int 0), (0, .ref mm)]) hx hb dX11_text_86 rfl hl (by decide) rfl (fun ls hl => ?_)
  refine lv_aload_n hx hb dX11_text_87 rfl (lv_at hl 3 rfl) ?_
  refine va_get (D := D) (ci := 11) (v := .ref rw1) (C := RX11) (T := TX11) (N := 47) hx hb hts (by decide +kernel) hown hK.1 hP 2 rfl rfl 1 (by decide) (hts (.fieldLink RX11 8 "JugglingHallModel" "rows" "[I") (by decide +kernel)) (fun _ h9 => h9) rfl dX11_text_88 ?_
  refine lv_iload_n hx hb dX11_text_91 rfl (lv_at hl 0 rfl) ?_
  refine lv_aload_n hx hb dX11_text_92 rfl (lv_at hl 3 rfl) ?_
  refine va_get (D := D) (ci := 11) (v := .ref fm) (C := RX11) (T := TX11) (N := 47) hx hb hts (by decide +kernel) hown hK.1 hP 2 rfl rfl 22 (by decide) (hts (.fieldLink RX11 42 "JugglingHallModel" "freshMany" "[I") (by decide +kernel)) (fun _ h9 => h9) rfl dX11_text_93 ?_
  refine lv_iload_n hx hb dX11_text_96 rfl (lv_at hl 1 rfl) ?_
  refine ald_n (k := 2) hx hb hK.1 hP 3 0 rfl rfl (by decide) (by decide) dX11_text_97 ?_
  refine lv_eqi (y := 0) (rfl) ?_
  refine ast_n (k := 1500) hx hb hK.1 hP hD hS 0 0 rfl rfl (by decide) (by decide) dX11_text_98 (fun H locs hP hD hS => ?_)
  have hP : va_P D vwCl [(rw1, .inl (cI, 73200, .inl (upd fq2 1500 0))), (se, .inl (cI, 488, .inl (fun _ => 0))), (mm, .inr (11, [m0, .ref rw1, .ref se, .int 1, .int 1, m5, .int 0, .int 0, .int (-1), .int 0, .int 0, .int 0, m12, m13, m14, m15, m16, m17, m18, m19, m20, m21, .ref fm, m23, .ref fk, m25, m26, m27, m28, m29, m30, m31, m32, m33, m34, m35, m36, m37, m38, m39, m40, m41, m42, m43, m44, m45, m46])), (fm, .inl (cI, 8, .inl (upd (upd (upd (upd (upd (upd (upd (upd (fun _ => 0) 0 0) 1 0) 2 0) 3 0) 4 0) 5 0) 6 0) 7 0))), (fk, .inl (cI, 8, .inl (upd (fun _ => 0) 0 0)))] H := hP
  have hD : va_D A [(rw1, .inl (cI, 73200, .inl (upd fq2 1500 0))), (se, .inl (cI, 488, .inl (fun _ => 0))), (mm, .inr (11, [m0, .ref rw1, .ref se, .int 1, .int 1, m5, .int 0, .int 0, .int (-1), .int 0, .int 0, .int 0, m12, m13, m14, m15, m16, m17, m18, m19, m20, m21, .ref fm, m23, .ref fk, m25, m26, m27, m28, m29, m30, m31, m32, m33, m34, m35, m36, m37, m38, m39, m40, m41, m42, m43, m44, m45, m46])), (fm, .inl (cI, 8, .inl (upd (upd (upd (upd (upd (upd (upd (upd (fun _ => 0) 0 0) 1 0) 2 0) 3 0) 4 0) 5 0) 6 0) 7 0))), (fk, .inl (cI, 8, .inl (upd (fun _ => 0) 0 0)))] := hD
  generalize (upd fq2 1500 0) = fq3 at hP hD
  refine lv_iconst (v := 0) hx hb dX11_text_99 (by decide) ?_
  refine lv_istore_n (lv' := [(3, .int 0), (2, .int 1500), (1, .int 2), (0, .ref mm)]) hx hb dX11_text_100 rfl hl (by decide) rfl (fun ls hl => ?_)
  refine lv_iload_n hx hb dX11_text_101 rfl (lv_at hl 0 rfl) ?_
  refine lv_bipush (v := 6) hx hb dX11_text_102 (by decide) ?_
  refine lv_aload_n hx hb dX11_text_104 rfl (lv_at hl 3 rfl) ?_
  refine va_get (D := D) (ci := 11) (v := .ref fm) (C := RX11) (T := TX11) (N := 47) hx hb hts (by decide +kernel) hown hK.1 hP 2 rfl rfl 22 (by decide) (hts (.fieldLink RX11 42 "JugglingHallModel" "freshMany" "[I") (by decide +kernel)) (fun _ h9 => h9) rfl dX11_text_105 ?_
  refine lv_iload_n hx hb dX11_text_108 rfl (lv_at hl 2 rfl) ?_
  refine ald_n (k := 2) hx hb hK.1 hP 3 0 rfl rfl (by decide) (by decide) dX11_text_109 ?_
  refine lv_eqi (y := 0) (rfl) ?_
  refine lv_imul hx hb dX11_text_110 ?_
  refine lv_eqi (y := 0) (by decide) ?_
  refine lv_icmp_ge (tgt := 142) hx hb dX11_text_111 (by decide) (fun c111 => ?_) (fun c111 => absurd (by decide) c111)
  refine lv_iinc (v := 3) (lv' := [(1, .int 3), (3, .int 0), (2, .int 1500), (0, .ref mm)]) hx hb dX11_text_142 hl (k := 2) rfl (by decide) (by decide) rfl (fun ls hl => ?_)
  refine lv_goto (tgt := 72) hx hb dX11_text_145 (by decide) ?_
  refine lv_iload_n hx hb dX11_text_72 rfl (lv_at hl 0 rfl) ?_
  refine lv_bipush (v := 8) hx hb dX11_text_73 (by decide) ?_
  refine lv_icmp_ge (tgt := 148) hx hb dX11_text_75 (by decide) (fun c75 => absurd c75 (by decide)) (fun c75 => ?_)
  refine lv_aload_n hx hb dX11_text_78 rfl (lv_at hl 3 rfl) ?_
  refine va_get (D := D) (ci := 11) (v := .int 1) (C := RX11) (T := TX11) (N := 47) hx hb hts (by decide +kernel) hown hK.1 hP 2 rfl rfl 3 (by decide) (hts (.fieldLink RX11 185 "JugglingHallModel" "time" "I") (by decide +kernel)) (fun _ h9 => h9) rfl dX11_text_79 ?_
  refine lv_iload_n hx hb dX11_text_82 rfl (lv_at hl 0 rfl) ?_
  refine ro (va_runS (As := [.int 1, .int 3]) (rest := []) ⟨hx, hb, hml, hown, hts⟩ (c_mrowAt l D cI cR cM _ 1 3) (va_cwS 2 hts gX11_text_X11_rowAt rfl rfl rfl (by decide +kernel) ⟨Nat.le_of_ble_eq_true rfl, Nat.le_of_ble_eq_true rfl⟩) (pre_S hK va_P_nil (va_D_nil (A := fun _ => True))) rfl rfl hl.1 rfl (lv_room (Nat.le_of_ble_eq_true rfl)) dX11_text_83 ⟨Nat.le_of_ble_eq_true rfl, Nat.le_of_ble_eq_true rfl⟩) hS hA hP (fun H locs hP hS => ?_)
  refine lv_eqi (y := 1650) (by decide) ?_
  refine lv_istore_n (lv' := [(2, .int 1650), (1, .int 3), (3, .int 0), (0, .ref mm)]) hx hb dX11_text_86 rfl hl (by decide) rfl (fun ls hl => ?_)
  refine lv_aload_n hx hb dX11_text_87 rfl (lv_at hl 3 rfl) ?_
  refine va_get (D := D) (ci := 11) (v := .ref rw1) (C := RX11) (T := TX11) (N := 47) hx hb hts (by decide +kernel) hown hK.1 hP 2 rfl rfl 1 (by decide) (hts (.fieldLink RX11 8 "JugglingHallModel" "rows" "[I") (by decide +kernel)) (fun _ h9 => h9) rfl dX11_text_88 ?_
  refine lv_iload_n hx hb dX11_text_91 rfl (lv_at hl 0 rfl) ?_
  refine lv_aload_n hx hb dX11_text_92 rfl (lv_at hl 3 rfl) ?_
  refine va_get (D := D) (ci := 11) (v := .ref fm) (C := RX11) (T := TX11) (N := 47) hx hb hts (by decide +kernel) hown hK.1 hP 2 rfl rfl 22 (by decide) (hts (.fieldLink RX11 42 "JugglingHallModel" "freshMany" "[I") (by decide +kernel)) (fun _ h9 => h9) rfl dX11_text_93 ?_
  refine lv_iload_n hx hb dX11_text_96 rfl (lv_at hl 1 rfl) ?_
  refine ald_n (k := 3) hx hb hK.1 hP 3 0 rfl rfl (by decide) (by decide) dX11_text_97 ?_
  refine lv_eqi (y := 0) (rfl) ?_
  refine ast_n (k := 1650) hx hb hK.1 hP hD hS 0 0 rfl rfl (by decide) (by decide) dX11_text_98 (fun H locs hP hD hS => ?_)
  have hP : va_P D vwCl [(rw1, .inl (cI, 73200, .inl (upd fq3 1650 0))), (se, .inl (cI, 488, .inl (fun _ => 0))), (mm, .inr (11, [m0, .ref rw1, .ref se, .int 1, .int 1, m5, .int 0, .int 0, .int (-1), .int 0, .int 0, .int 0, m12, m13, m14, m15, m16, m17, m18, m19, m20, m21, .ref fm, m23, .ref fk, m25, m26, m27, m28, m29, m30, m31, m32, m33, m34, m35, m36, m37, m38, m39, m40, m41, m42, m43, m44, m45, m46])), (fm, .inl (cI, 8, .inl (upd (upd (upd (upd (upd (upd (upd (upd (fun _ => 0) 0 0) 1 0) 2 0) 3 0) 4 0) 5 0) 6 0) 7 0))), (fk, .inl (cI, 8, .inl (upd (fun _ => 0) 0 0)))] H := hP
  have hD : va_D A [(rw1, .inl (cI, 73200, .inl (upd fq3 1650 0))), (se, .inl (cI, 488, .inl (fun _ => 0))), (mm, .inr (11, [m0, .ref rw1, .ref se, .int 1, .int 1, m5, .int 0, .int 0, .int (-1), .int 0, .int 0, .int 0, m12, m13, m14, m15, m16, m17, m18, m19, m20, m21, .ref fm, m23, .ref fk, m25, m26, m27, m28, m29, m30, m31, m32, m33, m34, m35, m36, m37, m38, m39, m40, m41, m42, m43, m44, m45, m46])), (fm, .inl (cI, 8, .inl (upd (upd (upd (upd (upd (upd (upd (upd (fun _ => 0) 0 0) 1 0) 2 0) 3 0) 4 0) 5 0) 6 0) 7 0))), (fk, .inl (cI, 8, .inl (upd (fun _ => 0) 0 0)))] := hD
  generalize (upd fq3 1650 0) = fq4 at hP hD
  refine lv_iconst (v := 0) hx hb dX11_text_99 (by decide) ?_
  refine lv_istore_n (lv' := [(3, .int 0), (2, .int 1650), (1, .int 3), (0, .ref mm)]) hx hb dX11_text_100 rfl hl (by decide) rfl (fun ls hl => ?_)
  refine lv_iload_n hx hb dX11_text_101 rfl (lv_at hl 0 rfl) ?_
  refine lv_bipush (v := 6) hx hb dX11_text_102 (by decide) ?_
  refine lv_aload_n hx hb dX11_text_104 rfl (lv_at hl 3 rfl) ?_
  refine va_get (D := D) (ci := 11) (v := .ref fm) (C := RX11) (T := TX11) (N := 47) hx hb hts (by decide +kernel) hown hK.1 hP 2 rfl rfl 22 (by decide) (hts (.fieldLink RX11 42 "JugglingHallModel" "freshMany" "[I") (by decide +kernel)) (fun _ h9 => h9) rfl dX11_text_105 ?_
  refine lv_iload_n hx hb dX11_text_108 rfl (lv_at hl 2 rfl) ?_
  refine ald_n (k := 3) hx hb hK.1 hP 3 0 rfl rfl (by decide) (by decide) dX11_text_109 ?_
  refine lv_eqi (y := 0) (rfl) ?_
  refine lv_imul hx hb dX11_text_110 ?_
  refine lv_eqi (y := 0) (by decide) ?_
  refine lv_icmp_ge (tgt := 142) hx hb dX11_text_111 (by decide) (fun c111 => ?_) (fun c111 => absurd (by decide) c111)
  refine lv_iinc (v := 4) (lv' := [(1, .int 4), (3, .int 0), (2, .int 1650), (0, .ref mm)]) hx hb dX11_text_142 hl (k := 2) rfl (by decide) (by decide) rfl (fun ls hl => ?_)
  refine lv_goto (tgt := 72) hx hb dX11_text_145 (by decide) ?_
  refine lv_iload_n hx hb dX11_text_72 rfl (lv_at hl 0 rfl) ?_
  refine lv_bipush (v := 8) hx hb dX11_text_73 (by decide) ?_
  refine lv_icmp_ge (tgt := 148) hx hb dX11_text_75 (by decide) (fun c75 => absurd c75 (by decide)) (fun c75 => ?_)
  refine lv_aload_n hx hb dX11_text_78 rfl (lv_at hl 3 rfl) ?_
  refine va_get (D := D) (ci := 11) (v := .int 1) (C := RX11) (T := TX11) (N := 47) hx hb hts (by decide +kernel) hown hK.1 hP 2 rfl rfl 3 (by decide) (hts (.fieldLink RX11 185 "JugglingHallModel" "time" "I") (by decide +kernel)) (fun _ h9 => h9) rfl dX11_text_79 ?_
  refine lv_iload_n hx hb dX11_text_82 rfl (lv_at hl 0 rfl) ?_
  refine ro (va_runS (As := [.int 1, .int 4]) (rest := []) ⟨hx, hb, hml, hown, hts⟩ (c_mrowAt l D cI cR cM _ 1 4) (va_cwS 2 hts gX11_text_X11_rowAt rfl rfl rfl (by decide +kernel) ⟨Nat.le_of_ble_eq_true rfl, Nat.le_of_ble_eq_true rfl⟩) (pre_S hK va_P_nil (va_D_nil (A := fun _ => True))) rfl rfl hl.1 rfl (lv_room (Nat.le_of_ble_eq_true rfl)) dX11_text_83 ⟨Nat.le_of_ble_eq_true rfl, Nat.le_of_ble_eq_true rfl⟩) hS hA hP (fun H locs hP hS => ?_)
  refine lv_eqi (y := 1800) (by decide) ?_
  refine lv_istore_n (lv' := [(2, .int 1800), (1, .int 4), (3, .int 0), (0, .ref mm)]) hx hb dX11_text_86 rfl hl (by decide) rfl (fun ls hl => ?_)
  refine lv_aload_n hx hb dX11_text_87 rfl (lv_at hl 3 rfl) ?_
  refine va_get (D := D) (ci := 11) (v := .ref rw1) (C := RX11) (T := TX11) (N := 47) hx hb hts (by decide +kernel) hown hK.1 hP 2 rfl rfl 1 (by decide) (hts (.fieldLink RX11 8 "JugglingHallModel" "rows" "[I") (by decide +kernel)) (fun _ h9 => h9) rfl dX11_text_88 ?_
  refine lv_iload_n hx hb dX11_text_91 rfl (lv_at hl 0 rfl) ?_
  refine lv_aload_n hx hb dX11_text_92 rfl (lv_at hl 3 rfl) ?_
  refine va_get (D := D) (ci := 11) (v := .ref fm) (C := RX11) (T := TX11) (N := 47) hx hb hts (by decide +kernel) hown hK.1 hP 2 rfl rfl 22 (by decide) (hts (.fieldLink RX11 42 "JugglingHallModel" "freshMany" "[I") (by decide +kernel)) (fun _ h9 => h9) rfl dX11_text_93 ?_
  refine lv_iload_n hx hb dX11_text_96 rfl (lv_at hl 1 rfl) ?_
  refine ald_n (k := 4) hx hb hK.1 hP 3 0 rfl rfl (by decide) (by decide) dX11_text_97 ?_
  refine lv_eqi (y := 0) (rfl) ?_
  refine ast_n (k := 1800) hx hb hK.1 hP hD hS 0 0 rfl rfl (by decide) (by decide) dX11_text_98 (fun H locs hP hD hS => ?_)
  have hP : va_P D vwCl [(rw1, .inl (cI, 73200, .inl (upd fq4 1800 0))), (se, .inl (cI, 488, .inl (fun _ => 0))), (mm, .inr (11, [m0, .ref rw1, .ref se, .int 1, .int 1, m5, .int 0, .int 0, .int (-1), .int 0, .int 0, .int 0, m12, m13, m14, m15, m16, m17, m18, m19, m20, m21, .ref fm, m23, .ref fk, m25, m26, m27, m28, m29, m30, m31, m32, m33, m34, m35, m36, m37, m38, m39, m40, m41, m42, m43, m44, m45, m46])), (fm, .inl (cI, 8, .inl (upd (upd (upd (upd (upd (upd (upd (upd (fun _ => 0) 0 0) 1 0) 2 0) 3 0) 4 0) 5 0) 6 0) 7 0))), (fk, .inl (cI, 8, .inl (upd (fun _ => 0) 0 0)))] H := hP
  have hD : va_D A [(rw1, .inl (cI, 73200, .inl (upd fq4 1800 0))), (se, .inl (cI, 488, .inl (fun _ => 0))), (mm, .inr (11, [m0, .ref rw1, .ref se, .int 1, .int 1, m5, .int 0, .int 0, .int (-1), .int 0, .int 0, .int 0, m12, m13, m14, m15, m16, m17, m18, m19, m20, m21, .ref fm, m23, .ref fk, m25, m26, m27, m28, m29, m30, m31, m32, m33, m34, m35, m36, m37, m38, m39, m40, m41, m42, m43, m44, m45, m46])), (fm, .inl (cI, 8, .inl (upd (upd (upd (upd (upd (upd (upd (upd (fun _ => 0) 0 0) 1 0) 2 0) 3 0) 4 0) 5 0) 6 0) 7 0))), (fk, .inl (cI, 8, .inl (upd (fun _ => 0) 0 0)))] := hD
  generalize (upd fq4 1800 0) = fq5 at hP hD
  refine lv_iconst (v := 0) hx hb dX11_text_99 (by decide) ?_
  refine lv_istore_n (lv' := [(3, .int 0), (2, .int 1800), (1, .int 4), (0, .ref mm)]) hx hb dX11_text_100 rfl hl (by decide) rfl (fun ls hl => ?_)
  refine lv_iload_n hx hb dX11_text_101 rfl (lv_at hl 0 rfl) ?_
  refine lv_bipush (v := 6) hx hb dX11_text_102 (by decide) ?_
  refine lv_aload_n hx hb dX11_text_104 rfl (lv_at hl 3 rfl) ?_
  refine va_get (D := D) (ci := 11) (v := .ref fm) (C := RX11) (T := TX11) (N := 47) hx hb hts (by decide +kernel) hown hK.1 hP 2 rfl rfl 22 (by decide) (hts (.fieldLink RX11 42 "JugglingHallModel" "freshMany" "[I") (by decide +kernel)) (fun _ h9 => h9) rfl dX11_text_105 ?_
  refine lv_iload_n hx hb dX11_text_108 rfl (lv_at hl 2 rfl) ?_
  refine ald_n (k := 4) hx hb hK.1 hP 3 0 rfl rfl (by decide) (by decide) dX11_text_109 ?_
  refine lv_eqi (y := 0) (rfl) ?_
  refine lv_imul hx hb dX11_text_110 ?_
  refine lv_eqi (y := 0) (by decide) ?_
  refine lv_icmp_ge (tgt := 142) hx hb dX11_text_111 (by decide) (fun c111 => ?_) (fun c111 => absurd (by decide) c111)
  refine lv_iinc (v := 5) (lv' := [(1, .int 5), (3, .int 0), (2, .int 1800), (0, .ref mm)]) hx hb dX11_text_142 hl (k := 2) rfl (by decide) (by decide) rfl (fun ls hl => ?_)
  refine lv_goto (tgt := 72) hx hb dX11_text_145 (by decide) ?_
  refine lv_iload_n hx hb dX11_text_72 rfl (lv_at hl 0 rfl) ?_
  refine lv_bipush (v := 8) hx hb dX11_text_73 (by decide) ?_
  refine lv_icmp_ge (tgt := 148) hx hb dX11_text_75 (by decide) (fun c75 => absurd c75 (by decide)) (fun c75 => ?_)
  refine lv_aload_n hx hb dX11_text_78 rfl (lv_at hl 3 rfl) ?_
  refine va_get (D := D) (ci := 11) (v := .int 1) (C := RX11) (T := TX11) (N := 47) hx hb hts (by decide +kernel) hown hK.1 hP 2 rfl rfl 3 (by decide) (hts (.fieldLink RX11 185 "JugglingHallModel" "time" "I") (by decide +kernel)) (fun _ h9 => h9) rfl dX11_text_79 ?_
  refine lv_iload_n hx hb dX11_text_82 rfl (lv_at hl 0 rfl) ?_
  refine ro (va_runS (As := [.int 1, .int 5]) (rest := []) ⟨hx, hb, hml, hown, hts⟩ (c_mrowAt l D cI cR cM _ 1 5) (va_cwS 2 hts gX11_text_X11_rowAt rfl rfl rfl (by decide +kernel) ⟨Nat.le_of_ble_eq_true rfl, Nat.le_of_ble_eq_true rfl⟩) (pre_S hK va_P_nil (va_D_nil (A := fun _ => True))) rfl rfl hl.1 rfl (lv_room (Nat.le_of_ble_eq_true rfl)) dX11_text_83 ⟨Nat.le_of_ble_eq_true rfl, Nat.le_of_ble_eq_true rfl⟩) hS hA hP (fun H locs hP hS => ?_)
  refine lv_eqi (y := 1950) (by decide) ?_
  refine lv_istore_n (lv' := [(2, .int 1950), (1, .int 5), (3, .int 0), (0, .ref mm)]) hx hb dX11_text_86 rfl hl (by decide) rfl (fun ls hl => ?_)
  refine lv_aload_n hx hb dX11_text_87 rfl (lv_at hl 3 rfl) ?_
  refine va_get (D := D) (ci := 11) (v := .ref rw1) (C := RX11) (T := TX11) (N := 47) hx hb hts (by decide +kernel) hown hK.1 hP 2 rfl rfl 1 (by decide) (hts (.fieldLink RX11 8 "JugglingHallModel" "rows" "[I") (by decide +kernel)) (fun _ h9 => h9) rfl dX11_text_88 ?_
  refine lv_iload_n hx hb dX11_text_91 rfl (lv_at hl 0 rfl) ?_
  refine lv_aload_n hx hb dX11_text_92 rfl (lv_at hl 3 rfl) ?_
  refine va_get (D := D) (ci := 11) (v := .ref fm) (C := RX11) (T := TX11) (N := 47) hx hb hts (by decide +kernel) hown hK.1 hP 2 rfl rfl 22 (by decide) (hts (.fieldLink RX11 42 "JugglingHallModel" "freshMany" "[I") (by decide +kernel)) (fun _ h9 => h9) rfl dX11_text_93 ?_
  refine lv_iload_n hx hb dX11_text_96 rfl (lv_at hl 1 rfl) ?_
  refine ald_n (k := 5) hx hb hK.1 hP 3 0 rfl rfl (by decide) (by decide) dX11_text_97 ?_
  refine lv_eqi (y := 0) (rfl) ?_
  refine ast_n (k := 1950) hx hb hK.1 hP hD hS 0 0 rfl rfl (by decide) (by decide) dX11_text_98 (fun H locs hP hD hS => ?_)
  have hP : va_P D vwCl [(rw1, .inl (cI, 73200, .inl (upd fq5 1950 0))), (se, .inl (cI, 488, .inl (fun _ => 0))), (mm, .inr (11, [m0, .ref rw1, .ref se, .int 1, .int 1, m5, .int 0, .int 0, .int (-1), .int 0, .int 0, .int 0, m12, m13, m14, m15, m16, m17, m18, m19, m20, m21, .ref fm, m23, .ref fk, m25, m26, m27, m28, m29, m30, m31, m32, m33, m34, m35, m36, m37, m38, m39, m40, m41, m42, m43, m44, m45, m46])), (fm, .inl (cI, 8, .inl (upd (upd (upd (upd (upd (upd (upd (upd (fun _ => 0) 0 0) 1 0) 2 0) 3 0) 4 0) 5 0) 6 0) 7 0))), (fk, .inl (cI, 8, .inl (upd (fun _ => 0) 0 0)))] H := hP
  have hD : va_D A [(rw1, .inl (cI, 73200, .inl (upd fq5 1950 0))), (se, .inl (cI, 488, .inl (fun _ => 0))), (mm, .inr (11, [m0, .ref rw1, .ref se, .int 1, .int 1, m5, .int 0, .int 0, .int (-1), .int 0, .int 0, .int 0, m12, m13, m14, m15, m16, m17, m18, m19, m20, m21, .ref fm, m23, .ref fk, m25, m26, m27, m28, m29, m30, m31, m32, m33, m34, m35, m36, m37, m38, m39, m40, m41, m42, m43, m44, m45, m46])), (fm, .inl (cI, 8, .inl (upd (upd (upd (upd (upd (upd (upd (upd (fun _ => 0) 0 0) 1 0) 2 0) 3 0) 4 0) 5 0) 6 0) 7 0))), (fk, .inl (cI, 8, .inl (upd (fun _ => 0) 0 0)))] := hD
  generalize (upd fq5 1950 0) = fq6 at hP hD
  refine lv_iconst (v := 0) hx hb dX11_text_99 (by decide) ?_
  refine lv_istore_n (lv' := [(3, .int 0), (2, .int 1950), (1, .int 5), (0, .ref mm)]) hx hb dX11_text_100 rfl hl (by decide) rfl (fun ls hl => ?_)
  refine lv_iload_n hx hb dX11_text_101 rfl (lv_at hl 0 rfl) ?_
  refine lv_bipush (v := 6) hx hb dX11_text_102 (by decide) ?_
  refine lv_aload_n hx hb dX11_text_104 rfl (lv_at hl 3 rfl) ?_
  refine va_get (D := D) (ci := 11) (v := .ref fm) (C := RX11) (T := TX11) (N := 47) hx hb hts (by decide +kernel) hown hK.1 hP 2 rfl rfl 22 (by decide) (hts (.fieldLink RX11 42 "JugglingHallModel" "freshMany" "[I") (by decide +kernel)) (fun _ h9 => h9) rfl dX11_text_105 ?_
  refine lv_iload_n hx hb dX11_text_108 rfl (lv_at hl 2 rfl) ?_
  refine ald_n (k := 5) hx hb hK.1 hP 3 0 rfl rfl (by decide) (by decide) dX11_text_109 ?_
  refine lv_eqi (y := 0) (rfl) ?_
  refine lv_imul hx hb dX11_text_110 ?_
  refine lv_eqi (y := 0) (by decide) ?_
  refine lv_icmp_ge (tgt := 142) hx hb dX11_text_111 (by decide) (fun c111 => ?_) (fun c111 => absurd (by decide) c111)
  refine lv_iinc (v := 6) (lv' := [(1, .int 6), (3, .int 0), (2, .int 1950), (0, .ref mm)]) hx hb dX11_text_142 hl (k := 2) rfl (by decide) (by decide) rfl (fun ls hl => ?_)
  refine lv_goto (tgt := 72) hx hb dX11_text_145 (by decide) ?_
  refine lv_iload_n hx hb dX11_text_72 rfl (lv_at hl 0 rfl) ?_
  refine lv_bipush (v := 8) hx hb dX11_text_73 (by decide) ?_
  refine lv_icmp_ge (tgt := 148) hx hb dX11_text_75 (by decide) (fun c75 => absurd c75 (by decide)) (fun c75 => ?_)
  refine lv_aload_n hx hb dX11_text_78 rfl (lv_at hl 3 rfl) ?_
  refine va_get (D := D) (ci := 11) (v := .int 1) (C := RX11) (T := TX11) (N := 47) hx hb hts (by decide +kernel) hown hK.1 hP 2 rfl rfl 3 (by decide) (hts (.fieldLink RX11 185 "JugglingHallModel" "time" "I") (by decide +kernel)) (fun _ h9 => h9) rfl dX11_text_79 ?_
  refine lv_iload_n hx hb dX11_text_82 rfl (lv_at hl 0 rfl) ?_
  refine ro (va_runS (As := [.int 1, .int 6]) (rest := []) ⟨hx, hb, hml, hown, hts⟩ (c_mrowAt l D cI cR cM _ 1 6) (va_cwS 2 hts gX11_text_X11_rowAt rfl rfl rfl (by decide +kernel) ⟨Nat.le_of_ble_eq_true rfl, Nat.le_of_ble_eq_true rfl⟩) (pre_S hK va_P_nil (va_D_nil (A := fun _ => True))) rfl rfl hl.1 rfl (lv_room (Nat.le_of_ble_eq_true rfl)) dX11_text_83 ⟨Nat.le_of_ble_eq_true rfl, Nat.le_of_ble_eq_true rfl⟩) hS hA hP (fun H locs hP hS => ?_)
  refine lv_eqi (y := 2100) (by decide) ?_
  refine lv_istore_n (lv' := [(2, .int 2100), (1, .int 6), (3, .int 0), (0, .ref mm)]) hx hb dX11_text_86 rfl hl (by decide) rfl (fun ls hl => ?_)
  refine lv_aload_n hx hb dX11_text_87 rfl (lv_at hl 3 rfl) ?_
  refine va_get (D := D) (ci := 11) (v := .ref rw1) (C := RX11) (T := TX11) (N := 47) hx hb hts (by decide +kernel) hown hK.1 hP 2 rfl rfl 1 (by decide) (hts (.fieldLink RX11 8 "JugglingHallModel" "rows" "[I") (by decide +kernel)) (fun _ h9 => h9) rfl dX11_text_88 ?_
  refine lv_iload_n hx hb dX11_text_91 rfl (lv_at hl 0 rfl) ?_
  refine lv_aload_n hx hb dX11_text_92 rfl (lv_at hl 3 rfl) ?_
  refine va_get (D := D) (ci := 11) (v := .ref fm) (C := RX11) (T := TX11) (N := 47) hx hb hts (by decide +kernel) hown hK.1 hP 2 rfl rfl 22 (by decide) (hts (.fieldLink RX11 42 "JugglingHallModel" "freshMany" "[I") (by decide +kernel)) (fun _ h9 => h9) rfl dX11_text_93 ?_
  refine lv_iload_n hx hb dX11_text_96 rfl (lv_at hl 1 rfl) ?_
  refine ald_n (k := 6) hx hb hK.1 hP 3 0 rfl rfl (by decide) (by decide) dX11_text_97 ?_
  refine lv_eqi (y := 0) (rfl) ?_
  refine ast_n (k := 2100) hx hb hK.1 hP hD hS 0 0 rfl rfl (by decide) (by decide) dX11_text_98 (fun H locs hP hD hS => ?_)
  have hP : va_P D vwCl [(rw1, .inl (cI, 73200, .inl (upd fq6 2100 0))), (se, .inl (cI, 488, .inl (fun _ => 0))), (mm, .inr (11, [m0, .ref rw1, .ref se, .int 1, .int 1, m5, .int 0, .int 0, .int (-1), .int 0, .int 0, .int 0, m12, m13, m14, m15, m16, m17, m18, m19, m20, m21, .ref fm, m23, .ref fk, m25, m26, m27, m28, m29, m30, m31, m32, m33, m34, m35, m36, m37, m38, m39, m40, m41, m42, m43, m44, m45, m46])), (fm, .inl (cI, 8, .inl (upd (upd (upd (upd (upd (upd (upd (upd (fun _ => 0) 0 0) 1 0) 2 0) 3 0) 4 0) 5 0) 6 0) 7 0))), (fk, .inl (cI, 8, .inl (upd (fun _ => 0) 0 0)))] H := hP
  have hD : va_D A [(rw1, .inl (cI, 73200, .inl (upd fq6 2100 0))), (se, .inl (cI, 488, .inl (fun _ => 0))), (mm, .inr (11, [m0, .ref rw1, .ref se, .int 1, .int 1, m5, .int 0, .int 0, .int (-1), .int 0, .int 0, .int 0, m12, m13, m14, m15, m16, m17, m18, m19, m20, m21, .ref fm, m23, .ref fk, m25, m26, m27, m28, m29, m30, m31, m32, m33, m34, m35, m36, m37, m38, m39, m40, m41, m42, m43, m44, m45, m46])), (fm, .inl (cI, 8, .inl (upd (upd (upd (upd (upd (upd (upd (upd (fun _ => 0) 0 0) 1 0) 2 0) 3 0) 4 0) 5 0) 6 0) 7 0))), (fk, .inl (cI, 8, .inl (upd (fun _ => 0) 0 0)))] := hD
  generalize (upd fq6 2100 0) = fq7 at hP hD
  refine lv_iconst (v := 0) hx hb dX11_text_99 (by decide) ?_
  refine lv_istore_n (lv' := [(3, .int 0), (2, .int 2100), (1, .int 6), (0, .ref mm)]) hx hb dX11_text_100 rfl hl (by decide) rfl (fun ls hl => ?_)
  refine lv_iload_n hx hb dX11_text_101 rfl (lv_at hl 0 rfl) ?_
  refine lv_bipush (v := 6) hx hb dX11_text_102 (by decide) ?_
  refine lv_aload_n hx hb dX11_text_104 rfl (lv_at hl 3 rfl) ?_
  refine va_get (D := D) (ci := 11) (v := .ref fm) (C := RX11) (T := TX11) (N := 47) hx hb hts (by decide +kernel) hown hK.1 hP 2 rfl rfl 22 (by decide) (hts (.fieldLink RX11 42 "JugglingHallModel" "freshMany" "[I") (by decide +kernel)) (fun _ h9 => h9) rfl dX11_text_105 ?_
  refine lv_iload_n hx hb dX11_text_108 rfl (lv_at hl 2 rfl) ?_
  refine ald_n (k := 6) hx hb hK.1 hP 3 0 rfl rfl (by decide) (by decide) dX11_text_109 ?_
  refine lv_eqi (y := 0) (rfl) ?_
  refine lv_imul hx hb dX11_text_110 ?_
  refine lv_eqi (y := 0) (by decide) ?_
  refine lv_icmp_ge (tgt := 142) hx hb dX11_text_111 (by decide) (fun c111 => ?_) (fun c111 => absurd (by decide) c111)
  refine lv_iinc (v := 7) (lv' := [(1, .int 7), (3, .int 0), (2, .int 2100), (0, .ref mm)]) hx hb dX11_text_142 hl (k := 2) rfl (by decide) (by decide) rfl (fun ls hl => ?_)
  refine lv_goto (tgt := 72) hx hb dX11_text_145 (by decide) ?_
  refine lv_iload_n hx hb dX11_text_72 rfl (lv_at hl 0 rfl) ?_
  refine lv_bipush (v := 8) hx hb dX11_text_73 (by decide) ?_
  refine lv_icmp_ge (tgt := 148) hx hb dX11_text_75 (by decide) (fun c75 => absurd c75 (by decide)) (fun c75 => ?_)
  refine lv_aload_n hx hb dX11_text_78 rfl (lv_at hl 3 rfl) ?_
  refine va_get (D := D) (ci := 11) (v := .int 1) (C := RX11) (T := TX11) (N := 47) hx hb hts (by decide +kernel) hown hK.1 hP 2 rfl rfl 3 (by decide) (hts (.fieldLink RX11 185 "JugglingHallModel" "time" "I") (by decide +kernel)) (fun _ h9 => h9) rfl dX11_text_79 ?_
  refine lv_iload_n hx hb dX11_text_82 rfl (lv_at hl 0 rfl) ?_
  refine ro (va_runS (As := [.int 1, .int 7]) (rest := []) ⟨hx, hb, hml, hown, hts⟩ (c_mrowAt l D cI cR cM _ 1 7) (va_cwS 2 hts gX11_text_X11_rowAt rfl rfl rfl (by decide +kernel) ⟨Nat.le_of_ble_eq_true rfl, Nat.le_of_ble_eq_true rfl⟩) (pre_S hK va_P_nil (va_D_nil (A := fun _ => True))) rfl rfl hl.1 rfl (lv_room (Nat.le_of_ble_eq_true rfl)) dX11_text_83 ⟨Nat.le_of_ble_eq_true rfl, Nat.le_of_ble_eq_true rfl⟩) hS hA hP (fun H locs hP hS => ?_)
  refine lv_eqi (y := 2250) (by decide) ?_
  refine lv_istore_n (lv' := [(2, .int 2250), (1, .int 7), (3, .int 0), (0, .ref mm)]) hx hb dX11_text_86 rfl hl (by decide) rfl (fun ls hl => ?_)
  refine lv_aload_n hx hb dX11_text_87 rfl (lv_at hl 3 rfl) ?_
  refine va_get (D := D) (ci := 11) (v := .ref rw1) (C := RX11) (T := TX11) (N := 47) hx hb hts (by decide +kernel) hown hK.1 hP 2 rfl rfl 1 (by decide) (hts (.fieldLink RX11 8 "JugglingHallModel" "rows" "[I") (by decide +kernel)) (fun _ h9 => h9) rfl dX11_text_88 ?_
  refine lv_iload_n hx hb dX11_text_91 rfl (lv_at hl 0 rfl) ?_
  refine lv_aload_n hx hb dX11_text_92 rfl (lv_at hl 3 rfl) ?_
  refine va_get (D := D) (ci := 11) (v := .ref fm) (C := RX11) (T := TX11) (N := 47) hx hb hts (by decide +kernel) hown hK.1 hP 2 rfl rfl 22 (by decide) (hts (.fieldLink RX11 42 "JugglingHallModel" "freshMany" "[I") (by decide +kernel)) (fun _ h9 => h9) rfl dX11_text_93 ?_
  refine lv_iload_n hx hb dX11_text_96 rfl (lv_at hl 1 rfl) ?_
  refine ald_n (k := 7) hx hb hK.1 hP 3 0 rfl rfl (by decide) (by decide) dX11_text_97 ?_
  refine lv_eqi (y := 0) (rfl) ?_
  refine ast_n (k := 2250) hx hb hK.1 hP hD hS 0 0 rfl rfl (by decide) (by decide) dX11_text_98 (fun H locs hP hD hS => ?_)
  have hP : va_P D vwCl [(rw1, .inl (cI, 73200, .inl (upd fq7 2250 0))), (se, .inl (cI, 488, .inl (fun _ => 0))), (mm, .inr (11, [m0, .ref rw1, .ref se, .int 1, .int 1, m5, .int 0, .int 0, .int (-1), .int 0, .int 0, .int 0, m12, m13, m14, m15, m16, m17, m18, m19, m20, m21, .ref fm, m23, .ref fk, m25, m26, m27, m28, m29, m30, m31, m32, m33, m34, m35, m36, m37, m38, m39, m40, m41, m42, m43, m44, m45, m46])), (fm, .inl (cI, 8, .inl (upd (upd (upd (upd (upd (upd (upd (upd (fun _ => 0) 0 0) 1 0) 2 0) 3 0) 4 0) 5 0) 6 0) 7 0))), (fk, .inl (cI, 8, .inl (upd (fun _ => 0) 0 0)))] H := hP
  have hD : va_D A [(rw1, .inl (cI, 73200, .inl (upd fq7 2250 0))), (se, .inl (cI, 488, .inl (fun _ => 0))), (mm, .inr (11, [m0, .ref rw1, .ref se, .int 1, .int 1, m5, .int 0, .int 0, .int (-1), .int 0, .int 0, .int 0, m12, m13, m14, m15, m16, m17, m18, m19, m20, m21, .ref fm, m23, .ref fk, m25, m26, m27, m28, m29, m30, m31, m32, m33, m34, m35, m36, m37, m38, m39, m40, m41, m42, m43, m44, m45, m46])), (fm, .inl (cI, 8, .inl (upd (upd (upd (upd (upd (upd (upd (upd (fun _ => 0) 0 0) 1 0) 2 0) 3 0) 4 0) 5 0) 6 0) 7 0))), (fk, .inl (cI, 8, .inl (upd (fun _ => 0) 0 0)))] := hD
  generalize (upd fq7 2250 0) = fq8 at hP hD
  refine lv_iconst (v := 0) hx hb dX11_text_99 (by decide) ?_
  refine lv_istore_n (lv' := [(3, .int 0), (2, .int 2250), (1, .int 7), (0, .ref mm)]) hx hb dX11_text_100 rfl hl (by decide) rfl (fun ls hl => ?_)
  refine lv_iload_n hx hb dX11_text_101 rfl (lv_at hl 0 rfl) ?_
  refine lv_bipush (v := 6) hx hb dX11_text_102 (by decide) ?_
  refine lv_aload_n hx hb dX11_text_104 rfl (lv_at hl 3 rfl) ?_
  refine va_get (D := D) (ci := 11) (v := .ref fm) (C := RX11) (T := TX11) (N := 47) hx hb hts (by decide +kernel) hown hK.1 hP 2 rfl rfl 22 (by decide) (hts (.fieldLink RX11 42 "JugglingHallModel" "freshMany" "[I") (by decide +kernel)) (fun _ h9 => h9) rfl dX11_text_105 ?_
  refine lv_iload_n hx hb dX11_text_108 rfl (lv_at hl 2 rfl) ?_
  refine ald_n (k := 7) hx hb hK.1 hP 3 0 rfl rfl (by decide) (by decide) dX11_text_109 ?_
  refine lv_eqi (y := 0) (rfl) ?_
  refine lv_imul hx hb dX11_text_110 ?_
  refine lv_eqi (y := 0) (by decide) ?_
  refine lv_icmp_ge (tgt := 142) hx hb dX11_text_111 (by decide) (fun c111 => ?_) (fun c111 => absurd (by decide) c111)
  refine lv_iinc (v := 8) (lv' := [(1, .int 8), (3, .int 0), (2, .int 2250), (0, .ref mm)]) hx hb dX11_text_142 hl (k := 2) rfl (by decide) (by decide) rfl (fun ls hl => ?_)
  refine lv_goto (tgt := 72) hx hb dX11_text_145 (by decide) ?_
  refine lv_iload_n hx hb dX11_text_72 rfl (lv_at hl 0 rfl) ?_
  refine lv_bipush (v := 8) hx hb dX11_text_73 (by decide) ?_
  refine lv_icmp_ge (tgt := 148) hx hb dX11_text_75 (by decide) (fun c75 => ?_) (fun c75 => absurd (by decide) c75)
  refine lv_iconst (v := 0) hx hb dX11_text_148 (by decide) ?_
  refine lv_istore_n (lv' := [(1, .int 0), (3, .int 0), (2, .int 2250), (0, .ref mm)]) hx hb dX11_text_149 rfl hl (by decide) rfl (fun ls hl => ?_)
  refine lv_iload_n hx hb dX11_text_150 rfl (lv_at hl 0 rfl) ?_
  refine lv_bipush (v := 8) hx hb dX11_text_151 (by decide) ?_
  refine lv_icmp_ge (tgt := 182) hx hb dX11_text_153 (by decide) (fun c153 => absurd c153 (by decide)) (fun c153 => ?_)
  refine lv_aload_n hx hb dX11_text_156 rfl (lv_at hl 3 rfl) ?_
  refine va_get (D := D) (ci := 11) (v := .ref se) (C := RX11) (T := TX11) (N := 47) hx hb hts (by decide +kernel) hown hK.1 hP 2 rfl rfl 2 (by decide) (hts (.fieldLink RX11 14 "JugglingHallModel" "seenRows" "[I") (by decide +kernel)) (fun _ h9 => h9) rfl dX11_text_157 ?_
  refine lv_bipush (v := 8) hx hb dX11_text_160 (by decide) ?_
  refine lv_aload_n hx hb dX11_text_162 rfl (lv_at hl 3 rfl) ?_
  refine va_get (D := D) (ci := 11) (v := .int 1) (C := RX11) (T := TX11) (N := 47) hx hb hts (by decide +kernel) hown hK.1 hP 2 rfl rfl 3 (by decide) (hts (.fieldLink RX11 185 "JugglingHallModel" "time" "I") (by decide +kernel)) (fun _ h9 => h9) rfl dX11_text_163 ?_
  refine lv_imul hx hb dX11_text_166 ?_
  refine lv_eqi (y := 8) (by decide) ?_
  refine lv_iload_n hx hb dX11_text_167 rfl (lv_at hl 0 rfl) ?_
  refine lv_iadd hx hb dX11_text_168 ?_
  refine lv_eqi (y := 8) (by decide) ?_
  refine lv_aload_n hx hb dX11_text_169 rfl (lv_at hl 3 rfl) ?_
  refine va_get (D := D) (ci := 11) (v := .ref fk) (C := RX11) (T := TX11) (N := 47) hx hb hts (by decide +kernel) hown hK.1 hP 2 rfl rfl 24 (by decide) (hts (.fieldLink RX11 48 "JugglingHallModel" "freshMarks" "[I") (by decide +kernel)) (fun _ h9 => h9) rfl dX11_text_170 ?_
  refine lv_iload_n hx hb dX11_text_173 rfl (lv_at hl 0 rfl) ?_
  refine ald_n (k := 0) hx hb hK.1 hP 4 0 rfl rfl (by decide) (by decide) dX11_text_174 ?_
  refine lv_eqi (y := 0) (rfl) ?_
  refine ast_n (k := 8) hx hb hK.1 hP hD hS 1 0 rfl rfl (by decide) (by decide) dX11_text_175 (fun H locs hP hD hS => ?_)
  have hP : va_P D vwCl [(rw1, .inl (cI, 73200, .inl fq8)), (se, .inl (cI, 488, .inl (upd (fun _ => 0) 8 0))), (mm, .inr (11, [m0, .ref rw1, .ref se, .int 1, .int 1, m5, .int 0, .int 0, .int (-1), .int 0, .int 0, .int 0, m12, m13, m14, m15, m16, m17, m18, m19, m20, m21, .ref fm, m23, .ref fk, m25, m26, m27, m28, m29, m30, m31, m32, m33, m34, m35, m36, m37, m38, m39, m40, m41, m42, m43, m44, m45, m46])), (fm, .inl (cI, 8, .inl (upd (upd (upd (upd (upd (upd (upd (upd (fun _ => 0) 0 0) 1 0) 2 0) 3 0) 4 0) 5 0) 6 0) 7 0))), (fk, .inl (cI, 8, .inl (upd (fun _ => 0) 0 0)))] H := hP
  have hD : va_D A [(rw1, .inl (cI, 73200, .inl fq8)), (se, .inl (cI, 488, .inl (upd (fun _ => 0) 8 0))), (mm, .inr (11, [m0, .ref rw1, .ref se, .int 1, .int 1, m5, .int 0, .int 0, .int (-1), .int 0, .int 0, .int 0, m12, m13, m14, m15, m16, m17, m18, m19, m20, m21, .ref fm, m23, .ref fk, m25, m26, m27, m28, m29, m30, m31, m32, m33, m34, m35, m36, m37, m38, m39, m40, m41, m42, m43, m44, m45, m46])), (fm, .inl (cI, 8, .inl (upd (upd (upd (upd (upd (upd (upd (upd (fun _ => 0) 0 0) 1 0) 2 0) 3 0) 4 0) 5 0) 6 0) 7 0))), (fk, .inl (cI, 8, .inl (upd (fun _ => 0) 0 0)))] := hD
  generalize (upd (fun _ => 0) 8 0) = fq9 at hP hD
  refine lv_iinc (v := 1) (lv' := [(1, .int 1), (3, .int 0), (2, .int 2250), (0, .ref mm)]) hx hb dX11_text_176 hl (k := 0) rfl (by decide) (by decide) rfl (fun ls hl => ?_)
  refine lv_goto (tgt := 150) hx hb dX11_text_179 (by decide) ?_
  refine lv_iload_n hx hb dX11_text_150 rfl (lv_at hl 0 rfl) ?_
  refine lv_bipush (v := 8) hx hb dX11_text_151 (by decide) ?_
  refine lv_icmp_ge (tgt := 182) hx hb dX11_text_153 (by decide) (fun c153 => absurd c153 (by decide)) (fun c153 => ?_)
  refine lv_aload_n hx hb dX11_text_156 rfl (lv_at hl 3 rfl) ?_
  refine va_get (D := D) (ci := 11) (v := .ref se) (C := RX11) (T := TX11) (N := 47) hx hb hts (by decide +kernel) hown hK.1 hP 2 rfl rfl 2 (by decide) (hts (.fieldLink RX11 14 "JugglingHallModel" "seenRows" "[I") (by decide +kernel)) (fun _ h9 => h9) rfl dX11_text_157 ?_
  refine lv_bipush (v := 8) hx hb dX11_text_160 (by decide) ?_
  refine lv_aload_n hx hb dX11_text_162 rfl (lv_at hl 3 rfl) ?_
  refine va_get (D := D) (ci := 11) (v := .int 1) (C := RX11) (T := TX11) (N := 47) hx hb hts (by decide +kernel) hown hK.1 hP 2 rfl rfl 3 (by decide) (hts (.fieldLink RX11 185 "JugglingHallModel" "time" "I") (by decide +kernel)) (fun _ h9 => h9) rfl dX11_text_163 ?_
  refine lv_imul hx hb dX11_text_166 ?_
  refine lv_eqi (y := 8) (by decide) ?_
  refine lv_iload_n hx hb dX11_text_167 rfl (lv_at hl 0 rfl) ?_
  refine lv_iadd hx hb dX11_text_168 ?_
  refine lv_eqi (y := 9) (by decide) ?_
  refine lv_aload_n hx hb dX11_text_169 rfl (lv_at hl 3 rfl) ?_
  refine va_get (D := D) (ci := 11) (v := .ref fk) (C := RX11) (T := TX11) (N := 47) hx hb hts (by decide +kernel) hown hK.1 hP 2 rfl rfl 24 (by decide) (hts (.fieldLink RX11 48 "JugglingHallModel" "freshMarks" "[I") (by decide +kernel)) (fun _ h9 => h9) rfl dX11_text_170 ?_
  refine lv_iload_n hx hb dX11_text_173 rfl (lv_at hl 0 rfl) ?_
  refine ald_n (k := 1) hx hb hK.1 hP 4 0 rfl rfl (by decide) (by decide) dX11_text_174 ?_
  refine lv_eqi (y := 0) (rfl) ?_
  refine ast_n (k := 9) hx hb hK.1 hP hD hS 1 0 rfl rfl (by decide) (by decide) dX11_text_175 (fun H locs hP hD hS => ?_)
  have hP : va_P D vwCl [(rw1, .inl (cI, 73200, .inl fq8)), (se, .inl (cI, 488, .inl (upd fq9 9 0))), (mm, .inr (11, [m0, .ref rw1, .ref se, .int 1, .int 1, m5, .int 0, .int 0, .int (-1), .int 0, .int 0, .int 0, m12, m13, m14, m15, m16, m17, m18, m19, m20, m21, .ref fm, m23, .ref fk, m25, m26, m27, m28, m29, m30, m31, m32, m33, m34, m35, m36, m37, m38, m39, m40, m41, m42, m43, m44, m45, m46])), (fm, .inl (cI, 8, .inl (upd (upd (upd (upd (upd (upd (upd (upd (fun _ => 0) 0 0) 1 0) 2 0) 3 0) 4 0) 5 0) 6 0) 7 0))), (fk, .inl (cI, 8, .inl (upd (fun _ => 0) 0 0)))] H := hP
  have hD : va_D A [(rw1, .inl (cI, 73200, .inl fq8)), (se, .inl (cI, 488, .inl (upd fq9 9 0))), (mm, .inr (11, [m0, .ref rw1, .ref se, .int 1, .int 1, m5, .int 0, .int 0, .int (-1), .int 0, .int 0, .int 0, m12, m13, m14, m15, m16, m17, m18, m19, m20, m21, .ref fm, m23, .ref fk, m25, m26, m27, m28, m29, m30, m31, m32, m33, m34, m35, m36, m37, m38, m39, m40, m41, m42, m43, m44, m45, m46])), (fm, .inl (cI, 8, .inl (upd (upd (upd (upd (upd (upd (upd (upd (fun _ => 0) 0 0) 1 0) 2 0) 3 0) 4 0) 5 0) 6 0) 7 0))), (fk, .inl (cI, 8, .inl (upd (fun _ => 0) 0 0)))] := hD
  generalize (upd fq9 9 0) = fq10 at hP hD
  refine lv_iinc (v := 2) (lv' := [(1, .int 2), (3, .int 0), (2, .int 2250), (0, .ref mm)]) hx hb dX11_text_176 hl (k := 0) rfl (by decide) (by decide) rfl (fun ls hl => ?_)
  refine lv_goto (tgt := 150) hx hb dX11_text_179 (by decide) ?_
  refine lv_iload_n hx hb dX11_text_150 rfl (lv_at hl 0 rfl) ?_
  refine lv_bipush (v := 8) hx hb dX11_text_151 (by decide) ?_
  refine lv_icmp_ge (tgt := 182) hx hb dX11_text_153 (by decide) (fun c153 => absurd c153 (by decide)) (fun c153 => ?_)
  refine lv_aload_n hx hb dX11_text_156 rfl (lv_at hl 3 rfl) ?_
  refine va_get (D := D) (ci := 11) (v := .ref se) (C := RX11) (T := TX11) (N := 47) hx hb hts (by decide +kernel) hown hK.1 hP 2 rfl rfl 2 (by decide) (hts (.fieldLink RX11 14 "JugglingHallModel" "seenRows" "[I") (by decide +kernel)) (fun _ h9 => h9) rfl dX11_text_157 ?_
  refine lv_bipush (v := 8) hx hb dX11_text_160 (by decide) ?_
  refine lv_aload_n hx hb dX11_text_162 rfl (lv_at hl 3 rfl) ?_
  refine va_get (D := D) (ci := 11) (v := .int 1) (C := RX11) (T := TX11) (N := 47) hx hb hts (by decide +kernel) hown hK.1 hP 2 rfl rfl 3 (by decide) (hts (.fieldLink RX11 185 "JugglingHallModel" "time" "I") (by decide +kernel)) (fun _ h9 => h9) rfl dX11_text_163 ?_
  refine lv_imul hx hb dX11_text_166 ?_
  refine lv_eqi (y := 8) (by decide) ?_
  refine lv_iload_n hx hb dX11_text_167 rfl (lv_at hl 0 rfl) ?_
  refine lv_iadd hx hb dX11_text_168 ?_
  refine lv_eqi (y := 10) (by decide) ?_
  refine lv_aload_n hx hb dX11_text_169 rfl (lv_at hl 3 rfl) ?_
  refine va_get (D := D) (ci := 11) (v := .ref fk) (C := RX11) (T := TX11) (N := 47) hx hb hts (by decide +kernel) hown hK.1 hP 2 rfl rfl 24 (by decide) (hts (.fieldLink RX11 48 "JugglingHallModel" "freshMarks" "[I") (by decide +kernel)) (fun _ h9 => h9) rfl dX11_text_170 ?_
  refine lv_iload_n hx hb dX11_text_173 rfl (lv_at hl 0 rfl) ?_
  refine ald_n (k := 2) hx hb hK.1 hP 4 0 rfl rfl (by decide) (by decide) dX11_text_174 ?_
  refine lv_eqi (y := 0) (rfl) ?_
  refine ast_n (k := 10) hx hb hK.1 hP hD hS 1 0 rfl rfl (by decide) (by decide) dX11_text_175 (fun H locs hP hD hS => ?_)
  have hP : va_P D vwCl [(rw1, .inl (cI, 73200, .inl fq8)), (se, .inl (cI, 488, .inl (upd fq10 10 0))), (mm, .inr (11, [m0, .ref rw1, .ref se, .int 1, .int 1, m5, .int 0, .int 0, .int (-1), .int 0, .int 0, .int 0, m12, m13, m14, m15, m16, m17, m18, m19, m20, m21, .ref fm, m23, .ref fk, m25, m26, m27, m28, m29, m30, m31, m32, m33, m34, m35, m36, m37, m38, m39, m40, m41, m42, m43, m44, m45, m46])), (fm, .inl (cI, 8, .inl (upd (upd (upd (upd (upd (upd (upd (upd (fun _ => 0) 0 0) 1 0) 2 0) 3 0) 4 0) 5 0) 6 0) 7 0))), (fk, .inl (cI, 8, .inl (upd (fun _ => 0) 0 0)))] H := hP
  have hD : va_D A [(rw1, .inl (cI, 73200, .inl fq8)), (se, .inl (cI, 488, .inl (upd fq10 10 0))), (mm, .inr (11, [m0, .ref rw1, .ref se, .int 1, .int 1, m5, .int 0, .int 0, .int (-1), .int 0, .int 0, .int 0, m12, m13, m14, m15, m16, m17, m18, m19, m20, m21, .ref fm, m23, .ref fk, m25, m26, m27, m28, m29, m30, m31, m32, m33, m34, m35, m36, m37, m38, m39, m40, m41, m42, m43, m44, m45, m46])), (fm, .inl (cI, 8, .inl (upd (upd (upd (upd (upd (upd (upd (upd (fun _ => 0) 0 0) 1 0) 2 0) 3 0) 4 0) 5 0) 6 0) 7 0))), (fk, .inl (cI, 8, .inl (upd (fun _ => 0) 0 0)))] := hD
  generalize (upd fq10 10 0) = fq11 at hP hD
  refine lv_iinc (v := 3) (lv' := [(1, .int 3), (3, .int 0), (2, .int 2250), (0, .ref mm)]) hx hb dX11_text_176 hl (k := 0) rfl (by decide) (by decide) rfl (fun ls hl => ?_)
  refine lv_goto (tgt := 150) hx hb dX11_text_179 (by decide) ?_
  refine lv_iload_n hx hb dX11_text_150 rfl (lv_at hl 0 rfl) ?_
  refine lv_bipush (v := 8) hx hb dX11_text_151 (by decide) ?_
  refine lv_icmp_ge (tgt := 182) hx hb dX11_text_153 (by decide) (fun c153 => absurd c153 (by decide)) (fun c153 => ?_)
  refine lv_aload_n hx hb dX11_text_156 rfl (lv_at hl 3 rfl) ?_
  refine va_get (D := D) (ci := 11) (v := .ref se) (C := RX11) (T := TX11) (N := 47) hx hb hts (by decide +kernel) hown hK.1 hP 2 rfl rfl 2 (by decide) (hts (.fieldLink RX11 14 "JugglingHallModel" "seenRows" "[I") (by decide +kernel)) (fun _ h9 => h9) rfl dX11_text_157 ?_
  refine lv_bipush (v := 8) hx hb dX11_text_160 (by decide) ?_
  refine lv_aload_n hx hb dX11_text_162 rfl (lv_at hl 3 rfl) ?_
  refine va_get (D := D) (ci := 11) (v := .int 1) (C := RX11) (T := TX11) (N := 47) hx hb hts (by decide +kernel) hown hK.1 hP 2 rfl rfl 3 (by decide) (hts (.fieldLink RX11 185 "JugglingHallModel" "time" "I") (by decide +kernel)) (fun _ h9 => h9) rfl dX11_text_163 ?_
  refine lv_imul hx hb dX11_text_166 ?_
  refine lv_eqi (y := 8) (by decide) ?_
  refine lv_iload_n hx hb dX11_text_167 rfl (lv_at hl 0 rfl) ?_
  refine lv_iadd hx hb dX11_text_168 ?_
  refine lv_eqi (y := 11) (by decide) ?_
  refine lv_aload_n hx hb dX11_text_169 rfl (lv_at hl 3 rfl) ?_
  refine va_get (D := D) (ci := 11) (v := .ref fk) (C := RX11) (T := TX11) (N := 47) hx hb hts (by decide +kernel) hown hK.1 hP 2 rfl rfl 24 (by decide) (hts (.fieldLink RX11 48 "JugglingHallModel" "freshMarks" "[I") (by decide +kernel)) (fun _ h9 => h9) rfl dX11_text_170 ?_
  refine lv_iload_n hx hb dX11_text_173 rfl (lv_at hl 0 rfl) ?_
  refine ald_n (k := 3) hx hb hK.1 hP 4 0 rfl rfl (by decide) (by decide) dX11_text_174 ?_
  refine lv_eqi (y := 0) (rfl) ?_
  refine ast_n (k := 11) hx hb hK.1 hP hD hS 1 0 rfl rfl (by decide) (by decide) dX11_text_175 (fun H locs hP hD hS => ?_)
  have hP : va_P D vwCl [(rw1, .inl (cI, 73200, .inl fq8)), (se, .inl (cI, 488, .inl (upd fq11 11 0))), (mm, .inr (11, [m0, .ref rw1, .ref se, .int 1, .int 1, m5, .int 0, .int 0, .int (-1), .int 0, .int 0, .int 0, m12, m13, m14, m15, m16, m17, m18, m19, m20, m21, .ref fm, m23, .ref fk, m25, m26, m27, m28, m29, m30, m31, m32, m33, m34, m35, m36, m37, m38, m39, m40, m41, m42, m43, m44, m45, m46])), (fm, .inl (cI, 8, .inl (upd (upd (upd (upd (upd (upd (upd (upd (fun _ => 0) 0 0) 1 0) 2 0) 3 0) 4 0) 5 0) 6 0) 7 0))), (fk, .inl (cI, 8, .inl (upd (fun _ => 0) 0 0)))] H := hP
  have hD : va_D A [(rw1, .inl (cI, 73200, .inl fq8)), (se, .inl (cI, 488, .inl (upd fq11 11 0))), (mm, .inr (11, [m0, .ref rw1, .ref se, .int 1, .int 1, m5, .int 0, .int 0, .int (-1), .int 0, .int 0, .int 0, m12, m13, m14, m15, m16, m17, m18, m19, m20, m21, .ref fm, m23, .ref fk, m25, m26, m27, m28, m29, m30, m31, m32, m33, m34, m35, m36, m37, m38, m39, m40, m41, m42, m43, m44, m45, m46])), (fm, .inl (cI, 8, .inl (upd (upd (upd (upd (upd (upd (upd (upd (fun _ => 0) 0 0) 1 0) 2 0) 3 0) 4 0) 5 0) 6 0) 7 0))), (fk, .inl (cI, 8, .inl (upd (fun _ => 0) 0 0)))] := hD
  generalize (upd fq11 11 0) = fq12 at hP hD
  refine lv_iinc (v := 4) (lv' := [(1, .int 4), (3, .int 0), (2, .int 2250), (0, .ref mm)]) hx hb dX11_text_176 hl (k := 0) rfl (by decide) (by decide) rfl (fun ls hl => ?_)
  refine lv_goto (tgt := 150) hx hb dX11_text_179 (by decide) ?_
  refine lv_iload_n hx hb dX11_text_150 rfl (lv_at hl 0 rfl) ?_
  refine lv_bipush (v := 8) hx hb dX11_text_151 (by decide) ?_
  refine lv_icmp_ge (tgt := 182) hx hb dX11_text_153 (by decide) (fun c153 => absurd c153 (by decide)) (fun c153 => ?_)
  refine lv_aload_n hx hb dX11_text_156 rfl (lv_at hl 3 rfl) ?_
  refine va_get (D := D) (ci := 11) (v := .ref se) (C := RX11) (T := TX11) (N := 47) hx hb hts (by decide +kernel) hown hK.1 hP 2 rfl rfl 2 (by decide) (hts (.fieldLink RX11 14 "JugglingHallModel" "seenRows" "[I") (by decide +kernel)) (fun _ h9 => h9) rfl dX11_text_157 ?_
  refine lv_bipush (v := 8) hx hb dX11_text_160 (by decide) ?_
  refine lv_aload_n hx hb dX11_text_162 rfl (lv_at hl 3 rfl) ?_
  refine va_get (D := D) (ci := 11) (v := .int 1) (C := RX11) (T := TX11) (N := 47) hx hb hts (by decide +kernel) hown hK.1 hP 2 rfl rfl 3 (by decide) (hts (.fieldLink RX11 185 "JugglingHallModel" "time" "I") (by decide +kernel)) (fun _ h9 => h9) rfl dX11_text_163 ?_
  refine lv_imul hx hb dX11_text_166 ?_
  refine lv_eqi (y := 8) (by decide) ?_
  refine lv_iload_n hx hb dX11_text_167 rfl (lv_at hl 0 rfl) ?_
  refine lv_iadd hx hb dX11_text_168 ?_
  refine lv_eqi (y := 12) (by decide) ?_
  refine lv_aload_n hx hb dX11_text_169 rfl (lv_at hl 3 rfl) ?_
  refine va_get (D := D) (ci := 11) (v := .ref fk) (C := RX11) (T := TX11) (N := 47) hx hb hts (by decide +kernel) hown hK.1 hP 2 rfl rfl 24 (by decide) (hts (.fieldLink RX11 48 "JugglingHallModel" "freshMarks" "[I") (by decide +kernel)) (fun _ h9 => h9) rfl dX11_text_170 ?_
  refine lv_iload_n hx hb dX11_text_173 rfl (lv_at hl 0 rfl) ?_
  refine ald_n (k := 4) hx hb hK.1 hP 4 0 rfl rfl (by decide) (by decide) dX11_text_174 ?_
  refine lv_eqi (y := 0) (rfl) ?_
  refine ast_n (k := 12) hx hb hK.1 hP hD hS 1 0 rfl rfl (by decide) (by decide) dX11_text_175 (fun H locs hP hD hS => ?_)
  have hP : va_P D vwCl [(rw1, .inl (cI, 73200, .inl fq8)), (se, .inl (cI, 488, .inl (upd fq12 12 0))), (mm, .inr (11, [m0, .ref rw1, .ref se, .int 1, .int 1, m5, .int 0, .int 0, .int (-1), .int 0, .int 0, .int 0, m12, m13, m14, m15, m16, m17, m18, m19, m20, m21, .ref fm, m23, .ref fk, m25, m26, m27, m28, m29, m30, m31, m32, m33, m34, m35, m36, m37, m38, m39, m40, m41, m42, m43, m44, m45, m46])), (fm, .inl (cI, 8, .inl (upd (upd (upd (upd (upd (upd (upd (upd (fun _ => 0) 0 0) 1 0) 2 0) 3 0) 4 0) 5 0) 6 0) 7 0))), (fk, .inl (cI, 8, .inl (upd (fun _ => 0) 0 0)))] H := hP
  have hD : va_D A [(rw1, .inl (cI, 73200, .inl fq8)), (se, .inl (cI, 488, .inl (upd fq12 12 0))), (mm, .inr (11, [m0, .ref rw1, .ref se, .int 1, .int 1, m5, .int 0, .int 0, .int (-1), .int 0, .int 0, .int 0, m12, m13, m14, m15, m16, m17, m18, m19, m20, m21, .ref fm, m23, .ref fk, m25, m26, m27, m28, m29, m30, m31, m32, m33, m34, m35, m36, m37, m38, m39, m40, m41, m42, m43, m44, m45, m46])), (fm, .inl (cI, 8, .inl (upd (upd (upd (upd (upd (upd (upd (upd (fun _ => 0) 0 0) 1 0) 2 0) 3 0) 4 0) 5 0) 6 0) 7 0))), (fk, .inl (cI, 8, .inl (upd (fun _ => 0) 0 0)))] := hD
  generalize (upd fq12 12 0) = fq13 at hP hD
  refine lv_iinc (v := 5) (lv' := [(1, .int 5), (3, .int 0), (2, .int 2250), (0, .ref mm)]) hx hb dX11_text_176 hl (k := 0) rfl (by decide) (by decide) rfl (fun ls hl => ?_)
  refine lv_goto (tgt := 150) hx hb dX11_text_179 (by decide) ?_
  refine lv_iload_n hx hb dX11_text_150 rfl (lv_at hl 0 rfl) ?_
  refine lv_bipush (v := 8) hx hb dX11_text_151 (by decide) ?_
  refine lv_icmp_ge (tgt := 182) hx hb dX11_text_153 (by decide) (fun c153 => absurd c153 (by decide)) (fun c153 => ?_)
  refine lv_aload_n hx hb dX11_text_156 rfl (lv_at hl 3 rfl) ?_
  refine va_get (D := D) (ci := 11) (v := .ref se) (C := RX11) (T := TX11) (N := 47) hx hb hts (by decide +kernel) hown hK.1 hP 2 rfl rfl 2 (by decide) (hts (.fieldLink RX11 14 "JugglingHallModel" "seenRows" "[I") (by decide +kernel)) (fun _ h9 => h9) rfl dX11_text_157 ?_
  refine lv_bipush (v := 8) hx hb dX11_text_160 (by decide) ?_
  refine lv_aload_n hx hb dX11_text_162 rfl (lv_at hl 3 rfl) ?_
  refine va_get (D := D) (ci := 11) (v := .int 1) (C := RX11) (T := TX11) (N := 47) hx hb hts (by decide +kernel) hown hK.1 hP 2 rfl rfl 3 (by decide) (hts (.fieldLink RX11 185 "JugglingHallModel" "time" "I") (by decide +kernel)) (fun _ h9 => h9) rfl dX11_text_163 ?_
  refine lv_imul hx hb dX11_text_166 ?_
  refine lv_eqi (y := 8) (by decide) ?_
  refine lv_iload_n hx hb dX11_text_167 rfl (lv_at hl 0 rfl) ?_
  refine lv_iadd hx hb dX11_text_168 ?_
  refine lv_eqi (y := 13) (by decide) ?_
  refine lv_aload_n hx hb dX11_text_169 rfl (lv_at hl 3 rfl) ?_
  refine va_get (D := D) (ci := 11) (v := .ref fk) (C := RX11) (T := TX11) (N := 47) hx hb hts (by decide +kernel) hown hK.1 hP 2 rfl rfl 24 (by decide) (hts (.fieldLink RX11 48 "JugglingHallModel" "freshMarks" "[I") (by decide +kernel)) (fun _ h9 => h9) rfl dX11_text_170 ?_
  refine lv_iload_n hx hb dX11_text_173 rfl (lv_at hl 0 rfl) ?_
  refine ald_n (k := 5) hx hb hK.1 hP 4 0 rfl rfl (by decide) (by decide) dX11_text_174 ?_
  refine lv_eqi (y := 0) (rfl) ?_
  refine ast_n (k := 13) hx hb hK.1 hP hD hS 1 0 rfl rfl (by decide) (by decide) dX11_text_175 (fun H locs hP hD hS => ?_)
  have hP : va_P D vwCl [(rw1, .inl (cI, 73200, .inl fq8)), (se, .inl (cI, 488, .inl (upd fq13 13 0))), (mm, .inr (11, [m0, .ref rw1, .ref se, .int 1, .int 1, m5, .int 0, .int 0, .int (-1), .int 0, .int 0, .int 0, m12, m13, m14, m15, m16, m17, m18, m19, m20, m21, .ref fm, m23, .ref fk, m25, m26, m27, m28, m29, m30, m31, m32, m33, m34, m35, m36, m37, m38, m39, m40, m41, m42, m43, m44, m45, m46])), (fm, .inl (cI, 8, .inl (upd (upd (upd (upd (upd (upd (upd (upd (fun _ => 0) 0 0) 1 0) 2 0) 3 0) 4 0) 5 0) 6 0) 7 0))), (fk, .inl (cI, 8, .inl (upd (fun _ => 0) 0 0)))] H := hP
  have hD : va_D A [(rw1, .inl (cI, 73200, .inl fq8)), (se, .inl (cI, 488, .inl (upd fq13 13 0))), (mm, .inr (11, [m0, .ref rw1, .ref se, .int 1, .int 1, m5, .int 0, .int 0, .int (-1), .int 0, .int 0, .int 0, m12, m13, m14, m15, m16, m17, m18, m19, m20, m21, .ref fm, m23, .ref fk, m25, m26, m27, m28, m29, m30, m31, m32, m33, m34, m35, m36, m37, m38, m39, m40, m41, m42, m43, m44, m45, m46])), (fm, .inl (cI, 8, .inl (upd (upd (upd (upd (upd (upd (upd (upd (fun _ => 0) 0 0) 1 0) 2 0) 3 0) 4 0) 5 0) 6 0) 7 0))), (fk, .inl (cI, 8, .inl (upd (fun _ => 0) 0 0)))] := hD
  generalize (upd fq13 13 0) = fq14 at hP hD
  refine lv_iinc (v := 6) (lv' := [(1, .int 6), (3, .int 0), (2, .int 2250), (0, .ref mm)]) hx hb dX11_text_176 hl (k := 0) rfl (by decide) (by decide) rfl (fun ls hl => ?_)
  refine lv_goto (tgt := 150) hx hb dX11_text_179 (by decide) ?_
  refine lv_iload_n hx hb dX11_text_150 rfl (lv_at hl 0 rfl) ?_
  refine lv_bipush (v := 8) hx hb dX11_text_151 (by decide) ?_
  refine lv_icmp_ge (tgt := 182) hx hb dX11_text_153 (by decide) (fun c153 => absurd c153 (by decide)) (fun c153 => ?_)
  refine lv_aload_n hx hb dX11_text_156 rfl (lv_at hl 3 rfl) ?_
  refine va_get (D := D) (ci := 11) (v := .ref se) (C := RX11) (T := TX11) (N := 47) hx hb hts (by decide +kernel) hown hK.1 hP 2 rfl rfl 2 (by decide) (hts (.fieldLink RX11 14 "JugglingHallModel" "seenRows" "[I") (by decide +kernel)) (fun _ h9 => h9) rfl dX11_text_157 ?_
  refine lv_bipush (v := 8) hx hb dX11_text_160 (by decide) ?_
  refine lv_aload_n hx hb dX11_text_162 rfl (lv_at hl 3 rfl) ?_
  refine va_get (D := D) (ci := 11) (v := .int 1) (C := RX11) (T := TX11) (N := 47) hx hb hts (by decide +kernel) hown hK.1 hP 2 rfl rfl 3 (by decide) (hts (.fieldLink RX11 185 "JugglingHallModel" "time" "I") (by decide +kernel)) (fun _ h9 => h9) rfl dX11_text_163 ?_
  refine lv_imul hx hb dX11_text_166 ?_
  refine lv_eqi (y := 8) (by decide) ?_
  refine lv_iload_n hx hb dX11_text_167 rfl (lv_at hl 0 rfl) ?_
  refine lv_iadd hx hb dX11_text_168 ?_
  refine lv_eqi (y := 14) (by decide) ?_
  refine lv_aload_n hx hb dX11_text_169 rfl (lv_at hl 3 rfl) ?_
  refine va_get (D := D) (ci := 11) (v := .ref fk) (C := RX11) (T := TX11) (N := 47) hx hb hts (by decide +kernel) hown hK.1 hP 2 rfl rfl 24 (by decide) (hts (.fieldLink RX11 48 "JugglingHallModel" "freshMarks" "[I") (by decide +kernel)) (fun _ h9 => h9) rfl dX11_text_170 ?_
  refine lv_iload_n hx hb dX11_text_173 rfl (lv_at hl 0 rfl) ?_
  refine ald_n (k := 6) hx hb hK.1 hP 4 0 rfl rfl (by decide) (by decide) dX11_text_174 ?_
  refine lv_eqi (y := 0) (rfl) ?_
  refine ast_n (k := 14) hx hb hK.1 hP hD hS 1 0 rfl rfl (by decide) (by decide) dX11_text_175 (fun H locs hP hD hS => ?_)
  have hP : va_P D vwCl [(rw1, .inl (cI, 73200, .inl fq8)), (se, .inl (cI, 488, .inl (upd fq14 14 0))), (mm, .inr (11, [m0, .ref rw1, .ref se, .int 1, .int 1, m5, .int 0, .int 0, .int (-1), .int 0, .int 0, .int 0, m12, m13, m14, m15, m16, m17, m18, m19, m20, m21, .ref fm, m23, .ref fk, m25, m26, m27, m28, m29, m30, m31, m32, m33, m34, m35, m36, m37, m38, m39, m40, m41, m42, m43, m44, m45, m46])), (fm, .inl (cI, 8, .inl (upd (upd (upd (upd (upd (upd (upd (upd (fun _ => 0) 0 0) 1 0) 2 0) 3 0) 4 0) 5 0) 6 0) 7 0))), (fk, .inl (cI, 8, .inl (upd (fun _ => 0) 0 0)))] H := hP
  have hD : va_D A [(rw1, .inl (cI, 73200, .inl fq8)), (se, .inl (cI, 488, .inl (upd fq14 14 0))), (mm, .inr (11, [m0, .ref rw1, .ref se, .int 1, .int 1, m5, .int 0, .int 0, .int (-1), .int 0, .int 0, .int 0, m12, m13, m14, m15, m16, m17, m18, m19, m20, m21, .ref fm, m23, .ref fk, m25, m26, m27, m28, m29, m30, m31, m32, m33, m34, m35, m36, m37, m38, m39, m40, m41, m42, m43, m44, m45, m46])), (fm, .inl (cI, 8, .inl (upd (upd (upd (upd (upd (upd (upd (upd (fun _ => 0) 0 0) 1 0) 2 0) 3 0) 4 0) 5 0) 6 0) 7 0))), (fk, .inl (cI, 8, .inl (upd (fun _ => 0) 0 0)))] := hD
  generalize (upd fq14 14 0) = fq15 at hP hD
  refine lv_iinc (v := 7) (lv' := [(1, .int 7), (3, .int 0), (2, .int 2250), (0, .ref mm)]) hx hb dX11_text_176 hl (k := 0) rfl (by decide) (by decide) rfl (fun ls hl => ?_)
  refine lv_goto (tgt := 150) hx hb dX11_text_179 (by decide) ?_
  refine lv_iload_n hx hb dX11_text_150 rfl (lv_at hl 0 rfl) ?_
  refine lv_bipush (v := 8) hx hb dX11_text_151 (by decide) ?_
  refine lv_icmp_ge (tgt := 182) hx hb dX11_text_153 (by decide) (fun c153 => absurd c153 (by decide)) (fun c153 => ?_)
  refine lv_aload_n hx hb dX11_text_156 rfl (lv_at hl 3 rfl) ?_
  refine va_get (D := D) (ci := 11) (v := .ref se) (C := RX11) (T := TX11) (N := 47) hx hb hts (by decide +kernel) hown hK.1 hP 2 rfl rfl 2 (by decide) (hts (.fieldLink RX11 14 "JugglingHallModel" "seenRows" "[I") (by decide +kernel)) (fun _ h9 => h9) rfl dX11_text_157 ?_
  refine lv_bipush (v := 8) hx hb dX11_text_160 (by decide) ?_
  refine lv_aload_n hx hb dX11_text_162 rfl (lv_at hl 3 rfl) ?_
  refine va_get (D := D) (ci := 11) (v := .int 1) (C := RX11) (T := TX11) (N := 47) hx hb hts (by decide +kernel) hown hK.1 hP 2 rfl rfl 3 (by decide) (hts (.fieldLink RX11 185 "JugglingHallModel" "time" "I") (by decide +kernel)) (fun _ h9 => h9) rfl dX11_text_163 ?_
  refine lv_imul hx hb dX11_text_166 ?_
  refine lv_eqi (y := 8) (by decide) ?_
  refine lv_iload_n hx hb dX11_text_167 rfl (lv_at hl 0 rfl) ?_
  refine lv_iadd hx hb dX11_text_168 ?_
  refine lv_eqi (y := 15) (by decide) ?_
  refine lv_aload_n hx hb dX11_text_169 rfl (lv_at hl 3 rfl) ?_
  refine va_get (D := D) (ci := 11) (v := .ref fk) (C := RX11) (T := TX11) (N := 47) hx hb hts (by decide +kernel) hown hK.1 hP 2 rfl rfl 24 (by decide) (hts (.fieldLink RX11 48 "JugglingHallModel" "freshMarks" "[I") (by decide +kernel)) (fun _ h9 => h9) rfl dX11_text_170 ?_
  refine lv_iload_n hx hb dX11_text_173 rfl (lv_at hl 0 rfl) ?_
  refine ald_n (k := 7) hx hb hK.1 hP 4 0 rfl rfl (by decide) (by decide) dX11_text_174 ?_
  refine lv_eqi (y := 0) (rfl) ?_
  refine ast_n (k := 15) hx hb hK.1 hP hD hS 1 0 rfl rfl (by decide) (by decide) dX11_text_175 (fun H locs hP hD hS => ?_)
  have hP : va_P D vwCl [(rw1, .inl (cI, 73200, .inl fq8)), (se, .inl (cI, 488, .inl (upd fq15 15 0))), (mm, .inr (11, [m0, .ref rw1, .ref se, .int 1, .int 1, m5, .int 0, .int 0, .int (-1), .int 0, .int 0, .int 0, m12, m13, m14, m15, m16, m17, m18, m19, m20, m21, .ref fm, m23, .ref fk, m25, m26, m27, m28, m29, m30, m31, m32, m33, m34, m35, m36, m37, m38, m39, m40, m41, m42, m43, m44, m45, m46])), (fm, .inl (cI, 8, .inl (upd (upd (upd (upd (upd (upd (upd (upd (fun _ => 0) 0 0) 1 0) 2 0) 3 0) 4 0) 5 0) 6 0) 7 0))), (fk, .inl (cI, 8, .inl (upd (fun _ => 0) 0 0)))] H := hP
  have hD : va_D A [(rw1, .inl (cI, 73200, .inl fq8)), (se, .inl (cI, 488, .inl (upd fq15 15 0))), (mm, .inr (11, [m0, .ref rw1, .ref se, .int 1, .int 1, m5, .int 0, .int 0, .int (-1), .int 0, .int 0, .int 0, m12, m13, m14, m15, m16, m17, m18, m19, m20, m21, .ref fm, m23, .ref fk, m25, m26, m27, m28, m29, m30, m31, m32, m33, m34, m35, m36, m37, m38, m39, m40, m41, m42, m43, m44, m45, m46])), (fm, .inl (cI, 8, .inl (upd (upd (upd (upd (upd (upd (upd (upd (fun _ => 0) 0 0) 1 0) 2 0) 3 0) 4 0) 5 0) 6 0) 7 0))), (fk, .inl (cI, 8, .inl (upd (fun _ => 0) 0 0)))] := hD
  generalize (upd fq15 15 0) = fq16 at hP hD
  refine lv_iinc (v := 8) (lv' := [(1, .int 8), (3, .int 0), (2, .int 2250), (0, .ref mm)]) hx hb dX11_text_176 hl (k := 0) rfl (by decide) (by decide) rfl (fun ls hl => ?_)
  refine lv_goto (tgt := 150) hx hb dX11_text_179 (by decide) ?_
  refine lv_iload_n hx hb dX11_text_150 rfl (lv_at hl 0 rfl) ?_
  refine lv_bipush (v := 8) hx hb dX11_text_151 (by decide) ?_
  refine lv_icmp_ge (tgt := 182) hx hb dX11_text_153 (by decide) (fun c153 => ?_) (fun c153 => absurd (by decide) c153)
  refine lv_aload_n hx hb dX11_text_182 rfl (lv_at hl 3 rfl) ?_
  refine va_get (D := D) (ci := 11) (v := .int 1) (C := RX11) (T := TX11) (N := 47) hx hb hts (by decide +kernel) hown hK.1 hP 2 rfl rfl 3 (by decide) (hts (.fieldLink RX11 185 "JugglingHallModel" "time" "I") (by decide +kernel)) (fun _ h9 => h9) rfl dX11_text_183 ?_
  exact g_iret (()) hx hb hr hlocks hS rfl (trivial) va_P_nil va_D_nil hQ (Nat.le_of_ble_eq_true rfl) (Nat.le_of_ble_eq_true rfl) dX11_text_186
