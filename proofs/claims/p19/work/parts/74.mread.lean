theorem dX11_isGood_0 : decode cX11_isGood 0 = .ok (.iload_n 1, 1) := by decide +kernel
theorem dX11_isGood_1 : decode cX11_isGood 1 = .ok (.ifCond .ge 5, 3) := by decide +kernel
theorem dX11_isGood_4 : decode cX11_isGood 4 = .ok (.iconst 0, 1) := by decide +kernel
theorem dX11_isGood_5 : decode cX11_isGood 5 = .ok (.ireturn, 1) := by decide +kernel
theorem dX11_isGood_6 : decode cX11_isGood 6 = .ok (.aload_n 0, 1) := by decide +kernel
theorem dX11_isGood_7 : decode cX11_isGood 7 = .ok (.iload_n 1, 1) := by decide +kernel
theorem dX11_isGood_8 : decode cX11_isGood 8 = .ok (.invokevirtual 252, 3) := by decide +kernel
theorem dX11_isGood_11 : decode cX11_isGood 11 = .ok (.aload_n 0, 1) := by decide +kernel
theorem dX11_isGood_12 : decode cX11_isGood 12 = .ok (.getfield 249, 3) := by decide +kernel
theorem dX11_isGood_15 : decode cX11_isGood 15 = .ok (.ifCond .ge 7, 3) := by decide +kernel
theorem dX11_isGood_18 : decode cX11_isGood 18 = .ok (.iconst 1, 1) := by decide +kernel
theorem dX11_isGood_19 : decode cX11_isGood 19 = .ok (.goto 4, 3) := by decide +kernel
theorem dX11_isGood_22 : decode cX11_isGood 22 = .ok (.iconst 0, 1) := by decide +kernel
theorem dX11_isGood_23 : decode cX11_isGood 23 = .ok (.ireturn, 1) := by decide +kernel
theorem dX11_good_0 : decode cX11_good 0 = .ok (.aload_n 0, 1) := by decide +kernel
theorem dX11_good_1 : decode cX11_good 1 = .ok (.iload_n 1, 1) := by decide +kernel
theorem dX11_good_2 : decode cX11_good 2 = .ok (.invokevirtual 233, 3) := by decide +kernel
theorem dX11_good_5 : decode cX11_good 5 = .ok (.istore_n 3, 1) := by decide +kernel
theorem dX11_good_6 : decode cX11_good 6 = .ok (.iload_n 3, 1) := by decide +kernel
theorem dX11_good_7 : decode cX11_good 7 = .ok (.ifCond .ge 5, 3) := by decide +kernel
theorem dX11_good_10 : decode cX11_good 10 = .ok (.iconst (-1), 1) := by decide +kernel
theorem dX11_good_11 : decode cX11_good 11 = .ok (.ireturn, 1) := by decide +kernel
theorem dX11_good_12 : decode cX11_good 12 = .ok (.aload_n 0, 1) := by decide +kernel
theorem dX11_good_13 : decode cX11_good 13 = .ok (.iload_n 3, 1) := by decide +kernel
theorem dX11_good_14 : decode cX11_good 14 = .ok (.invokevirtual 252, 3) := by decide +kernel
theorem dX11_good_17 : decode cX11_good 17 = .ok (.iload_n 2, 1) := by decide +kernel
theorem dX11_good_18 : decode cX11_good 18 = .ok (.tableswitch 120 0 4 #[34, 47, 65, 83, 106], 34) := by decide +kernel
theorem dX11_good_52 : decode cX11_good 52 = .ok (.aload_n 0, 1) := by decide +kernel
theorem dX11_good_53 : decode cX11_good 53 = .ok (.getfield 249, 3) := by decide +kernel
theorem dX11_good_56 : decode cX11_good 56 = .ok (.ifCond .ge 7, 3) := by decide +kernel
theorem dX11_good_59 : decode cX11_good 59 = .ok (.iconst 1, 1) := by decide +kernel
theorem dX11_good_60 : decode cX11_good 60 = .ok (.goto 4, 3) := by decide +kernel
theorem dX11_good_63 : decode cX11_good 63 = .ok (.iconst 0, 1) := by decide +kernel
theorem dX11_good_64 : decode cX11_good 64 = .ok (.ireturn, 1) := by decide +kernel
theorem dX11_good_65 : decode cX11_good 65 = .ok (.aload_n 0, 1) := by decide +kernel
theorem dX11_good_66 : decode cX11_good 66 = .ok (.getfield 249, 3) := by decide +kernel
theorem dX11_good_69 : decode cX11_good 69 = .ok (.ifCond .ge 7, 3) := by decide +kernel
theorem dX11_good_72 : decode cX11_good 72 = .ok (.iconst (-1), 1) := by decide +kernel
theorem dX11_good_73 : decode cX11_good 73 = .ok (.goto 9, 3) := by decide +kernel
theorem dX11_good_76 : decode cX11_good 76 = .ok (.aload_n 0, 1) := by decide +kernel
theorem dX11_good_77 : decode cX11_good 77 = .ok (.getfield 249, 3) := by decide +kernel
theorem dX11_good_80 : decode cX11_good 80 = .ok (.iconst 3, 1) := by decide +kernel
theorem dX11_good_81 : decode cX11_good 81 = .ok (.idiv, 1) := by decide +kernel
theorem dX11_good_82 : decode cX11_good 82 = .ok (.ireturn, 1) := by decide +kernel
theorem dX11_good_83 : decode cX11_good 83 = .ok (.aload_n 0, 1) := by decide +kernel
theorem dX11_good_84 : decode cX11_good 84 = .ok (.getfield 249, 3) := by decide +kernel
theorem dX11_good_87 : decode cX11_good 87 = .ok (.ifCond .ge 7, 3) := by decide +kernel
theorem dX11_good_90 : decode cX11_good 90 = .ok (.iconst (-1), 1) := by decide +kernel
theorem dX11_good_91 : decode cX11_good 91 = .ok (.goto 9, 3) := by decide +kernel
theorem dX11_good_94 : decode cX11_good 94 = .ok (.aload_n 0, 1) := by decide +kernel
theorem dX11_good_95 : decode cX11_good 95 = .ok (.getfield 249, 3) := by decide +kernel
theorem dX11_good_98 : decode cX11_good 98 = .ok (.iconst 3, 1) := by decide +kernel
theorem dX11_good_99 : decode cX11_good 99 = .ok (.irem, 1) := by decide +kernel
theorem dX11_good_100 : decode cX11_good 100 = .ok (.ireturn, 1) := by decide +kernel
theorem dX11_good_101 : decode cX11_good 101 = .ok (.aload_n 0, 1) := by decide +kernel
theorem dX11_good_102 : decode cX11_good 102 = .ok (.getfield 249, 3) := by decide +kernel
theorem dX11_good_105 : decode cX11_good 105 = .ok (.ifCond .ge 17, 3) := by decide +kernel
theorem dX11_good_108 : decode cX11_good 108 = .ok (.aload_n 0, 1) := by decide +kernel
theorem dX11_good_109 : decode cX11_good 109 = .ok (.getfield 246, 3) := by decide +kernel
theorem dX11_good_112 : decode cX11_good 112 = .ok (.aload_n 0, 1) := by decide +kernel
theorem dX11_good_113 : decode cX11_good 113 = .ok (.getfield 8, 3) := by decide +kernel
theorem dX11_good_116 : decode cX11_good 116 = .ok (.iload_n 3, 1) := by decide +kernel
theorem dX11_good_117 : decode cX11_good 117 = .ok (.iaload, 1) := by decide +kernel
theorem dX11_good_118 : decode cX11_good 118 = .ok (.idiv, 1) := by decide +kernel
theorem dX11_good_119 : decode cX11_good 119 = .ok (.goto 4, 3) := by decide +kernel
theorem dX11_good_122 : decode cX11_good 122 = .ok (.iconst (-1), 1) := by decide +kernel
theorem dX11_good_123 : decode cX11_good 123 = .ok (.ireturn, 1) := by decide +kernel
theorem dX11_good_124 : decode cX11_good 124 = .ok (.aload_n 0, 1) := by decide +kernel
theorem dX11_good_125 : decode cX11_good 125 = .ok (.iload_n 3, 1) := by decide +kernel
theorem dX11_good_126 : decode cX11_good 126 = .ok (.invokevirtual 255, 3) := by decide +kernel
theorem dX11_good_129 : decode cX11_good 129 = .ok (.ifCond .eq 7, 3) := by decide +kernel
theorem dX11_good_132 : decode cX11_good 132 = .ok (.iconst 1, 1) := by decide +kernel
theorem dX11_good_133 : decode cX11_good 133 = .ok (.goto 4, 3) := by decide +kernel
theorem dX11_good_136 : decode cX11_good 136 = .ok (.iconst 0, 1) := by decide +kernel
theorem dX11_good_137 : decode cX11_good 137 = .ok (.ireturn, 1) := by decide +kernel
theorem dX11_good_138 : decode cX11_good 138 = .ok (.iconst (-1), 1) := by decide +kernel
theorem dX11_good_139 : decode cX11_good 139 = .ok (.ireturn, 1) := by decide +kernel
theorem dX11_stateOf_0 : decode cX11_stateOf 0 = .ok (.iconst 0, 1) := by decide +kernel
theorem dX11_stateOf_1 : decode cX11_stateOf 1 = .ok (.istore_n 3, 1) := by decide +kernel
theorem dX11_stateOf_2 : decode cX11_stateOf 2 = .ok (.iconst 0, 1) := by decide +kernel
theorem dX11_stateOf_3 : decode cX11_stateOf 3 = .ok (.istore 4, 2) := by decide +kernel
theorem dX11_stateOf_5 : decode cX11_stateOf 5 = .ok (.iload 4, 2) := by decide +kernel
theorem dX11_stateOf_7 : decode cX11_stateOf 7 = .ok (.bipush 9, 2) := by decide +kernel
theorem dX11_stateOf_9 : decode cX11_stateOf 9 = .ok (.if_icmp .ge 63, 3) := by decide +kernel
theorem dX11_stateOf_12 : decode cX11_stateOf 12 = .ok (.iload 4, 2) := by decide +kernel
theorem dX11_stateOf_14 : decode cX11_stateOf 14 = .ok (.iconst 1, 1) := by decide +kernel
theorem dX11_stateOf_15 : decode cX11_stateOf 15 = .ok (.iadd, 1) := by decide +kernel
theorem dX11_stateOf_16 : decode cX11_stateOf 16 = .ok (.istore 5, 2) := by decide +kernel
theorem dX11_stateOf_18 : decode cX11_stateOf 18 = .ok (.iload 5, 2) := by decide +kernel
theorem dX11_stateOf_20 : decode cX11_stateOf 20 = .ok (.bipush 10, 2) := by decide +kernel
theorem dX11_stateOf_22 : decode cX11_stateOf 22 = .ok (.if_icmp .ge 44, 3) := by decide +kernel
theorem dX11_stateOf_25 : decode cX11_stateOf 25 = .ok (.aload_n 0, 1) := by decide +kernel
theorem dX11_stateOf_26 : decode cX11_stateOf 26 = .ok (.iload_n 1, 1) := by decide +kernel
theorem dX11_stateOf_27 : decode cX11_stateOf 27 = .ok (.iload_n 2, 1) := by decide +kernel
theorem dX11_stateOf_28 : decode cX11_stateOf 28 = .ok (.iload 5, 2) := by decide +kernel
theorem dX11_stateOf_30 : decode cX11_stateOf 30 = .ok (.iload 4, 2) := by decide +kernel
theorem dX11_stateOf_32 : decode cX11_stateOf 32 = .ok (.isub, 1) := by decide +kernel
theorem dX11_stateOf_33 : decode cX11_stateOf 33 = .ok (.isub, 1) := by decide +kernel
theorem dX11_stateOf_34 : decode cX11_stateOf 34 = .ok (.aload_n 0, 1) := by decide +kernel
theorem dX11_stateOf_35 : decode cX11_stateOf 35 = .ok (.getfield 8, 3) := by decide +kernel
theorem dX11_stateOf_38 : decode cX11_stateOf 38 = .ok (.iload_n 1, 1) := by decide +kernel
theorem dX11_stateOf_39 : decode cX11_stateOf 39 = .ok (.iaload, 1) := by decide +kernel
theorem dX11_stateOf_40 : decode cX11_stateOf 40 = .ok (.invokestatic 188, 3) := by decide +kernel
theorem dX11_stateOf_43 : decode cX11_stateOf 43 = .ok (.iconst 0, 1) := by decide +kernel
theorem dX11_stateOf_44 : decode cX11_stateOf 44 = .ok (.iconst 0, 1) := by decide +kernel
theorem dX11_stateOf_45 : decode cX11_stateOf 45 = .ok (.invokevirtual 239, 3) := by decide +kernel
theorem dX11_stateOf_48 : decode cX11_stateOf 48 = .ok (.iload 5, 2) := by decide +kernel
theorem dX11_stateOf_50 : decode cX11_stateOf 50 = .ok (.if_icmp .ne 10, 3) := by decide +kernel
theorem dX11_stateOf_53 : decode cX11_stateOf 53 = .ok (.iload_n 3, 1) := by decide +kernel
theorem dX11_stateOf_54 : decode cX11_stateOf 54 = .ok (.iconst 1, 1) := by decide +kernel
theorem dX11_stateOf_55 : decode cX11_stateOf 55 = .ok (.iload 4, 2) := by decide +kernel
theorem dX11_stateOf_57 : decode cX11_stateOf 57 = .ok (.ishl, 1) := by decide +kernel
theorem dX11_stateOf_58 : decode cX11_stateOf 58 = .ok (.ior, 1) := by decide +kernel
theorem dX11_stateOf_59 : decode cX11_stateOf 59 = .ok (.istore_n 3, 1) := by decide +kernel
theorem dX11_stateOf_60 : decode cX11_stateOf 60 = .ok (.iinc 5 1, 3) := by decide +kernel
theorem dX11_stateOf_63 : decode cX11_stateOf 63 = .ok (.goto (-45), 3) := by decide +kernel
theorem dX11_stateOf_66 : decode cX11_stateOf 66 = .ok (.iinc 4 1, 3) := by decide +kernel
theorem dX11_stateOf_69 : decode cX11_stateOf 69 = .ok (.goto (-64), 3) := by decide +kernel
theorem dX11_stateOf_72 : decode cX11_stateOf 72 = .ok (.iload_n 3, 1) := by decide +kernel
theorem dX11_stateOf_73 : decode cX11_stateOf 73 = .ok (.ireturn, 1) := by decide +kernel
theorem dX11_isPlainGood_0 : decode cX11_isPlainGood 0 = .ok (.aload_n 0, 1) := by decide +kernel
theorem dX11_isPlainGood_1 : decode cX11_isPlainGood 1 = .ok (.iload_n 1, 1) := by decide +kernel
theorem dX11_isPlainGood_2 : decode cX11_isPlainGood 2 = .ok (.invokevirtual 271, 3) := by decide +kernel
theorem dX11_isPlainGood_5 : decode cX11_isPlainGood 5 = .ok (.ifCond .eq 15, 3) := by decide +kernel
theorem dX11_isPlainGood_8 : decode cX11_isPlainGood 8 = .ok (.aload_n 0, 1) := by decide +kernel
theorem dX11_isPlainGood_9 : decode cX11_isPlainGood 9 = .ok (.iload_n 1, 1) := by decide +kernel
theorem dX11_isPlainGood_10 : decode cX11_isPlainGood 10 = .ok (.invokevirtual 255, 3) := by decide +kernel
theorem dX11_isPlainGood_13 : decode cX11_isPlainGood 13 = .ok (.ifCond .eq 7, 3) := by decide +kernel
theorem dX11_isPlainGood_16 : decode cX11_isPlainGood 16 = .ok (.iconst 1, 1) := by decide +kernel
theorem dX11_isPlainGood_17 : decode cX11_isPlainGood 17 = .ok (.goto 4, 3) := by decide +kernel
theorem dX11_isPlainGood_20 : decode cX11_isPlainGood 20 = .ok (.iconst 0, 1) := by decide +kernel
theorem dX11_isPlainGood_21 : decode cX11_isPlainGood 21 = .ok (.ireturn, 1) := by decide +kernel
theorem dX11_state_0 : decode cX11_state 0 = .ok (.aload_n 0, 1) := by decide +kernel
theorem dX11_state_1 : decode cX11_state 1 = .ok (.iload_n 1, 1) := by decide +kernel
theorem dX11_state_2 : decode cX11_state 2 = .ok (.invokevirtual 233, 3) := by decide +kernel
theorem dX11_state_5 : decode cX11_state 5 = .ok (.istore_n 3, 1) := by decide +kernel
theorem dX11_state_6 : decode cX11_state 6 = .ok (.aload_n 0, 1) := by decide +kernel
theorem dX11_state_7 : decode cX11_state 7 = .ok (.iload_n 3, 1) := by decide +kernel
theorem dX11_state_8 : decode cX11_state 8 = .ok (.invokevirtual 286, 3) := by decide +kernel
theorem dX11_state_11 : decode cX11_state 11 = .ok (.ifCond .eq 19, 3) := by decide +kernel
theorem dX11_state_14 : decode cX11_state 14 = .ok (.iload_n 2, 1) := by decide +kernel
theorem dX11_state_15 : decode cX11_state 15 = .ok (.iconst 0, 1) := by decide +kernel
theorem dX11_state_16 : decode cX11_state 16 = .ok (.aload_n 0, 1) := by decide +kernel
theorem dX11_state_17 : decode cX11_state 17 = .ok (.getfield 8, 3) := by decide +kernel
theorem dX11_state_20 : decode cX11_state 20 = .ok (.iload_n 3, 1) := by decide +kernel
theorem dX11_state_21 : decode cX11_state 21 = .ok (.iaload, 1) := by decide +kernel
theorem dX11_state_22 : decode cX11_state 22 = .ok (.iconst 1, 1) := by decide +kernel
theorem dX11_state_23 : decode cX11_state 23 = .ok (.isub, 1) := by decide +kernel
theorem dX11_state_24 : decode cX11_state 24 = .ok (.invokestatic 100, 3) := by decide +kernel
theorem dX11_state_27 : decode cX11_state 27 = .ok (.ifCond .ne 5, 3) := by decide +kernel
theorem dX11_state_30 : decode cX11_state 30 = .ok (.iconst (-1), 1) := by decide +kernel
theorem dX11_state_31 : decode cX11_state 31 = .ok (.ireturn, 1) := by decide +kernel
theorem dX11_state_32 : decode cX11_state 32 = .ok (.aload_n 0, 1) := by decide +kernel
theorem dX11_state_33 : decode cX11_state 33 = .ok (.iload_n 3, 1) := by decide +kernel
theorem dX11_state_34 : decode cX11_state 34 = .ok (.iload_n 2, 1) := by decide +kernel
theorem dX11_state_35 : decode cX11_state 35 = .ok (.invokevirtual 289, 3) := by decide +kernel
theorem dX11_state_38 : decode cX11_state 38 = .ok (.ireturn, 1) := by decide +kernel
theorem dX11_note_0 : decode cX11_note 0 = .ok (.aload_n 0, 1) := by decide +kernel
theorem dX11_note_1 : decode cX11_note 1 = .ok (.getfield 81, 3) := by decide +kernel
theorem dX11_note_4 : decode cX11_note 4 = .ok (.aload_n 0, 1) := by decide +kernel
theorem dX11_note_5 : decode cX11_note 5 = .ok (.getfield 310, 3) := by decide +kernel
theorem dX11_note_8 : decode cX11_note 8 = .ok (.iload_n 1, 1) := by decide +kernel
theorem dX11_note_9 : decode cX11_note 9 = .ok (.iastore, 1) := by decide +kernel
theorem dX11_note_10 : decode cX11_note 10 = .ok (.aload_n 0, 1) := by decide +kernel
theorem dX11_note_11 : decode cX11_note 11 = .ok (.getfield 84, 3) := by decide +kernel
theorem dX11_note_14 : decode cX11_note 14 = .ok (.aload_n 0, 1) := by decide +kernel
theorem dX11_note_15 : decode cX11_note 15 = .ok (.getfield 310, 3) := by decide +kernel
theorem dX11_note_18 : decode cX11_note 18 = .ok (.iload_n 2, 1) := by decide +kernel
theorem dX11_note_19 : decode cX11_note 19 = .ok (.iastore, 1) := by decide +kernel
theorem dX11_note_20 : decode cX11_note 20 = .ok (.aload_n 0, 1) := by decide +kernel
theorem dX11_note_21 : decode cX11_note 21 = .ok (.dup, 1) := by decide +kernel
theorem dX11_note_22 : decode cX11_note 22 = .ok (.getfield 310, 3) := by decide +kernel
theorem dX11_note_25 : decode cX11_note 25 = .ok (.iconst 1, 1) := by decide +kernel
theorem dX11_note_26 : decode cX11_note 26 = .ok (.iadd, 1) := by decide +kernel
theorem dX11_note_27 : decode cX11_note 27 = .ok (.putfield 310, 3) := by decide +kernel
theorem dX11_note_30 : decode cX11_note 30 = .ok (.return_, 1) := by decide +kernel
theorem dX11_turned_0 : decode cX11_turned 0 = .ok (.aload_n 0, 1) := by decide +kernel
theorem dX11_turned_1 : decode cX11_turned 1 = .ok (.iload_n 1, 1) := by decide +kernel
theorem dX11_turned_2 : decode cX11_turned 2 = .ok (.invokevirtual 233, 3) := by decide +kernel
theorem dX11_turned_5 : decode cX11_turned 5 = .ok (.istore_n 3, 1) := by decide +kernel
theorem dX11_turned_6 : decode cX11_turned 6 = .ok (.aload_n 0, 1) := by decide +kernel
theorem dX11_turned_7 : decode cX11_turned 7 = .ok (.iload_n 2, 1) := by decide +kernel
theorem dX11_turned_8 : decode cX11_turned 8 = .ok (.invokevirtual 233, 3) := by decide +kernel
theorem dX11_turned_11 : decode cX11_turned 11 = .ok (.istore 4, 2) := by decide +kernel
theorem dX11_turned_13 : decode cX11_turned 13 = .ok (.iload_n 3, 1) := by decide +kernel
theorem dX11_turned_14 : decode cX11_turned 14 = .ok (.ifCond .lt 24, 3) := by decide +kernel
theorem dX11_turned_17 : decode cX11_turned 17 = .ok (.iload 4, 2) := by decide +kernel
theorem dX11_turned_19 : decode cX11_turned 19 = .ok (.ifCond .lt 19, 3) := by decide +kernel
theorem dX11_turned_22 : decode cX11_turned 22 = .ok (.aload_n 0, 1) := by decide +kernel
theorem dX11_turned_23 : decode cX11_turned 23 = .ok (.getfield 8, 3) := by decide +kernel
theorem dX11_turned_26 : decode cX11_turned 26 = .ok (.iload_n 3, 1) := by decide +kernel
theorem dX11_turned_27 : decode cX11_turned 27 = .ok (.iaload, 1) := by decide +kernel
theorem dX11_turned_28 : decode cX11_turned 28 = .ok (.aload_n 0, 1) := by decide +kernel
theorem dX11_turned_29 : decode cX11_turned 29 = .ok (.getfield 8, 3) := by decide +kernel
theorem dX11_turned_32 : decode cX11_turned 32 = .ok (.iload 4, 2) := by decide +kernel
theorem dX11_turned_34 : decode cX11_turned 34 = .ok (.iaload, 1) := by decide +kernel
theorem dX11_turned_35 : decode cX11_turned 35 = .ok (.if_icmp .eq 5, 3) := by decide +kernel
theorem dX11_turned_38 : decode cX11_turned 38 = .ok (.iconst (-1), 1) := by decide +kernel
theorem dX11_turned_39 : decode cX11_turned 39 = .ok (.ireturn, 1) := by decide +kernel
theorem dX11_turned_40 : decode cX11_turned 40 = .ok (.iconst 0, 1) := by decide +kernel
theorem dX11_turned_41 : decode cX11_turned 41 = .ok (.istore 5, 2) := by decide +kernel
theorem dX11_turned_43 : decode cX11_turned 43 = .ok (.iload 5, 2) := by decide +kernel
theorem dX11_turned_45 : decode cX11_turned 45 = .ok (.aload_n 0, 1) := by decide +kernel
theorem dX11_turned_46 : decode cX11_turned 46 = .ok (.getfield 8, 3) := by decide +kernel
theorem dX11_turned_49 : decode cX11_turned 49 = .ok (.iload_n 3, 1) := by decide +kernel
theorem dX11_turned_50 : decode cX11_turned 50 = .ok (.iaload, 1) := by decide +kernel
theorem dX11_turned_51 : decode cX11_turned 51 = .ok (.if_icmp .ge 122, 3) := by decide +kernel
theorem dX11_turned_54 : decode cX11_turned 54 = .ok (.iconst 1, 1) := by decide +kernel
theorem dX11_turned_55 : decode cX11_turned 55 = .ok (.istore 6, 2) := by decide +kernel
theorem dX11_turned_57 : decode cX11_turned 57 = .ok (.iconst 0, 1) := by decide +kernel
theorem dX11_turned_58 : decode cX11_turned 58 = .ok (.istore 7, 2) := by decide +kernel
theorem dX11_turned_60 : decode cX11_turned 60 = .ok (.iload 7, 2) := by decide +kernel
theorem dX11_turned_62 : decode cX11_turned 62 = .ok (.aload_n 0, 1) := by decide +kernel
theorem dX11_turned_63 : decode cX11_turned 63 = .ok (.getfield 8, 3) := by decide +kernel
theorem dX11_turned_66 : decode cX11_turned 66 = .ok (.iload_n 3, 1) := by decide +kernel
theorem dX11_turned_67 : decode cX11_turned 67 = .ok (.iaload, 1) := by decide +kernel
theorem dX11_turned_68 : decode cX11_turned 68 = .ok (.if_icmp .ge 91, 3) := by decide +kernel
theorem dX11_turned_71 : decode cX11_turned 71 = .ok (.iload 6, 2) := by decide +kernel
theorem dX11_turned_73 : decode cX11_turned 73 = .ok (.ifCond .eq 86, 3) := by decide +kernel
theorem dX11_turned_76 : decode cX11_turned 76 = .ok (.iconst 0, 1) := by decide +kernel
theorem dX11_turned_77 : decode cX11_turned 77 = .ok (.istore 8, 2) := by decide +kernel
theorem dX11_turned_79 : decode cX11_turned 79 = .ok (.iload 8, 2) := by decide +kernel
theorem dX11_turned_81 : decode cX11_turned 81 = .ok (.bipush 6, 2) := by decide +kernel
theorem dX11_turned_83 : decode cX11_turned 83 = .ok (.if_icmp .ge 70, 3) := by decide +kernel
theorem dX11_turned_86 : decode cX11_turned 86 = .ok (.iload 6, 2) := by decide +kernel
theorem dX11_turned_88 : decode cX11_turned 88 = .ok (.ifCond .eq 56, 3) := by decide +kernel
theorem dX11_turned_91 : decode cX11_turned 91 = .ok (.aload_n 0, 1) := by decide +kernel
theorem dX11_turned_92 : decode cX11_turned 92 = .ok (.getfield 8, 3) := by decide +kernel
theorem dX11_turned_95 : decode cX11_turned 95 = .ok (.iload_n 3, 1) := by decide +kernel
theorem dX11_turned_96 : decode cX11_turned 96 = .ok (.iconst 1, 1) := by decide +kernel
theorem dX11_turned_97 : decode cX11_turned 97 = .ok (.iadd, 1) := by decide +kernel
theorem dX11_turned_98 : decode cX11_turned 98 = .ok (.bipush 6, 2) := by decide +kernel
theorem dX11_turned_100 : decode cX11_turned 100 = .ok (.iload 7, 2) := by decide +kernel
theorem dX11_turned_102 : decode cX11_turned 102 = .ok (.imul, 1) := by decide +kernel
theorem dX11_turned_103 : decode cX11_turned 103 = .ok (.iadd, 1) := by decide +kernel
theorem dX11_turned_104 : decode cX11_turned 104 = .ok (.iload 8, 2) := by decide +kernel
theorem dX11_turned_106 : decode cX11_turned 106 = .ok (.iadd, 1) := by decide +kernel
theorem dX11_turned_107 : decode cX11_turned 107 = .ok (.iaload, 1) := by decide +kernel
theorem dX11_turned_108 : decode cX11_turned 108 = .ok (.aload_n 0, 1) := by decide +kernel
theorem dX11_turned_109 : decode cX11_turned 109 = .ok (.getfield 8, 3) := by decide +kernel
theorem dX11_turned_112 : decode cX11_turned 112 = .ok (.iload 4, 2) := by decide +kernel
theorem dX11_turned_114 : decode cX11_turned 114 = .ok (.iconst 1, 1) := by decide +kernel
theorem dX11_turned_115 : decode cX11_turned 115 = .ok (.iadd, 1) := by decide +kernel
theorem dX11_turned_116 : decode cX11_turned 116 = .ok (.bipush 6, 2) := by decide +kernel
theorem dX11_turned_118 : decode cX11_turned 118 = .ok (.iload 7, 2) := by decide +kernel
theorem dX11_turned_120 : decode cX11_turned 120 = .ok (.iload 5, 2) := by decide +kernel
theorem dX11_turned_122 : decode cX11_turned 122 = .ok (.iadd, 1) := by decide +kernel
theorem dX11_turned_123 : decode cX11_turned 123 = .ok (.aload_n 0, 1) := by decide +kernel
theorem dX11_turned_124 : decode cX11_turned 124 = .ok (.getfield 8, 3) := by decide +kernel
theorem dX11_turned_127 : decode cX11_turned 127 = .ok (.iload 4, 2) := by decide +kernel
theorem dX11_turned_129 : decode cX11_turned 129 = .ok (.iaload, 1) := by decide +kernel
theorem dX11_turned_130 : decode cX11_turned 130 = .ok (.irem, 1) := by decide +kernel
theorem dX11_turned_131 : decode cX11_turned 131 = .ok (.imul, 1) := by decide +kernel
theorem dX11_turned_132 : decode cX11_turned 132 = .ok (.iadd, 1) := by decide +kernel
theorem dX11_turned_133 : decode cX11_turned 133 = .ok (.iload 8, 2) := by decide +kernel
theorem dX11_turned_135 : decode cX11_turned 135 = .ok (.iadd, 1) := by decide +kernel
theorem dX11_turned_136 : decode cX11_turned 136 = .ok (.iaload, 1) := by decide +kernel
theorem dX11_turned_137 : decode cX11_turned 137 = .ok (.if_icmp .ne 7, 3) := by decide +kernel
theorem dX11_turned_140 : decode cX11_turned 140 = .ok (.iconst 1, 1) := by decide +kernel
theorem dX11_turned_141 : decode cX11_turned 141 = .ok (.goto 4, 3) := by decide +kernel
theorem dX11_turned_144 : decode cX11_turned 144 = .ok (.iconst 0, 1) := by decide +kernel
theorem dX11_turned_145 : decode cX11_turned 145 = .ok (.istore 6, 2) := by decide +kernel
theorem dX11_turned_147 : decode cX11_turned 147 = .ok (.iinc 8 1, 3) := by decide +kernel
theorem dX11_turned_150 : decode cX11_turned 150 = .ok (.goto (-71), 3) := by decide +kernel
theorem dX11_turned_153 : decode cX11_turned 153 = .ok (.iinc 7 1, 3) := by decide +kernel
theorem dX11_turned_156 : decode cX11_turned 156 = .ok (.goto (-96), 3) := by decide +kernel
theorem dX11_turned_159 : decode cX11_turned 159 = .ok (.iload 6, 2) := by decide +kernel
theorem dX11_turned_161 : decode cX11_turned 161 = .ok (.ifCond .eq 6, 3) := by decide +kernel
theorem dX11_turned_164 : decode cX11_turned 164 = .ok (.iload 5, 2) := by decide +kernel
theorem dX11_turned_166 : decode cX11_turned 166 = .ok (.ireturn, 1) := by decide +kernel
theorem dX11_turned_167 : decode cX11_turned 167 = .ok (.iinc 5 1, 3) := by decide +kernel
theorem dX11_turned_170 : decode cX11_turned 170 = .ok (.goto (-127), 3) := by decide +kernel
theorem dX11_turned_173 : decode cX11_turned 173 = .ok (.iconst (-1), 1) := by decide +kernel
theorem dX11_turned_174 : decode cX11_turned 174 = .ok (.ireturn, 1) := by decide +kernel
set_option maxRecDepth 20000 in
theorem ggX11_isGood_X11_weigh : GoodIn wsX11_isGood wsX11_weigh := goodIn_r _ [6, 7, 8, 9, 1, 10, 11, 12, 5, 13, 14, 15, 16, 17, 18, 19, 20, 21, 22, 23, 24, 25, 26, 27, 28, 29, 30, 31, 32, 33, 34, 35, 36, 37, 38, 39, 40, 41, 42, 43, 44, 45, 46, 47, 48, 49, 50, 51, 52, 53, 54, 55, 56, 57, 58, 59, 60, 61, 62, 63, 64] (by decide +kernel) (by decide +kernel)
set_option maxRecDepth 20000 in
theorem gX11_isGood_X11_weigh : GoodIn wsX11_isGood (wsV RX11 252 RX11 yX11_weigh wsX11_weigh) := goodIn_app (goodIn_of _ (by decide +kernel)) ggX11_isGood_X11_weigh
set_option maxRecDepth 20000 in
theorem ggX11_good_X11_rowOf : GoodIn wsX11_good wsX11_rowOf := goodIn_r _ [8, 9, 10, 11, 7, 12, 13, 14, 15, 16, 3, 17, 18, 19, 38, 39, 40, 41, 42, 43, 44, 45, 46, 47, 48, 49, 50, 51, 52, 53, 54, 55, 56, 57, 58, 59, 60, 61, 62, 63, 64, 65, 66, 67, 68, 69, 70, 71, 72, 73, 74, 75, 76, 77, 78, 79, 80, 81, 82, 83, 84] (by decide +kernel) (by decide +kernel)
set_option maxRecDepth 20000 in
theorem gX11_good_X11_rowOf : GoodIn wsX11_good (wsV RX11 233 RX11 yX11_rowOf wsX11_rowOf) := goodIn_app (goodIn_of _ (by decide +kernel)) ggX11_good_X11_rowOf
set_option maxRecDepth 20000 in
theorem ggX11_good_X11_weigh : GoodIn wsX11_good wsX11_weigh := goodIn_r _ [23, 3, 24, 2, 1, 25, 26, 27, 7, 28, 29, 30, 31, 32, 38, 39, 40, 41, 42, 43, 44, 45, 46, 47, 48, 49, 50, 51, 52, 53, 54, 55, 56, 57, 58, 59, 60, 61, 62, 63, 64, 65, 66, 67, 68, 69, 70, 71, 72, 73, 74, 75, 76, 77, 78, 79, 80, 81, 82, 83, 84] (by decide +kernel) (by decide +kernel)
set_option maxRecDepth 20000 in
theorem gX11_good_X11_weigh : GoodIn wsX11_good (wsV RX11 252 RX11 yX11_weigh wsX11_weigh) := goodIn_app (goodIn_of _ (by decide +kernel)) ggX11_good_X11_weigh
set_option maxRecDepth 20000 in
theorem ggX11_good_X11_isPlainRow : GoodIn wsX11_good wsX11_isPlainRow := goodIn_r _ [36, 3, 37, 25, 26, 27, 7, 28, 38, 39, 40, 41, 42, 43, 44, 45, 46, 47, 48, 49, 50, 51, 52, 53, 54, 55, 56, 57, 58, 59, 60, 61, 62, 63, 64, 65, 66, 67, 68, 69, 70, 71, 72, 73, 74, 75, 76, 77, 78, 79, 80, 81, 82, 83, 84] (by decide +kernel) (by decide +kernel)
set_option maxRecDepth 20000 in
theorem gX11_good_X11_isPlainRow : GoodIn wsX11_good (wsV RX11 255 RX11 yX11_isPlainRow wsX11_isPlainRow) := goodIn_app (goodIn_of _ (by decide +kernel)) ggX11_good_X11_isPlainRow
set_option maxRecDepth 20000 in
theorem ggX11_stateOf_X11_mod : GoodIn wsX11_stateOf wsX11_mod := goodIn_r _ [5] (by decide +kernel) (by decide +kernel)
set_option maxRecDepth 20000 in
theorem gX11_stateOf_X11_mod : GoodIn wsX11_stateOf (va_wsS RX11 188 yX11_mod wsX11_mod) := goodIn_app (goodIn_of _ (by decide +kernel)) ggX11_stateOf_X11_mod
set_option maxRecDepth 20000 in
theorem ggX11_stateOf_X11_heightAt : GoodIn wsX11_stateOf wsX11_heightAt := goodIn_r _ [9, 1, 10, 11, 12, 13, 14, 15, 16, 17, 18, 19, 20, 21, 22, 23, 24, 25, 26, 27, 28, 29, 30, 31, 32, 33, 34, 35, 36, 37, 38, 39, 40, 41, 42, 43, 44, 45, 46, 47, 48, 49, 50, 51, 52, 53, 54, 55, 56] (by decide +kernel) (by decide +kernel)
set_option maxRecDepth 20000 in
theorem gX11_stateOf_X11_heightAt : GoodIn wsX11_stateOf (wsV RX11 239 RX11 yX11_heightAt wsX11_heightAt) := goodIn_app (goodIn_of _ (by decide +kernel)) ggX11_stateOf_X11_heightAt
set_option maxRecDepth 100000 in
set_option maxHeartbeats 4000000 in
theorem ggX11_isPlainGood_X11_isGood : GoodIn wsX11_isPlainGood wsX11_isGood := goodIn_r _ [5, 6, 7, 8, 9, 4, 10, 11, 12, 13, 14, 15, 16, 17, 18, 19, 20, 21, 27, 28, 29, 30, 31, 32, 33, 34, 35, 36, 37, 38, 39, 40, 41, 42, 43, 44, 45, 46, 47, 48, 49, 50, 51, 52, 53, 54, 55, 56, 57, 58, 59, 60, 61, 62, 63, 64, 65, 66, 67, 68, 69, 70, 71, 72, 73] (by with_unfolding_all rfl) (by decide +kernel)
set_option maxRecDepth 20000 in
theorem gX11_isPlainGood_X11_isGood : GoodIn wsX11_isPlainGood (wsV RX11 271 RX11 yX11_isGood wsX11_isGood) := goodIn_app (goodIn_of _ (by decide +kernel)) ggX11_isPlainGood_X11_isGood
set_option maxRecDepth 20000 in
theorem ggX11_isPlainGood_X11_isPlainRow : GoodIn wsX11_isPlainGood wsX11_isPlainRow := goodIn_r _ [25, 11, 26, 14, 15, 16, 4, 17, 27, 28, 29, 30, 31, 32, 33, 34, 35, 36, 37, 38, 39, 40, 41, 42, 43, 44, 45, 46, 47, 48, 49, 50, 51, 52, 53, 54, 55, 56, 57, 58, 59, 60, 61, 62, 63, 64, 65, 66, 67, 68, 69, 70, 71, 72, 73] (by decide +kernel) (by decide +kernel)
set_option maxRecDepth 20000 in
theorem gX11_isPlainGood_X11_isPlainRow : GoodIn wsX11_isPlainGood (wsV RX11 255 RX11 yX11_isPlainRow wsX11_isPlainRow) := goodIn_app (goodIn_of _ (by decide +kernel)) ggX11_isPlainGood_X11_isPlainRow
set_option maxRecDepth 20000 in
theorem ggX11_state_X11_rowOf : GoodIn wsX11_state wsX11_rowOf := goodIn_r _ [6, 7, 8, 9, 5, 10, 11, 12, 13, 14, 1, 15, 16, 17, 53, 54, 55, 56, 57, 58, 59, 60, 61, 62, 63, 64, 65, 66, 67, 68, 69, 70, 71, 72, 73, 74, 75, 76, 77, 78, 79, 80, 81, 82, 83, 84, 85, 86, 87, 88, 89, 90, 91, 92, 93, 94, 95, 96, 97, 98, 99] (by decide +kernel) (by decide +kernel)
set_option maxRecDepth 20000 in
theorem gX11_state_X11_rowOf : GoodIn wsX11_state (wsV RX11 233 RX11 yX11_rowOf wsX11_rowOf) := goodIn_app (goodIn_of _ (by decide +kernel)) ggX11_state_X11_rowOf
set_option maxRecDepth 100000 in
set_option maxHeartbeats 4000000 in
theorem ggX11_state_X11_isPlainGood : GoodIn wsX11_state wsX11_isPlainGood := goodIn_r _ [21, 22, 23, 24, 5, 25, 26, 27, 28, 29, 30, 1, 31, 32, 33, 34, 35, 36, 37, 38, 39, 40, 41, 42, 43, 44, 45, 53, 54, 55, 56, 57, 58, 59, 60, 61, 62, 63, 64, 65, 66, 67, 68, 69, 70, 71, 72, 73, 74, 75, 76, 77, 78, 79, 80, 81, 82, 83, 84, 85, 86, 87, 88, 89, 90, 91, 92, 93, 94, 95, 96, 97, 98, 99] (by with_unfolding_all rfl) (by decide +kernel)
set_option maxRecDepth 20000 in
theorem gX11_state_X11_isPlainGood : GoodIn wsX11_state (wsV RX11 286 RX11 yX11_isPlainGood wsX11_isPlainGood) := goodIn_app (goodIn_of _ (by decide +kernel)) ggX11_state_X11_isPlainGood
set_option maxRecDepth 20000 in
theorem ggX11_state_X11_isIn : GoodIn wsX11_state wsX11_isIn := goodIn_r _ [10] (by decide +kernel) (by decide +kernel)
set_option maxRecDepth 20000 in
theorem gX11_state_X11_isIn : GoodIn wsX11_state (va_wsS RX11 100 yX11_isIn wsX11_isIn) := goodIn_app (goodIn_of _ (by decide +kernel)) ggX11_state_X11_isIn
set_option maxRecDepth 20000 in
theorem ggX11_state_X11_stateOf : GoodIn wsX11_state wsX11_stateOf := goodIn_r _ [49, 1, 50, 51, 5, 52, 33, 34, 35, 36, 53, 54, 55, 56, 57, 58, 59, 60, 61, 62, 63, 64, 65, 66, 67, 68, 69, 70, 71, 72, 73, 74, 75, 76, 77, 78, 79, 80, 81, 82, 83, 84, 85, 86, 87, 88, 89, 90, 91, 92, 93, 94, 95, 96, 97, 98, 99] (by decide +kernel) (by decide +kernel)
set_option maxRecDepth 20000 in
theorem gX11_state_X11_stateOf : GoodIn wsX11_state (wsV RX11 289 RX11 yX11_stateOf wsX11_stateOf) := goodIn_app (goodIn_of _ (by decide +kernel)) ggX11_state_X11_stateOf
set_option maxRecDepth 20000 in
theorem ggX11_turned_X11_rowOf : GoodIn wsX11_turned wsX11_rowOf := goodIn_r _ [6, 7, 8, 9, 5, 10, 11, 12, 13, 14, 1, 15, 16, 17, 18, 19, 20, 21, 22, 23, 24, 25, 26, 27, 28, 29, 30, 31, 32, 33, 34, 35, 36, 37, 38, 39, 40, 41, 42, 43, 44, 45, 46, 47, 48, 49, 50, 51, 52, 53, 54, 55, 56, 57, 58, 59, 60, 61, 62, 63, 64] (by decide +kernel) (by decide +kernel)
set_option maxRecDepth 20000 in
theorem gX11_turned_X11_rowOf : GoodIn wsX11_turned (wsV RX11 233 RX11 yX11_rowOf wsX11_rowOf) := goodIn_app (goodIn_of _ (by decide +kernel)) ggX11_turned_X11_rowOf
set_option maxRecDepth 100000 in
set_option maxHeartbeats 4000000 in
theorem k_stateOf (l : Launch) (D : va_G) (cI cR cM : ClassId) (sz : Nat) {jn mm : Nat} {q : Nat → Nat} {x0 x1 x2 x3 x4 x5 x6 x7 x8 x9 x10 x11 x12 x13 x14 x15 x16 x17 x18 x19 x20 : Int32} {f0 f1 f2 f3 f4 f5 f6 f7 f8 f9 f10 f11 f12 f13 f14 f15 f16 f17 f18 f19 f20 f21 f22 f23 f24 : Nat → Int32} {a b : Int32}  (hj : 1 ≤ jn ∧ jn ≤ 3) (hrow9 : IsRow jn f0 a.toInt) (hb0 : 0 ≤ b.toInt ∧ b.toInt < (f0 a.toInt.toNat).toInt) : Met l yX11_stateOf wsX11_stateOf ({ frames := 1, cells := 0, slots := 0, locals := 24 }) (P0 D cI cR cM [.ref mm, .int a, .int b] sz (mX mm q jn cI x0 x1 x2 x3 x4 x5 x6 x7 x8 x9 x10 x11 x12 x13 x14 x15 x16 x17 x18 x19 x20 f0 f1 f2 f3 f4 f5 f6 f7 f8 f9 f10 f11 f12 f13 f14 f15 f16 f17 f18 f19 f20 f21 f22 f23 f24)) (QP (fun r => True) sz) 0 0 (va_A [] sz) := by
  refine go (cc := cX11_stateOf) (maxL := 6) (ret := (some .int)) (by decide) rfl (Nat.le_of_ble_eq_true rfl) ?_
  intro p e s m below meth c ls args Q hQ hsz hx hb hr hml hts hown hlocks hnm hP hK hD hl
  subst hsz
  have hS : va_S (va_A [] s.heap.size) s.heap s.heap [] := va_S.rf
  have hA : ∀ q, s.heap.size ≤ q → va_A [] s.heap.size q := fun q h => Or.inr h
  have hl : lv_has ls 6 [(0, .ref mm), (1, .int a), (2, .int b)] := hl
  have hr0 := hrow9
  obtain ⟨hr1, hr2, hr3, hr4, hr5, hr6⟩ := hrow9
  refine lv_iconst (v := 0) hx hb dX11_stateOf_0 (by decide) ?_
  refine lv_istore_n (lv' := [(3, .int 0), (0, .ref mm), (1, .int a), (2, .int b)]) hx hb dX11_stateOf_1 rfl hl (by decide) rfl (fun ls hl => ?_)
  refine lv_iconst (v := 0) hx hb dX11_stateOf_2 (by decide) ?_
  refine lv_istore (lv' := [(4, .int 0), (3, .int 0), (0, .ref mm), (1, .int a), (2, .int b)]) hx hb dX11_stateOf_3 hl (by decide) rfl (fun ls hl => ?_)
  have loop5 : ∀ (ddloop5 : Nat) (se : Int32) (k : Int32) (H : Heap) (locs : List Loc) (ls : Array Slot), (10 - k.toInt).toNat < ddloop5 → (0 ≤ k.toInt ∧ k.toInt ≤ 9) → va_P D vwCl (mX mm q jn cI x0 x1 x2 x3 x4 x5 x6 x7 x8 x9 x10 x11 x12 x13 x14 x15 x16 x17 x18 x19 x20 f0 f1 f2 f3 f4 f5 f6 f7 f8 f9 f10 f11 f12 f13 f14 f15 f16 f17 f18 f19 f20 f21 f22 f23 f24) H → va_S (va_A [] s.heap.size) s.heap H locs → lv_has ls 6 [(0, .ref mm), (1, .int a), (2, .int b), (3, .int se), (4, .int k)] → W p l e ({ frames := 1, cells := 0, slots := 0, locals := 24 }) s m args below meth c H locs 0 0 Q (F0 m 5 ls []) := by
    intro ddloop5
    induction ddloop5 with
    | zero =>
      intro se k H locs ls hdd
      exact absurd hdd (Nat.not_lt_zero _)
    | succ ddloop5 ih5 =>
      intro se k H locs ls hdd hk hP hS hl
      refine lv_iload hx hb dX11_stateOf_5 (lv_at hl 4 rfl) ?_
      refine lv_bipush (v := 9) hx hb dX11_stateOf_7 (by decide) ?_
      refine a_icmp_ge (u := k.toInt) (v := 9) (tgt := 72) hx hb dX11_stateOf_9 (by decide) (rfl) (by decide) (fun c_1 => ?_) (fun c_1 => ?_)
      · refine lv_iload_n hx hb dX11_stateOf_72 rfl (lv_at hl 3 rfl) ?_
        exact rp_iret hx hb hr hlocks hS (trivial) hQ dX11_stateOf_73
      · refine lv_iload hx hb dX11_stateOf_12 (lv_at hl 4 rfl) ?_
        refine lv_iconst (v := 1) hx hb dX11_stateOf_14 (by decide) ?_
        refine a_iadd (u := k.toInt) (v := 1) hx hb dX11_stateOf_15 (rfl) (by decide) (by omega) (fun z_2 e_2 => ?_)
        refine lv_istore (lv' := [(5, .int z_2), (0, .ref mm), (1, .int a), (2, .int b), (3, .int se), (4, .int k)]) hx hb dX11_stateOf_16 hl (by decide) rfl (fun ls hl => ?_)
        have loop18 : ∀ (ddloop18 : Nat) (sf : Int32) (h5 : Int32) (H : Heap) (locs : List Loc) (ls : Array Slot), (20 - h5.toInt).toNat < ddloop18 → (k.toInt < h5.toInt ∧ h5.toInt ≤ 10) → va_P D vwCl (mX mm q jn cI x0 x1 x2 x3 x4 x5 x6 x7 x8 x9 x10 x11 x12 x13 x14 x15 x16 x17 x18 x19 x20 f0 f1 f2 f3 f4 f5 f6 f7 f8 f9 f10 f11 f12 f13 f14 f15 f16 f17 f18 f19 f20 f21 f22 f23 f24) H → va_S (va_A [] s.heap.size) s.heap H locs → lv_has ls 6 [(0, .ref mm), (1, .int a), (2, .int b), (3, .int sf), (4, .int k), (5, .int h5)] → W p l e ({ frames := 1, cells := 0, slots := 0, locals := 24 }) s m args below meth c H locs 0 0 Q (F0 m 18 ls []) := by
          intro ddloop18
          induction ddloop18 with
          | zero =>
            intro sf h5 H locs ls hdd
            exact absurd hdd (Nat.not_lt_zero _)
          | succ ddloop18 ih18 =>
            intro sf h5 H locs ls hdd hh5 hP hS hl
            refine lv_iload hx hb dX11_stateOf_18 (lv_at hl 5 rfl) ?_
            refine lv_bipush (v := 10) hx hb dX11_stateOf_20 (by decide) ?_
            refine a_icmp_ge (u := h5.toInt) (v := 10) (tgt := 66) hx hb dX11_stateOf_22 (by decide) (rfl) (by decide) (fun c_3 => ?_) (fun c_3 => ?_)
            · obtain ⟨z_4, q_4, e_4⟩ := i_inc (a := k.toInt) (1) (rfl) (by decide) (by omega) (by omega)
              refine lv_iinc (v := z_4) (lv' := [(4, .int z_4), (0, .ref mm), (1, .int a), (2, .int b), (3, .int sf), (5, .int h5)]) hx hb dX11_stateOf_66 hl (k := 4) rfl q_4 (by decide) rfl (fun ls hl => ?_)
              refine lv_goto (tgt := 5) hx hb dX11_stateOf_69 (by decide) ?_
              exact ih5 sf z_4 _ _ _ (by omega) (by first | assumption | omega) hP hS (lv_sub hl [1, 2, 3, 4, 0] rfl)
            · refine lv_aload_n hx hb dX11_stateOf_25 rfl (lv_at hl 0 rfl) ?_
              refine lv_iload_n hx hb dX11_stateOf_26 rfl (lv_at hl 1 rfl) ?_
              refine lv_iload_n hx hb dX11_stateOf_27 rfl (lv_at hl 2 rfl) ?_
              refine lv_iload hx hb dX11_stateOf_28 (lv_at hl 5 rfl) ?_
              refine lv_iload hx hb dX11_stateOf_30 (lv_at hl 4 rfl) ?_
              refine a_isub (u := h5.toInt) (v := k.toInt) hx hb dX11_stateOf_32 (rfl) (rfl) (by omega) (fun z_5 e_5 => ?_)
              refine a_isub (u := b.toInt) (v := (h5.toInt - k.toInt)) hx hb dX11_stateOf_33 (rfl) (e_5) (by omega) (fun z_6 e_6 => ?_)
              refine lv_aload_n hx hb dX11_stateOf_34 rfl (lv_at hl 0 rfl) ?_
              refine va_get (D := D) (ci := 11) (v := .ref (q 0)) (C := RX11) (T := TX11) (N := 47) hx hb hts (by decide +kernel) hown hK.1 hP 0 rfl rfl 1 (by decide) (hts (.fieldLink RX11 8 "JugglingHallModel" "rows" "[I") (by decide +kernel)) (fun _ h9 => h9) rfl dX11_stateOf_35 ?_
              refine lv_iload_n hx hb dX11_stateOf_38 rfl (lv_at hl 1 rfl) ?_
              refine a_iald (f := f0) (u := a.toInt) hx hb hK.1 hP 1 0 rfl rfl dX11_stateOf_39 (rfl) (by omega) (fun z_7 q_7 e_7 => ?_)
              refine roP (va_runS (As := [.int z_6, .int z_7]) (rest := [.int a, .ref mm]) ⟨hx, hb, hml, hown, hts⟩ (k_mod l D cI cR cM _  (by first | assumption | omega) (by first | assumption | omega)) (va_cwS 2 hts gX11_stateOf_X11_mod rfl rfl rfl (by decide +kernel) ⟨Nat.le_of_ble_eq_true rfl, Nat.le_of_ble_eq_true rfl⟩) (pre_S hK va_P_nil (va_D_nil (A := fun _ => True))) rfl rfl hl.1 rfl (lv_room (Nat.le_of_ble_eq_true rfl)) dX11_stateOf_40 ⟨Nat.le_of_ble_eq_true rfl, Nat.le_of_ble_eq_true rfl⟩) hS hA hP (fun r_8 H locs hw hP hS => ?_)
              have h_8 : (0 ≤ r_8.toInt ∧ r_8.toInt < z_7.toInt) := hw
              refine lv_iconst (v := 0) hx hb dX11_stateOf_43 (by decide) ?_
              refine lv_iconst (v := 0) hx hb dX11_stateOf_44 (by decide) ?_
              have hz_9 : (0 : Int32).toInt = 0 := by decide
              have hz_10 : (0 : Int32).toInt = 0 := by decide
              refine roP (va_runV (As := [.int a, .int r_8, .int 0, .int 0]) (rest := []) ⟨hx, hb, hml, hown, hts⟩ (k_heightAt2 l D cI cR cM _  (by first | assumption | omega) (hr0) (by first | assumption | omega) (by first | assumption | omega) (by first | assumption | omega)) (cwV 4 hts gX11_stateOf_X11_heightAt rfl rfl rfl (by decide +kernel) ⟨Nat.le_of_ble_eq_true rfl, Nat.le_of_ble_eq_true rfl⟩) (pre_V hK hP hD 0 11 rfl rfl) rfl rfl hl.1 rfl (lv_room (Nat.le_of_ble_eq_true rfl)) dX11_stateOf_45 ⟨Nat.le_of_ble_eq_true rfl, Nat.le_of_ble_eq_true rfl⟩) hS hA hP (fun r_11 H locs hw hP hS => ?_)
              obtain ⟨h_11, hx_11⟩ : (0 ≤ r_11.toInt ∧ r_11.toInt ≤ 9) ∧ (r_11.toInt = (f0 (a.toInt + 1 + 6 * r_8.toInt + 2 * (0 : Int32).toInt + (0 : Int32).toInt).toNat).toInt / 4) := hw
              refine lv_iload hx hb dX11_stateOf_48 (lv_at hl 5 rfl) ?_
              refine a_icmp_ne (u := r_11.toInt) (v := h5.toInt) (tgt := 60) hx hb dX11_stateOf_50 (by decide) (rfl) (rfl) (fun c_12 => ?_) (fun c_12 => ?_)
              · obtain ⟨z_13, q_13, e_13⟩ := i_inc (a := h5.toInt) (1) (rfl) (by decide) (by omega) (by omega)
                refine lv_iinc (v := z_13) (lv' := [(5, .int z_13), (0, .ref mm), (1, .int a), (2, .int b), (3, .int sf), (4, .int k)]) hx hb dX11_stateOf_60 hl (k := 5) rfl q_13 (by decide) rfl (fun ls hl => ?_)
                refine lv_goto (tgt := 18) hx hb dX11_stateOf_63 (by decide) ?_
                exact ih18 sf z_13 _ _ _ (by omega) (by first | assumption | omega) hP hS (lv_sub hl [1, 2, 3, 4, 5, 0] rfl)
              · refine lv_iload_n hx hb dX11_stateOf_53 rfl (lv_at hl 3 rfl) ?_
                refine lv_iconst (v := 1) hx hb dX11_stateOf_54 (by decide) ?_
                refine lv_iload hx hb dX11_stateOf_55 (lv_at hl 4 rfl) ?_
                refine lv_ishl hx hb dX11_stateOf_57 ?_
                refine lv_topi (fun z_14 q_14 => ?_)
                refine lv_ior hx hb dX11_stateOf_58 ?_
                refine lv_topi (fun z_15 q_15 => ?_)
                refine lv_istore_n (lv' := [(3, .int z_15), (0, .ref mm), (1, .int a), (2, .int b), (4, .int k), (5, .int h5)]) hx hb dX11_stateOf_59 rfl hl (by decide) rfl (fun ls hl => ?_)
                obtain ⟨z_16, q_16, e_16⟩ := i_inc (a := h5.toInt) (1) (rfl) (by decide) (by omega) (by omega)
                refine lv_iinc (v := z_16) (lv' := [(5, .int z_16), (3, .int z_15), (0, .ref mm), (1, .int a), (2, .int b), (4, .int k)]) hx hb dX11_stateOf_60 hl (k := 5) rfl q_16 (by decide) rfl (fun ls hl => ?_)
                refine lv_goto (tgt := 18) hx hb dX11_stateOf_63 (by decide) ?_
                exact ih18 z_15 z_16 _ _ _ (by omega) (by first | assumption | omega) hP hS (lv_sub hl [2, 3, 4, 1, 5, 0] rfl)
        exact loop18 ((20 - z_2.toInt).toNat + 1) se z_2 _ _ _ (by omega) (by first | assumption | omega) hP hS (lv_sub hl [1, 2, 3, 4, 5, 0] rfl)
  have hz_17 : (0 : Int32).toInt = 0 := by decide
  have hz_18 : (0 : Int32).toInt = 0 := by decide
  exact loop5 ((10 - (0 : Int32).toInt).toNat + 1) (0 : Int32) (0 : Int32) _ _ _ (by omega) (by first | assumption | omega) hP hS (lv_sub hl [2, 3, 4, 1, 0] rfl)
set_option maxRecDepth 100000 in
set_option maxHeartbeats 4000000 in
theorem k_note (l : Launch) (D : va_G) (cI cR cM : ClassId) (sz : Nat) {jn mm : Nat} {q : Nat → Nat} {x0 x1 x2 x3 x4 x5 x6 x7 x8 x9 x10 x11 x12 x13 x14 x15 x16 x17 x18 x19 x20 : Int32} {f0 f1 f2 f3 f4 f5 f6 f7 f8 f9 f10 f11 f12 f13 f14 f15 f16 f17 f18 f19 f20 f21 f22 f23 f24 : Nat → Int32} {a b : Int32}  (h18 : 0 ≤ x18.toInt ∧ x18.toInt ≤ 299) : Met l yX11_note wsX11_note ({ frames := 0, cells := 0, slots := 0, locals := 0 }) (P0 D cI cR cM [.ref mm, .int a, .int b] sz (mX mm q jn cI x0 x1 x2 x3 x4 x5 x6 x7 x8 x9 x10 x11 x12 x13 x14 x15 x16 x17 x18 x19 x20 f0 f1 f2 f3 f4 f5 f6 f7 f8 f9 f10 f11 f12 f13 f14 f15 f16 f17 f18 f19 f20 f21 f22 f23 f24)) (QG (S := Int32 × (Nat → Int32) × (Nat → Int32)) (fun u => none) (fun u => mX mm q jn cI x0 x1 x2 x3 x4 x5 x6 x7 x8 x9 x10 x11 x12 x13 x14 x15 x16 x17 (u.1) x19 x20 f0 f1 f2 f3 f4 f5 f6 f7 f8 f9 f10 f11 f12 f13 f14 f15 f16 f17 f18 f19 f20 (u.2.1) (u.2.2) f23 f24) (fun u => (u.1.toInt = x18.toInt + 1)) D (va_A (mX mm q jn cI x0 x1 x2 x3 x4 x5 x6 x7 x8 x9 x10 x11 x12 x13 x14 x15 x16 x17 x18 x19 x20 f0 f1 f2 f3 f4 f5 f6 f7 f8 f9 f10 f11 f12 f13 f14 f15 f16 f17 f18 f19 f20 f21 f22 f23 f24) sz)) 0 0 (va_A (mX mm q jn cI x0 x1 x2 x3 x4 x5 x6 x7 x8 x9 x10 x11 x12 x13 x14 x15 x16 x17 x18 x19 x20 f0 f1 f2 f3 f4 f5 f6 f7 f8 f9 f10 f11 f12 f13 f14 f15 f16 f17 f18 f19 f20 f21 f22 f23 f24) sz) := by
  refine go (cc := cX11_note) (maxL := 3) (ret := none) (by decide) rfl (Nat.le_of_ble_eq_true rfl) ?_
  intro p e s m below meth c ls args Q hQ hsz hx hb hr hml hts hown hlocks hnm hP hK hD hl
  subst hsz
  have hD := hD.self (sz := s.heap.size)
  generalize hAe : va_A (mX mm q jn cI x0 x1 x2 x3 x4 x5 x6 x7 x8 x9 x10 x11 x12 x13 x14 x15 x16 x17 x18 x19 x20 f0 f1 f2 f3 f4 f5 f6 f7 f8 f9 f10 f11 f12 f13 f14 f15 f16 f17 f18 f19 f20 f21 f22 f23 f24) s.heap.size = A at hD hQ
  have hA : ∀ q, s.heap.size ≤ q → A q := fun q h => by rw [← hAe]; exact Or.inr h
  have hS : va_S A s.heap s.heap [] := va_S.rf
  have hl : lv_has ls 3 [(0, .ref mm), (1, .int a), (2, .int b)] := hl
  refine lv_aload_n hx hb dX11_note_0 rfl (lv_at hl 0 rfl) ?_
  refine va_get (D := D) (ci := 11) (v := .ref (q 21)) (C := RX11) (T := TX11) (N := 47) hx hb hts (by decide +kernel) hown hK.1 hP 0 rfl rfl 40 (by decide) (hts (.fieldLink RX11 81 "JugglingHallModel" "scoreHeight" "[I") (by decide +kernel)) (fun _ h9 => h9) rfl dX11_note_1 ?_
  refine lv_aload_n hx hb dX11_note_4 rfl (lv_at hl 0 rfl) ?_
  refine va_get (D := D) (ci := 11) (v := .int x18) (C := RX11) (T := TX11) (N := 47) hx hb hts (by decide +kernel) hown hK.1 hP 0 rfl rfl 42 (by decide) (hts (.fieldLink RX11 310 "JugglingHallModel" "scored" "I") (by decide +kernel)) (fun _ h9 => h9) rfl dX11_note_5 ?_
  refine lv_iload_n hx hb dX11_note_8 rfl (lv_at hl 1 rfl) ?_
  refine ma_21 (u := x18.toInt) hx hb hK hP hD hS dX11_note_9 (rfl) (by omega) (fun g_1 H locs eg_1 hP hD hS => ?_)
  refine lv_aload_n hx hb dX11_note_10 rfl (lv_at hl 0 rfl) ?_
  refine va_get (D := D) (ci := 11) (v := .ref (q 22)) (C := RX11) (T := TX11) (N := 47) hx hb hts (by decide +kernel) hown hK.1 hP 0 rfl rfl 41 (by decide) (hts (.fieldLink RX11 84 "JugglingHallModel" "scoreLetter" "[I") (by decide +kernel)) (fun _ h9 => h9) rfl dX11_note_11 ?_
  refine lv_aload_n hx hb dX11_note_14 rfl (lv_at hl 0 rfl) ?_
  refine va_get (D := D) (ci := 11) (v := .int x18) (C := RX11) (T := TX11) (N := 47) hx hb hts (by decide +kernel) hown hK.1 hP 0 rfl rfl 42 (by decide) (hts (.fieldLink RX11 310 "JugglingHallModel" "scored" "I") (by decide +kernel)) (fun _ h9 => h9) rfl dX11_note_15 ?_
  refine lv_iload_n hx hb dX11_note_18 rfl (lv_at hl 2 rfl) ?_
  refine ma_22 (u := x18.toInt) hx hb hK hP hD hS dX11_note_19 (rfl) (by omega) (fun g_2 H locs eg_2 hP hD hS => ?_)
  refine lv_aload_n hx hb dX11_note_20 rfl (lv_at hl 0 rfl) ?_
  refine lv_dup hx hb dX11_note_21 rfl ?_
  refine va_get (D := D) (ci := 11) (v := .int x18) (C := RX11) (T := TX11) (N := 47) hx hb hts (by decide +kernel) hown hK.1 hP 0 rfl rfl 42 (by decide) (hts (.fieldLink RX11 310 "JugglingHallModel" "scored" "I") (by decide +kernel)) (fun _ h9 => h9) rfl dX11_note_22 ?_
  refine lv_iconst (v := 1) hx hb dX11_note_25 (by decide) ?_
  refine a_iadd (u := x18.toInt) (v := 1) hx hb dX11_note_26 (rfl) (by decide) (by omega) (fun z_3 e_3 => ?_)
  refine mp_18 hx hb hts (by decide +kernel) hown hK hP hD hS (hts (.fieldLink RX11 310 "JugglingHallModel" "scored" "I") (by decide +kernel)) dX11_note_27 (fun H locs hP hD hS => ?_)
  exact g_vret (z_3, g_1, g_2) hx hb hr hlocks hS rfl (show z_3.toInt = x18.toInt + 1 from (by first | assumption | omega)) hP hD hQ (Nat.le_of_ble_eq_true rfl) (Nat.le_of_ble_eq_true rfl) dX11_note_30
set_option maxRecDepth 100000 in
set_option maxHeartbeats 4000000 in
theorem k_turned (l : Launch) (D : va_G) (cI cR cM : ClassId) (sz : Nat) {jn mm : Nat} {q : Nat → Nat} {x0 x1 x2 x3 x4 x5 x6 x7 x8 x9 x10 x11 x12 x13 x14 x15 x16 x17 x18 x19 x20 : Int32} {f0 f1 f2 f3 f4 f5 f6 f7 f8 f9 f10 f11 f12 f13 f14 f15 f16 f17 f18 f19 f20 f21 f22 f23 f24 : Nat → Int32} {a b : Int32}  (hj : 1 ≤ jn ∧ jn ≤ 3) (h0 : 0 ≤ x0.toInt ∧ x0.toInt ≤ 60) (h1 : 0 ≤ x1.toInt ∧ x1.toInt ≤ 60) (hR : RowsX jn f0) : Met l yX11_turned wsX11_turned ({ frames := 3, cells := 0, slots := 0, locals := 65 }) (P0 D cI cR cM [.ref mm, .int a, .int b] sz (mX mm q jn cI x0 x1 x2 x3 x4 x5 x6 x7 x8 x9 x10 x11 x12 x13 x14 x15 x16 x17 x18 x19 x20 f0 f1 f2 f3 f4 f5 f6 f7 f8 f9 f10 f11 f12 f13 f14 f15 f16 f17 f18 f19 f20 f21 f22 f23 f24)) (QP (fun r => True) sz) 0 0 (va_A [] sz) := by
  refine go (cc := cX11_turned) (maxL := 9) (ret := (some .int)) (by decide) rfl (Nat.le_of_ble_eq_true rfl) ?_
  intro p e s m below meth c ls args Q hQ hsz hx hb hr hml hts hown hlocks hnm hP hK hD hl
  subst hsz
  have hS : va_S (va_A [] s.heap.size) s.heap s.heap [] := va_S.rf
  have hA : ∀ q, s.heap.size ≤ q → va_A [] s.heap.size q := fun q h => Or.inr h
  have hl : lv_has ls 9 [(0, .ref mm), (1, .int a), (2, .int b)] := hl
  refine lv_aload_n hx hb dX11_turned_0 rfl (lv_at hl 0 rfl) ?_
  refine lv_iload_n hx hb dX11_turned_1 rfl (lv_at hl 1 rfl) ?_
  refine roP (va_runV (As := [.int a]) (rest := []) ⟨hx, hb, hml, hown, hts⟩ (k_rowOf l D cI cR cM _  (by first | assumption | omega) (by first | assumption | omega)) (cwV 1 hts gX11_turned_X11_rowOf rfl rfl rfl (by decide +kernel) ⟨Nat.le_of_ble_eq_true rfl, Nat.le_of_ble_eq_true rfl⟩) (pre_V hK hP hD 0 11 rfl rfl) rfl rfl hl.1 rfl (lv_room (Nat.le_of_ble_eq_true rfl)) dX11_turned_2 ⟨Nat.le_of_ble_eq_true rfl, Nat.le_of_ble_eq_true rfl⟩) hS hA hP (fun r_1 H locs hw hP hS => ?_)
  have h_1 : (r_1.toInt = -1 ∨ IsRow jn f0 r_1.toInt) := hw
  refine lv_istore_n (lv' := [(3, .int r_1), (0, .ref mm), (1, .int a), (2, .int b)]) hx hb dX11_turned_5 rfl hl (by decide) rfl (fun ls hl => ?_)
  refine lv_aload_n hx hb dX11_turned_6 rfl (lv_at hl 1 rfl) ?_
  refine lv_iload_n hx hb dX11_turned_7 rfl (lv_at hl 3 rfl) ?_
  refine roP (va_runV (As := [.int b]) (rest := []) ⟨hx, hb, hml, hown, hts⟩ (k_rowOf l D cI cR cM _  (by first | assumption | omega) (by first | assumption | omega)) (cwV 1 hts gX11_turned_X11_rowOf rfl rfl rfl (by decide +kernel) ⟨Nat.le_of_ble_eq_true rfl, Nat.le_of_ble_eq_true rfl⟩) (pre_V hK hP hD 0 11 rfl rfl) rfl rfl hl.1 rfl (lv_room (Nat.le_of_ble_eq_true rfl)) dX11_turned_8 ⟨Nat.le_of_ble_eq_true rfl, Nat.le_of_ble_eq_true rfl⟩) hS hA hP (fun r_2 H locs hw hP hS => ?_)
  have h_2 : (r_2.toInt = -1 ∨ IsRow jn f0 r_2.toInt) := hw
  refine lv_istore (lv' := [(4, .int r_2), (3, .int r_1), (0, .ref mm), (1, .int a), (2, .int b)]) hx hb dX11_turned_11 hl (by decide) rfl (fun ls hl => ?_)
  refine lv_iload_n hx hb dX11_turned_13 rfl (lv_at hl 1 rfl) ?_
  refine a_if_lt (u := r_1.toInt) (tgt := 38) hx hb dX11_turned_14 (by decide) (rfl) (fun c_3 => ?_) (fun c_3 => ?_)
  · refine lv_iconst (v := (-1)) hx hb dX11_turned_38 (by decide) ?_
    have hz_4 : (-1 : Int32).toInt = (-1) := by decide
    exact rp_iret hx hb hr hlocks hS (trivial) hQ dX11_turned_39
  · refine lv_iload hx hb dX11_turned_17 (lv_at hl 0 rfl) ?_
    refine a_if_lt (u := r_2.toInt) (tgt := 38) hx hb dX11_turned_19 (by decide) (rfl) (fun c_5 => ?_) (fun c_5 => ?_)
    · refine lv_iconst (v := (-1)) hx hb dX11_turned_38 (by decide) ?_
      have hz_6 : (-1 : Int32).toInt = (-1) := by decide
      exact rp_iret hx hb hr hlocks hS (trivial) hQ dX11_turned_39
    · have hq1 := h_1.resolve_left (by omega)
      obtain ⟨ha1, ha2, ha3, ha4, ha5, ha6⟩ := hq1
      have hq2 := h_2.resolve_left (by omega)
      obtain ⟨hb1, hb2, hb3, hb4, hb5, hb6⟩ := hq2
      refine lv_aload_n hx hb dX11_turned_22 rfl (lv_at hl 2 rfl) ?_
      refine va_get (D := D) (ci := 11) (v := .ref (q 0)) (C := RX11) (T := TX11) (N := 47) hx hb hts (by decide +kernel) hown hK.1 hP 0 rfl rfl 1 (by decide) (hts (.fieldLink RX11 8 "JugglingHallModel" "rows" "[I") (by decide +kernel)) (fun _ h9 => h9) rfl dX11_turned_23 ?_
      refine lv_iload_n hx hb dX11_turned_26 rfl (lv_at hl 1 rfl) ?_
      refine a_iald (f := f0) (u := r_1.toInt) hx hb hK.1 hP 1 0 rfl rfl dX11_turned_27 (rfl) (by omega) (fun z_7 q_7 e_7 => ?_)
      refine lv_aload_n hx hb dX11_turned_28 rfl (lv_at hl 2 rfl) ?_
      refine va_get (D := D) (ci := 11) (v := .ref (q 0)) (C := RX11) (T := TX11) (N := 47) hx hb hts (by decide +kernel) hown hK.1 hP 0 rfl rfl 1 (by decide) (hts (.fieldLink RX11 8 "JugglingHallModel" "rows" "[I") (by decide +kernel)) (fun _ h9 => h9) rfl dX11_turned_29 ?_
      refine lv_iload hx hb dX11_turned_32 (lv_at hl 0 rfl) ?_
      refine a_iald (f := f0) (u := r_2.toInt) hx hb hK.1 hP 1 0 rfl rfl dX11_turned_34 (rfl) (by omega) (fun z_8 q_8 e_8 => ?_)
      refine a_icmp_eq (u := z_7.toInt) (v := z_8.toInt) (tgt := 40) hx hb dX11_turned_35 (by decide) (rfl) (rfl) (fun c_9 => ?_) (fun c_9 => ?_)
      · refine lv_iconst (v := 0) hx hb dX11_turned_40 (by decide) ?_
        refine lv_istore (lv' := [(5, .int 0), (4, .int r_2), (3, .int r_1), (0, .ref mm), (1, .int a), (2, .int b)]) hx hb dX11_turned_41 hl (by decide) rfl (fun ls hl => ?_)
        have loop43 : ∀ (ddloop43 : Nat) (d : Int32) (H : Heap) (locs : List Loc) (ls : Array Slot), (30 - d.toInt).toNat < ddloop43 → (0 ≤ d.toInt ∧ d.toInt ≤ 24) → va_P D vwCl (mX mm q jn cI x0 x1 x2 x3 x4 x5 x6 x7 x8 x9 x10 x11 x12 x13 x14 x15 x16 x17 x18 x19 x20 f0 f1 f2 f3 f4 f5 f6 f7 f8 f9 f10 f11 f12 f13 f14 f15 f16 f17 f18 f19 f20 f21 f22 f23 f24) H → va_S (va_A [] s.heap.size) s.heap H locs → lv_has ls 9 [(0, .ref mm), (1, .int a), (2, .int b), (3, .int r_1), (4, .int r_2), (5, .int d)] → W p l e ({ frames := 3, cells := 0, slots := 0, locals := 65 }) s m args below meth c H locs 0 0 Q (F0 m 43 ls []) := by
          intro ddloop43
          induction ddloop43 with
          | zero =>
            intro d H locs ls hdd
            exact absurd hdd (Nat.not_lt_zero _)
          | succ ddloop43 ih43 =>
            intro d H locs ls hdd hd hP hS hl
            refine lv_iload hx hb dX11_turned_43 (lv_at hl 5 rfl) ?_
            refine lv_aload_n hx hb dX11_turned_45 rfl (lv_at hl 0 rfl) ?_
            refine va_get (D := D) (ci := 11) (v := .ref (q 0)) (C := RX11) (T := TX11) (N := 47) hx hb hts (by decide +kernel) hown hK.1 hP 0 rfl rfl 1 (by decide) (hts (.fieldLink RX11 8 "JugglingHallModel" "rows" "[I") (by decide +kernel)) (fun _ h9 => h9) rfl dX11_turned_46 ?_
            refine lv_iload_n hx hb dX11_turned_49 rfl (lv_at hl 3 rfl) ?_
            refine a_iald (f := f0) (u := r_1.toInt) hx hb hK.1 hP 1 0 rfl rfl dX11_turned_50 (rfl) (by omega) (fun z_10 q_10 e_10 => ?_)
            refine a_icmp_ge (u := d.toInt) (v := z_10.toInt) (tgt := 173) hx hb dX11_turned_51 (by decide) (rfl) (rfl) (fun c_11 => ?_) (fun c_11 => ?_)
            · refine lv_iconst (v := (-1)) hx hb dX11_turned_173 (by decide) ?_
              have hz_12 : (-1 : Int32).toInt = (-1) := by decide
              exact rp_iret hx hb hr hlocks hS (trivial) hQ dX11_turned_174
            · refine lv_iconst (v := 1) hx hb dX11_turned_54 (by decide) ?_
              refine lv_istore (lv' := [(6, .int 1), (0, .ref mm), (1, .int a), (2, .int b), (3, .int r_1), (4, .int r_2), (5, .int d)]) hx hb dX11_turned_55 hl (by decide) rfl (fun ls hl => ?_)
              refine lv_iconst (v := 0) hx hb dX11_turned_57 (by decide) ?_
              refine lv_istore (lv' := [(7, .int 0), (6, .int 1), (0, .ref mm), (1, .int a), (2, .int b), (3, .int r_1), (4, .int r_2), (5, .int d)]) hx hb dX11_turned_58 hl (by decide) rfl (fun ls hl => ?_)
              have loop60 : ∀ (ddloop60 : Nat) (is1 : Int32) (i : Int32) (H : Heap) (locs : List Loc) (ls : Array Slot), (30 - i.toInt).toNat < ddloop60 → (0 ≤ i.toInt ∧ i.toInt ≤ 24) → va_P D vwCl (mX mm q jn cI x0 x1 x2 x3 x4 x5 x6 x7 x8 x9 x10 x11 x12 x13 x14 x15 x16 x17 x18 x19 x20 f0 f1 f2 f3 f4 f5 f6 f7 f8 f9 f10 f11 f12 f13 f14 f15 f16 f17 f18 f19 f20 f21 f22 f23 f24) H → va_S (va_A [] s.heap.size) s.heap H locs → lv_has ls 9 [(0, .ref mm), (1, .int a), (2, .int b), (3, .int r_1), (4, .int r_2), (5, .int d), (6, .int is1), (7, .int i)] → W p l e ({ frames := 3, cells := 0, slots := 0, locals := 65 }) s m args below meth c H locs 0 0 Q (F0 m 60 ls []) := by
                intro ddloop60
                induction ddloop60 with
                | zero =>
                  intro is1 i H locs ls hdd
                  exact absurd hdd (Nat.not_lt_zero _)
                | succ ddloop60 ih60 =>
                  intro is1 i H locs ls hdd hi hP hS hl
                  refine lv_iload hx hb dX11_turned_60 (lv_at hl 7 rfl) ?_
                  refine lv_aload_n hx hb dX11_turned_62 rfl (lv_at hl 0 rfl) ?_
                  refine va_get (D := D) (ci := 11) (v := .ref (q 0)) (C := RX11) (T := TX11) (N := 47) hx hb hts (by decide +kernel) hown hK.1 hP 0 rfl rfl 1 (by decide) (hts (.fieldLink RX11 8 "JugglingHallModel" "rows" "[I") (by decide +kernel)) (fun _ h9 => h9) rfl dX11_turned_63 ?_
                  refine lv_iload_n hx hb dX11_turned_66 rfl (lv_at hl 3 rfl) ?_
                  refine a_iald (f := f0) (u := r_1.toInt) hx hb hK.1 hP 1 0 rfl rfl dX11_turned_67 (rfl) (by omega) (fun z_13 q_13 e_13 => ?_)
                  refine a_icmp_ge (u := i.toInt) (v := z_13.toInt) (tgt := 159) hx hb dX11_turned_68 (by decide) (rfl) (rfl) (fun c_14 => ?_) (fun c_14 => ?_)
                  · refine lv_iload hx hb dX11_turned_159 (lv_at hl 6 rfl) ?_
                    refine a_if_eq (u := is1.toInt) (tgt := 167) hx hb dX11_turned_161 (by decide) (rfl) (fun c_15 => ?_) (fun c_15 => ?_)
                    · obtain ⟨z_16, q_16, e_16⟩ := i_inc (a := d.toInt) (1) (rfl) (by decide) (by omega) (by omega)
                      refine lv_iinc (v := z_16) (lv' := [(5, .int z_16), (0, .ref mm), (1, .int a), (2, .int b), (3, .int r_1), (4, .int r_2), (6, .int is1), (7, .int i)]) hx hb dX11_turned_167 hl (k := 5) rfl q_16 (by decide) rfl (fun ls hl => ?_)
                      refine lv_goto (tgt := 43) hx hb dX11_turned_170 (by decide) ?_
                      exact ih43 z_16 _ _ _ (by omega) (by first | assumption | omega) hP hS (lv_sub hl [1, 2, 3, 4, 5, 0] rfl)
                    · refine lv_iload hx hb dX11_turned_164 (lv_at hl 5 rfl) ?_
                      exact rp_iret hx hb hr hlocks hS (trivial) hQ dX11_turned_166
                  · refine lv_iload hx hb dX11_turned_71 (lv_at hl 6 rfl) ?_
                    refine a_if_eq (u := is1.toInt) (tgt := 159) hx hb dX11_turned_73 (by decide) (rfl) (fun c_17 => ?_) (fun c_17 => ?_)
                    · refine lv_iload hx hb dX11_turned_159 (lv_at hl 6 rfl) ?_
                      refine a_if_eq (u := is1.toInt) (tgt := 167) hx hb dX11_turned_161 (by decide) (rfl) (fun c_18 => ?_) (fun c_18 => ?_)
                      · obtain ⟨z_19, q_19, e_19⟩ := i_inc (a := d.toInt) (1) (rfl) (by decide) (by omega) (by omega)
                        refine lv_iinc (v := z_19) (lv' := [(5, .int z_19), (0, .ref mm), (1, .int a), (2, .int b), (3, .int r_1), (4, .int r_2), (6, .int is1), (7, .int i)]) hx hb dX11_turned_167 hl (k := 5) rfl q_19 (by decide) rfl (fun ls hl => ?_)
                        refine lv_goto (tgt := 43) hx hb dX11_turned_170 (by decide) ?_
                        exact ih43 z_19 _ _ _ (by omega) (by first | assumption | omega) hP hS (lv_sub hl [1, 2, 3, 4, 5, 0] rfl)
                      · refine lv_iload hx hb dX11_turned_164 (lv_at hl 5 rfl) ?_
                        exact rp_iret hx hb hr hlocks hS (trivial) hQ dX11_turned_166
                    · refine lv_iconst (v := 0) hx hb dX11_turned_76 (by decide) ?_
                      refine lv_istore (lv' := [(8, .int 0), (0, .ref mm), (1, .int a), (2, .int b), (3, .int r_1), (4, .int r_2), (5, .int d), (6, .int is1), (7, .int i)]) hx hb dX11_turned_77 hl (by decide) rfl (fun ls hl => ?_)
                      have loop79 : ∀ (ddloop79 : Nat) (is2 : Int32) (x : Int32) (H : Heap) (locs : List Loc) (ls : Array Slot), (10 - x.toInt).toNat < ddloop79 → (0 ≤ x.toInt ∧ x.toInt ≤ 6) → va_P D vwCl (mX mm q jn cI x0 x1 x2 x3 x4 x5 x6 x7 x8 x9 x10 x11 x12 x13 x14 x15 x16 x17 x18 x19 x20 f0 f1 f2 f3 f4 f5 f6 f7 f8 f9 f10 f11 f12 f13 f14 f15 f16 f17 f18 f19 f20 f21 f22 f23 f24) H → va_S (va_A [] s.heap.size) s.heap H locs → lv_has ls 9 [(0, .ref mm), (1, .int a), (2, .int b), (3, .int r_1), (4, .int r_2), (5, .int d), (6, .int is2), (7, .int i), (8, .int x)] → W p l e ({ frames := 3, cells := 0, slots := 0, locals := 65 }) s m args below meth c H locs 0 0 Q (F0 m 79 ls []) := by
                        intro ddloop79
                        induction ddloop79 with
                        | zero =>
                          intro is2 x H locs ls hdd
                          exact absurd hdd (Nat.not_lt_zero _)
                        | succ ddloop79 ih79 =>
                          intro is2 x H locs ls hdd hx9 hP hS hl
                          refine lv_iload hx hb dX11_turned_79 (lv_at hl 8 rfl) ?_
                          refine lv_bipush (v := 6) hx hb dX11_turned_81 (by decide) ?_
                          refine a_icmp_ge (u := x.toInt) (v := 6) (tgt := 153) hx hb dX11_turned_83 (by decide) (rfl) (by decide) (fun c_20 => ?_) (fun c_20 => ?_)
                          · obtain ⟨z_21, q_21, e_21⟩ := i_inc (a := i.toInt) (1) (rfl) (by decide) (by omega) (by omega)
                            refine lv_iinc (v := z_21) (lv' := [(7, .int z_21), (0, .ref mm), (1, .int a), (2, .int b), (3, .int r_1), (4, .int r_2), (5, .int d), (6, .int is2), (8, .int x)]) hx hb dX11_turned_153 hl (k := 7) rfl q_21 (by decide) rfl (fun ls hl => ?_)
                            refine lv_goto (tgt := 60) hx hb dX11_turned_156 (by decide) ?_
                            exact ih60 is2 z_21 _ _ _ (by omega) (by first | assumption | omega) hP hS (lv_sub hl [1, 2, 3, 4, 5, 6, 7, 0] rfl)
                          · refine lv_iload hx hb dX11_turned_86 (lv_at hl 6 rfl) ?_
                            refine a_if_eq (u := is2.toInt) (tgt := 144) hx hb dX11_turned_88 (by decide) (rfl) (fun c_22 => ?_) (fun c_22 => ?_)
                            · refine lv_iconst (v := 0) hx hb dX11_turned_144 (by decide) ?_
                              refine lv_istore (lv' := [(6, .int 0), (0, .ref mm), (1, .int a), (2, .int b), (3, .int r_1), (4, .int r_2), (5, .int d), (7, .int i), (8, .int x)]) hx hb dX11_turned_145 hl (by decide) rfl (fun ls hl => ?_)
                              obtain ⟨z_23, q_23, e_23⟩ := i_inc (a := x.toInt) (1) (rfl) (by decide) (by omega) (by omega)
                              refine lv_iinc (v := z_23) (lv' := [(8, .int z_23), (6, .int 0), (0, .ref mm), (1, .int a), (2, .int b), (3, .int r_1), (4, .int r_2), (5, .int d), (7, .int i)]) hx hb dX11_turned_147 hl (k := 8) rfl q_23 (by decide) rfl (fun ls hl => ?_)
                              refine lv_goto (tgt := 79) hx hb dX11_turned_150 (by decide) ?_
                              have hz_24 : (0 : Int32).toInt = 0 := by decide
                              exact ih79 (0 : Int32) z_23 _ _ _ (by omega) (by first | assumption | omega) hP hS (lv_sub hl [2, 3, 4, 5, 6, 7, 1, 8, 0] rfl)
                            · refine lv_aload_n hx hb dX11_turned_91 rfl (lv_at hl 0 rfl) ?_
                              refine va_get (D := D) (ci := 11) (v := .ref (q 0)) (C := RX11) (T := TX11) (N := 47) hx hb hts (by decide +kernel) hown hK.1 hP 0 rfl rfl 1 (by decide) (hts (.fieldLink RX11 8 "JugglingHallModel" "rows" "[I") (by decide +kernel)) (fun _ h9 => h9) rfl dX11_turned_92 ?_
                              refine lv_iload_n hx hb dX11_turned_95 rfl (lv_at hl 3 rfl) ?_
                              refine lv_iconst (v := 1) hx hb dX11_turned_96 (by decide) ?_
                              refine a_iadd (u := r_1.toInt) (v := 1) hx hb dX11_turned_97 (rfl) (by decide) (by omega) (fun z_25 e_25 => ?_)
                              refine lv_bipush (v := 6) hx hb dX11_turned_98 (by decide) ?_
                              refine lv_iload hx hb dX11_turned_100 (lv_at hl 7 rfl) ?_
                              refine a_imul (u := 6) (v := i.toInt) hx hb dX11_turned_102 (by decide) (rfl) (by omega) (fun z_26 e_26 => ?_)
                              refine a_iadd (u := (r_1.toInt + 1)) (v := (6 * i.toInt)) hx hb dX11_turned_103 (e_25) (e_26) (by omega) (fun z_27 e_27 => ?_)
                              refine lv_iload hx hb dX11_turned_104 (lv_at hl 8 rfl) ?_
                              refine a_iadd (u := ((r_1.toInt + 1) + (6 * i.toInt))) (v := x.toInt) hx hb dX11_turned_106 (e_27) (rfl) (by omega) (fun z_28 e_28 => ?_)
                              refine a_iald (f := f0) (u := (((r_1.toInt + 1) + (6 * i.toInt)) + x.toInt)) hx hb hK.1 hP 1 0 rfl rfl dX11_turned_107 (e_28) (by omega) (fun z_29 q_29 e_29 => ?_)
                              refine lv_aload_n hx hb dX11_turned_108 rfl (lv_at hl 0 rfl) ?_
                              refine va_get (D := D) (ci := 11) (v := .ref (q 0)) (C := RX11) (T := TX11) (N := 47) hx hb hts (by decide +kernel) hown hK.1 hP 0 rfl rfl 1 (by decide) (hts (.fieldLink RX11 8 "JugglingHallModel" "rows" "[I") (by decide +kernel)) (fun _ h9 => h9) rfl dX11_turned_109 ?_
                              refine lv_iload hx hb dX11_turned_112 (lv_at hl 4 rfl) ?_
                              refine lv_iconst (v := 1) hx hb dX11_turned_114 (by decide) ?_
                              refine a_iadd (u := r_2.toInt) (v := 1) hx hb dX11_turned_115 (rfl) (by decide) (by omega) (fun z_30 e_30 => ?_)
                              refine lv_bipush (v := 6) hx hb dX11_turned_116 (by decide) ?_
                              refine lv_iload hx hb dX11_turned_118 (lv_at hl 7 rfl) ?_
                              refine lv_iload hx hb dX11_turned_120 (lv_at hl 5 rfl) ?_
                              refine a_iadd (u := i.toInt) (v := d.toInt) hx hb dX11_turned_122 (rfl) (rfl) (by omega) (fun z_31 e_31 => ?_)
                              refine lv_aload_n hx hb dX11_turned_123 rfl (lv_at hl 0 rfl) ?_
                              refine va_get (D := D) (ci := 11) (v := .ref (q 0)) (C := RX11) (T := TX11) (N := 47) hx hb hts (by decide +kernel) hown hK.1 hP 0 rfl rfl 1 (by decide) (hts (.fieldLink RX11 8 "JugglingHallModel" "rows" "[I") (by decide +kernel)) (fun _ h9 => h9) rfl dX11_turned_124 ?_
                              refine lv_iload hx hb dX11_turned_127 (lv_at hl 4 rfl) ?_
                              refine a_iald (f := f0) (u := r_2.toInt) hx hb hK.1 hP 1 0 rfl rfl dX11_turned_129 (rfl) (by omega) (fun z_32 q_32 e_32 => ?_)
                              refine a_irem (u := (i.toInt + d.toInt)) (v := z_32.toInt) hx hb dX11_turned_130 (e_31) (rfl) (by omega) (fun z_33 e_33 h_33 k_33 => ?_)
                              refine a_imul (u := 6) (v := z_33.toInt) hx hb dX11_turned_131 (by decide) (rfl) (by omega) (fun z_34 e_34 => ?_)
                              refine a_iadd (u := (r_2.toInt + 1)) (v := (6 * z_33.toInt)) hx hb dX11_turned_132 (e_30) (e_34) (by omega) (fun z_35 e_35 => ?_)
                              refine lv_iload hx hb dX11_turned_133 (lv_at hl 8 rfl) ?_
                              refine a_iadd (u := ((r_2.toInt + 1) + (6 * z_33.toInt))) (v := x.toInt) hx hb dX11_turned_135 (e_35) (rfl) (by omega) (fun z_36 e_36 => ?_)
                              refine a_iald (f := f0) (u := (((r_2.toInt + 1) + (6 * z_33.toInt)) + x.toInt)) hx hb hK.1 hP 1 0 rfl rfl dX11_turned_136 (e_36) (by omega) (fun z_37 q_37 e_37 => ?_)
                              refine a_icmp_ne (u := z_29.toInt) (v := z_37.toInt) (tgt := 144) hx hb dX11_turned_137 (by decide) (rfl) (rfl) (fun c_38 => ?_) (fun c_38 => ?_)
                              · refine lv_iconst (v := 0) hx hb dX11_turned_144 (by decide) ?_
                                refine lv_istore (lv' := [(6, .int 0), (0, .ref mm), (1, .int a), (2, .int b), (3, .int r_1), (4, .int r_2), (5, .int d), (7, .int i), (8, .int x)]) hx hb dX11_turned_145 hl (by decide) rfl (fun ls hl => ?_)
                                obtain ⟨z_39, q_39, e_39⟩ := i_inc (a := x.toInt) (1) (rfl) (by decide) (by omega) (by omega)
                                refine lv_iinc (v := z_39) (lv' := [(8, .int z_39), (6, .int 0), (0, .ref mm), (1, .int a), (2, .int b), (3, .int r_1), (4, .int r_2), (5, .int d), (7, .int i)]) hx hb dX11_turned_147 hl (k := 8) rfl q_39 (by decide) rfl (fun ls hl => ?_)
                                refine lv_goto (tgt := 79) hx hb dX11_turned_150 (by decide) ?_
                                have hz_40 : (0 : Int32).toInt = 0 := by decide
                                exact ih79 (0 : Int32) z_39 _ _ _ (by omega) (by first | assumption | omega) hP hS (lv_sub hl [2, 3, 4, 5, 6, 7, 1, 8, 0] rfl)
                              · refine lv_iconst (v := 1) hx hb dX11_turned_140 (by decide) ?_
                                refine lv_goto (tgt := 145) hx hb dX11_turned_141 (by decide) ?_
                                refine lv_istore (lv' := [(6, .int 1), (0, .ref mm), (1, .int a), (2, .int b), (3, .int r_1), (4, .int r_2), (5, .int d), (7, .int i), (8, .int x)]) hx hb dX11_turned_145 hl (by decide) rfl (fun ls hl => ?_)
                                obtain ⟨z_41, q_41, e_41⟩ := i_inc (a := x.toInt) (1) (rfl) (by decide) (by omega) (by omega)
                                refine lv_iinc (v := z_41) (lv' := [(8, .int z_41), (6, .int 1), (0, .ref mm), (1, .int a), (2, .int b), (3, .int r_1), (4, .int r_2), (5, .int d), (7, .int i)]) hx hb dX11_turned_147 hl (k := 8) rfl q_41 (by decide) rfl (fun ls hl => ?_)
                                refine lv_goto (tgt := 79) hx hb dX11_turned_150 (by decide) ?_
                                have hz_42 : (1 : Int32).toInt = 1 := by decide
                                exact ih79 (1 : Int32) z_41 _ _ _ (by omega) (by first | assumption | omega) hP hS (lv_sub hl [2, 3, 4, 5, 6, 7, 1, 8, 0] rfl)
                      have hz_43 : (0 : Int32).toInt = 0 := by decide
                      exact loop79 ((10 - (0 : Int32).toInt).toNat + 1) is1 (0 : Int32) _ _ _ (by omega) (by first | assumption | omega) hP hS (lv_sub hl [1, 2, 3, 4, 5, 6, 7, 8, 0] rfl)
              have hz_44 : (1 : Int32).toInt = 1 := by decide
              have hz_45 : (0 : Int32).toInt = 0 := by decide
              exact loop60 ((30 - (0 : Int32).toInt).toNat + 1) (1 : Int32) (0 : Int32) _ _ _ (by omega) (by first | assumption | omega) hP hS (lv_sub hl [2, 3, 4, 5, 6, 7, 1, 0] rfl)
        have hz_46 : (0 : Int32).toInt = 0 := by decide
        exact loop43 ((30 - (0 : Int32).toInt).toNat + 1) (0 : Int32) _ _ _ (by omega) (by first | assumption | omega) hP hS (lv_sub hl [3, 4, 5, 2, 1, 0] rfl)
      · refine lv_iconst (v := (-1)) hx hb dX11_turned_38 (by decide) ?_
        have hz_47 : (-1 : Int32).toInt = (-1) := by decide
        exact rp_iret hx hb hr hlocks hS (trivial) hQ dX11_turned_39
set_option maxRecDepth 100000 in
set_option maxHeartbeats 4000000 in
theorem k_weigh (l : Launch) (D : va_G) (cI cR cM : ClassId) (sz : Nat) {jn mm : Nat} {q : Nat → Nat} {x0 x1 x2 x3 x4 x5 x6 x7 x8 x9 x10 x11 x12 x13 x14 x15 x16 x17 x18 x19 x20 : Int32} {f0 f1 f2 f3 f4 f5 f6 f7 f8 f9 f10 f11 f12 f13 f14 f15 f16 f17 f18 f19 f20 f21 f22 f23 f24 : Nat → Int32} {a : Int32}  (hj : 1 ≤ jn ∧ jn ≤ 3) (hrow9 : IsRow jn f0 a.toInt) : Met l yX11_weigh wsX11_weigh ({ frames := 1, cells := 0, slots := 0, locals := 24 }) (P0 D cI cR cM [.ref mm, .int a] sz (mX mm q jn cI x0 x1 x2 x3 x4 x5 x6 x7 x8 x9 x10 x11 x12 x13 x14 x15 x16 x17 x18 x19 x20 f0 f1 f2 f3 f4 f5 f6 f7 f8 f9 f10 f11 f12 f13 f14 f15 f16 f17 f18 f19 f20 f21 f22 f23 f24)) (QG (S := Int32 × Int32 × (Nat → Int32)) (fun u => none) (fun u => mX mm q jn cI x0 x1 x2 x3 x4 x5 x6 x7 x8 x9 x10 x11 x12 x13 x14 (u.1) (u.2.1) x17 x18 x19 x20 f0 f1 f2 f3 f4 f5 f6 f7 f8 f9 f10 f11 (u.2.2) f13 f14 f15 f16 f17 f18 f19 f20 f21 f22 f23 f24) (fun u => (-1 ≤ u.1.toInt ∧ u.1.toInt ≤ 71) ∧ (0 ≤ u.2.1.toInt ∧ u.2.1.toInt ≤ 10000)) D (va_A (mX mm q jn cI x0 x1 x2 x3 x4 x5 x6 x7 x8 x9 x10 x11 x12 x13 x14 x15 x16 x17 x18 x19 x20 f0 f1 f2 f3 f4 f5 f6 f7 f8 f9 f10 f11 f12 f13 f14 f15 f16 f17 f18 f19 f20 f21 f22 f23 f24) sz)) 0 0 (va_A (mX mm q jn cI x0 x1 x2 x3 x4 x5 x6 x7 x8 x9 x10 x11 x12 x13 x14 x15 x16 x17 x18 x19 x20 f0 f1 f2 f3 f4 f5 f6 f7 f8 f9 f10 f11 f12 f13 f14 f15 f16 f17 f18 f19 f20 f21 f22 f23 f24) sz) := by
  refine go (cc := cX11_weigh) (maxL := 6) (ret := none) (by decide) rfl (Nat.le_of_ble_eq_true rfl) ?_
  intro p e s m below meth c ls args Q hQ hsz hx hb hr hml hts hown hlocks hnm hP hK hD hl
  subst hsz
  have hD := hD.self (sz := s.heap.size)
  generalize hAe : va_A (mX mm q jn cI x0 x1 x2 x3 x4 x5 x6 x7 x8 x9 x10 x11 x12 x13 x14 x15 x16 x17 x18 x19 x20 f0 f1 f2 f3 f4 f5 f6 f7 f8 f9 f10 f11 f12 f13 f14 f15 f16 f17 f18 f19 f20 f21 f22 f23 f24) s.heap.size = A at hD hQ
  have hA : ∀ q, s.heap.size ≤ q → A q := fun q h => by rw [← hAe]; exact Or.inr h
  have hS : va_S A s.heap s.heap [] := va_S.rf
  have hl : lv_has ls 6 [(0, .ref mm), (1, .int a)] := hl
  have hr0 := hrow9
  obtain ⟨hr1, hr2, hr3, hr4, hr5, hr6⟩ := hrow9
  refine lv_aload_n hx hb dX11_weigh_0 rfl (lv_at hl 0 rfl) ?_
  refine va_get (D := D) (ci := 11) (v := .ref (q 0)) (C := RX11) (T := TX11) (N := 47) hx hb hts (by decide +kernel) hown hK.1 hP 0 rfl rfl 1 (by decide) (hts (.fieldLink RX11 8 "JugglingHallModel" "rows" "[I") (by decide +kernel)) (fun _ h9 => h9) rfl dX11_weigh_1 ?_
  refine lv_iload_n hx hb dX11_weigh_4 rfl (lv_at hl 1 rfl) ?_
  refine a_iald (f := f0) (u := a.toInt) hx hb hK.1 hP 1 0 rfl rfl dX11_weigh_5 (rfl) (by omega) (fun z_1 q_1 e_1 => ?_)
  refine lv_istore_n (lv' := [(2, .int z_1), (0, .ref mm), (1, .int a)]) hx hb dX11_weigh_6 rfl hl (by decide) rfl (fun ls hl => ?_)
  refine lv_iconst (v := 0) hx hb dX11_weigh_7 (by decide) ?_
  refine lv_istore_n (lv' := [(3, .int 0), (2, .int z_1), (0, .ref mm), (1, .int a)]) hx hb dX11_weigh_8 rfl hl (by decide) rfl (fun ls hl => ?_)
  have loop9 : ∀ (ddloop9 : Nat) (k : Int32) (ga : (Nat → Int32)) (H : Heap) (locs : List Loc) (ls : Array Slot), (100 - k.toInt).toNat < ddloop9 → (0 ≤ k.toInt ∧ k.toInt ≤ 72) → va_P D vwCl (mX mm q jn cI x0 x1 x2 x3 x4 x5 x6 x7 x8 x9 x10 x11 x12 x13 x14 x15 x16 x17 x18 x19 x20 f0 f1 f2 f3 f4 f5 f6 f7 f8 f9 f10 f11 ga f13 f14 f15 f16 f17 f18 f19 f20 f21 f22 f23 f24) H → va_D A (mX mm q jn cI x0 x1 x2 x3 x4 x5 x6 x7 x8 x9 x10 x11 x12 x13 x14 x15 x16 x17 x18 x19 x20 f0 f1 f2 f3 f4 f5 f6 f7 f8 f9 f10 f11 ga f13 f14 f15 f16 f17 f18 f19 f20 f21 f22 f23 f24) → va_S A s.heap H locs → lv_has ls 6 [(0, .ref mm), (1, .int a), (2, .int z_1), (3, .int k)] → W p l e ({ frames := 1, cells := 0, slots := 0, locals := 24 }) s m args below meth c H locs 0 0 Q (F0 m 9 ls []) := by
    intro ddloop9
    induction ddloop9 with
    | zero =>
      intro k ga H locs ls hdd
      exact absurd hdd (Nat.not_lt_zero _)
    | succ ddloop9 ih9 =>
      intro k ga H locs ls hdd hk hP hD hS hl
      refine lv_iload_n hx hb dX11_weigh_9 rfl (lv_at hl 3 rfl) ?_
      refine lv_iconst (v := 3) hx hb dX11_weigh_10 (by decide) ?_
      refine lv_iload_n hx hb dX11_weigh_11 rfl (lv_at hl 2 rfl) ?_
      refine a_imul (u := 3) (v := z_1.toInt) hx hb dX11_weigh_12 (by decide) (rfl) (by omega) (fun z_2 e_2 => ?_)
      refine a_icmp_ge (u := k.toInt) (v := (3 * z_1.toInt)) (tgt := 29) hx hb dX11_weigh_13 (by decide) (rfl) (e_2) (fun c_3 => ?_) (fun c_3 => ?_)
      · refine lv_aload_n hx hb dX11_weigh_29 rfl (lv_at hl 0 rfl) ?_
        refine lv_iconst (v := 0) hx hb dX11_weigh_30 (by decide) ?_
        refine mp_16 hx hb hts (by decide +kernel) hown hK hP hD hS (hts (.fieldLink RX11 246 "JugglingHallModel" "sum" "I") (by decide +kernel)) dX11_weigh_31 (fun H locs hP hD hS => ?_)
        refine lv_iconst (v := 0) hx hb dX11_weigh_34 (by decide) ?_
        refine lv_istore_n (lv' := [(3, .int 0), (0, .ref mm), (1, .int a), (2, .int z_1)]) hx hb dX11_weigh_35 rfl hl (by decide) rfl (fun ls hl => ?_)
        have loop36 : ∀ (ddloop36 : Nat) (i : Int32) (s6 : Int32) (gb : (Nat → Int32)) (H : Heap) (locs : List Loc) (ls : Array Slot), (30 - i.toInt).toNat < ddloop36 → (0 ≤ i.toInt ∧ i.toInt ≤ 24) → (0 ≤ s6.toInt ∧ s6.toInt ≤ 60 * i.toInt) → va_P D vwCl (mX mm q jn cI x0 x1 x2 x3 x4 x5 x6 x7 x8 x9 x10 x11 x12 x13 x14 x15 s6 x17 x18 x19 x20 f0 f1 f2 f3 f4 f5 f6 f7 f8 f9 f10 f11 gb f13 f14 f15 f16 f17 f18 f19 f20 f21 f22 f23 f24) H → va_D A (mX mm q jn cI x0 x1 x2 x3 x4 x5 x6 x7 x8 x9 x10 x11 x12 x13 x14 x15 s6 x17 x18 x19 x20 f0 f1 f2 f3 f4 f5 f6 f7 f8 f9 f10 f11 gb f13 f14 f15 f16 f17 f18 f19 f20 f21 f22 f23 f24) → va_S A s.heap H locs → lv_has ls 6 [(0, .ref mm), (1, .int a), (2, .int z_1), (3, .int i)] → W p l e ({ frames := 1, cells := 0, slots := 0, locals := 24 }) s m args below meth c H locs 0 0 Q (F0 m 36 ls []) := by
          intro ddloop36
          induction ddloop36 with
          | zero =>
            intro i s6 gb H locs ls hdd
            exact absurd hdd (Nat.not_lt_zero _)
          | succ ddloop36 ih36 =>
            intro i s6 gb H locs ls hdd hi hs6 hP hD hS hl
            refine lv_iload_n hx hb dX11_weigh_36 rfl (lv_at hl 3 rfl) ?_
            refine lv_iload_n hx hb dX11_weigh_37 rfl (lv_at hl 2 rfl) ?_
            refine a_icmp_ge (u := i.toInt) (v := z_1.toInt) (tgt := 147) hx hb dX11_weigh_38 (by decide) (rfl) (rfl) (fun c_4 => ?_) (fun c_4 => ?_)
            · refine lv_aload_n hx hb dX11_weigh_147 rfl (lv_at hl 0 rfl) ?_
              refine lv_iconst (v := (-1)) hx hb dX11_weigh_148 (by decide) ?_
              refine mp_15 hx hb hts (by decide +kernel) hown hK hP hD hS (hts (.fieldLink RX11 249 "JugglingHallModel" "bad" "I") (by decide +kernel)) dX11_weigh_149 (fun H locs hP hD hS => ?_)
              refine lv_iconst (v := 3) hx hb dX11_weigh_152 (by decide) ?_
              refine lv_iload_n hx hb dX11_weigh_153 rfl (lv_at hl 2 rfl) ?_
              refine a_imul (u := 3) (v := z_1.toInt) hx hb dX11_weigh_154 (by decide) (rfl) (by omega) (fun z_5 e_5 => ?_)
              refine lv_iconst (v := 1) hx hb dX11_weigh_155 (by decide) ?_
              refine a_isub (u := (3 * z_1.toInt)) (v := 1) hx hb dX11_weigh_156 (e_5) (by decide) (by omega) (fun z_6 e_6 => ?_)
              refine lv_istore_n (lv' := [(3, .int z_6), (0, .ref mm), (1, .int a), (2, .int z_1)]) hx hb dX11_weigh_157 rfl hl (by decide) rfl (fun ls hl => ?_)
              have loop158 : ∀ (ddloop158 : Nat) (k2 : Int32) (b5 : Int32) (H : Heap) (locs : List Loc) (ls : Array Slot), (k2.toInt + 2).toNat < ddloop158 → (-1 ≤ k2.toInt ∧ k2.toInt ≤ 71) → (-1 ≤ b5.toInt ∧ b5.toInt ≤ 71) → va_P D vwCl (mX mm q jn cI x0 x1 x2 x3 x4 x5 x6 x7 x8 x9 x10 x11 x12 x13 x14 b5 s6 x17 x18 x19 x20 f0 f1 f2 f3 f4 f5 f6 f7 f8 f9 f10 f11 gb f13 f14 f15 f16 f17 f18 f19 f20 f21 f22 f23 f24) H → va_D A (mX mm q jn cI x0 x1 x2 x3 x4 x5 x6 x7 x8 x9 x10 x11 x12 x13 x14 b5 s6 x17 x18 x19 x20 f0 f1 f2 f3 f4 f5 f6 f7 f8 f9 f10 f11 gb f13 f14 f15 f16 f17 f18 f19 f20 f21 f22 f23 f24) → va_S A s.heap H locs → lv_has ls 6 [(0, .ref mm), (1, .int a), (2, .int z_1), (3, .int k2)] → W p l e ({ frames := 1, cells := 0, slots := 0, locals := 24 }) s m args below meth c H locs 0 0 Q (F0 m 158 ls []) := by
                intro ddloop158
                induction ddloop158 with
                | zero =>
                  intro k2 b5 H locs ls hdd
                  exact absurd hdd (Nat.not_lt_zero _)
                | succ ddloop158 ih158 =>
                  intro k2 b5 H locs ls hdd hk2 hb5 hP hD hS hl
                  refine lv_iload_n hx hb dX11_weigh_158 rfl (lv_at hl 3 rfl) ?_
                  refine a_if_lt (u := k2.toInt) (tgt := 182) hx hb dX11_weigh_159 (by decide) (rfl) (fun c_7 => ?_) (fun c_7 => ?_)
                  · exact g_vret (b5, s6, gb) hx hb hr hlocks hS rfl (⟨show -1 ≤ b5.toInt ∧ b5.toInt ≤ 71 from (by first | assumption | omega), show 0 ≤ s6.toInt ∧ s6.toInt ≤ 10000 from (by first | assumption | omega)⟩) hP hD hQ (Nat.le_of_ble_eq_true rfl) (Nat.le_of_ble_eq_true rfl) dX11_weigh_182
                  · refine lv_aload_n hx hb dX11_weigh_162 rfl (lv_at hl 0 rfl) ?_
                    refine va_get (D := D) (ci := 11) (v := .ref (q 12)) (C := RX11) (T := TX11) (N := 47) hx hb hts (by decide +kernel) hown hK.1 hP 0 rfl rfl 30 (by decide) (hts (.fieldLink RX11 54 "JugglingHallModel" "lands" "[I") (by decide +kernel)) (fun _ h9 => h9) rfl dX11_weigh_163 ?_
                    refine lv_iload_n hx hb dX11_weigh_166 rfl (lv_at hl 3 rfl) ?_
                    refine a_iald (f := gb) (u := k2.toInt) hx hb hK.1 hP 13 0 rfl rfl dX11_weigh_167 (rfl) (by omega) (fun z_8 q_8 e_8 => ?_)
                    refine a_if_eq (u := z_8.toInt) (tgt := 176) hx hb dX11_weigh_168 (by decide) (rfl) (fun c_9 => ?_) (fun c_9 => ?_)
                    · obtain ⟨z_10, q_10, e_10⟩ := i_inc (a := k2.toInt) (-1) (rfl) (by decide) (by omega) (by omega)
                      refine lv_iinc (v := z_10) (lv' := [(3, .int z_10), (0, .ref mm), (1, .int a), (2, .int z_1)]) hx hb dX11_weigh_176 hl (k := 3) rfl q_10 (by decide) rfl (fun ls hl => ?_)
                      refine lv_goto (tgt := 158) hx hb dX11_weigh_179 (by decide) ?_
                      exact ih158 z_10 b5 _ _ _ (by omega) (by first | assumption | omega) (by first | assumption | omega) hP hD hS (lv_sub hl [1, 2, 3, 0] rfl)
                    · refine lv_aload_n hx hb dX11_weigh_171 rfl (lv_at hl 0 rfl) ?_
                      refine lv_iload_n hx hb dX11_weigh_172 rfl (lv_at hl 3 rfl) ?_
                      refine mp_15 hx hb hts (by decide +kernel) hown hK hP hD hS (hts (.fieldLink RX11 249 "JugglingHallModel" "bad" "I") (by decide +kernel)) dX11_weigh_173 (fun H locs hP hD hS => ?_)
                      obtain ⟨z_11, q_11, e_11⟩ := i_inc (a := k2.toInt) (-1) (rfl) (by decide) (by omega) (by omega)
                      refine lv_iinc (v := z_11) (lv' := [(3, .int z_11), (0, .ref mm), (1, .int a), (2, .int z_1)]) hx hb dX11_weigh_176 hl (k := 3) rfl q_11 (by decide) rfl (fun ls hl => ?_)
                      refine lv_goto (tgt := 158) hx hb dX11_weigh_179 (by decide) ?_
                      exact ih158 z_11 k2 _ _ _ (by omega) (by first | assumption | omega) (by first | assumption | omega) hP hD hS (lv_sub hl [1, 2, 3, 0] rfl)
              have hz_12 : (-1 : Int32).toInt = (-1) := by decide
              exact loop158 ((z_6.toInt + 2).toNat + 1) z_6 (-1 : Int32) _ _ _ (by omega) (by first | assumption | omega) (by first | assumption | omega) hP hD hS (lv_sub hl [1, 2, 3, 0] rfl)
            · refine lv_iconst (v := 0) hx hb dX11_weigh_41 (by decide) ?_
              refine lv_istore (lv' := [(4, .int 0), (0, .ref mm), (1, .int a), (2, .int z_1), (3, .int i)]) hx hb dX11_weigh_42 hl (by decide) rfl (fun ls hl => ?_)
              have loop44 : ∀ (ddloop44 : Nat) (x : Int32) (s7 : Int32) (gc : (Nat → Int32)) (H : Heap) (locs : List Loc) (ls : Array Slot), (10 - x.toInt).toNat < ddloop44 → (0 ≤ x.toInt ∧ x.toInt ≤ 6) → (0 ≤ s7.toInt ∧ s7.toInt ≤ 60 * i.toInt + 10 * x.toInt) → va_P D vwCl (mX mm q jn cI x0 x1 x2 x3 x4 x5 x6 x7 x8 x9 x10 x11 x12 x13 x14 x15 s7 x17 x18 x19 x20 f0 f1 f2 f3 f4 f5 f6 f7 f8 f9 f10 f11 gc f13 f14 f15 f16 f17 f18 f19 f20 f21 f22 f23 f24) H → va_D A (mX mm q jn cI x0 x1 x2 x3 x4 x5 x6 x7 x8 x9 x10 x11 x12 x13 x14 x15 s7 x17 x18 x19 x20 f0 f1 f2 f3 f4 f5 f6 f7 f8 f9 f10 f11 gc f13 f14 f15 f16 f17 f18 f19 f20 f21 f22 f23 f24) → va_S A s.heap H locs → lv_has ls 6 [(0, .ref mm), (1, .int a), (2, .int z_1), (3, .int i), (4, .int x)] → W p l e ({ frames := 1, cells := 0, slots := 0, locals := 24 }) s m args below meth c H locs 0 0 Q (F0 m 44 ls []) := by
                intro ddloop44
                induction ddloop44 with
                | zero =>
                  intro x s7 gc H locs ls hdd
                  exact absurd hdd (Nat.not_lt_zero _)
                | succ ddloop44 ih44 =>
                  intro x s7 gc H locs ls hdd hx9 hs7 hP hD hS hl
                  refine lv_iload hx hb dX11_weigh_44 (lv_at hl 4 rfl) ?_
                  refine lv_bipush (v := 6) hx hb dX11_weigh_46 (by decide) ?_
                  refine a_icmp_ge (u := x.toInt) (v := 6) (tgt := 141) hx hb dX11_weigh_48 (by decide) (rfl) (by decide) (fun c_13 => ?_) (fun c_13 => ?_)
                  · obtain ⟨z_14, q_14, e_14⟩ := i_inc (a := i.toInt) (1) (rfl) (by decide) (by omega) (by omega)
                    refine lv_iinc (v := z_14) (lv' := [(3, .int z_14), (0, .ref mm), (1, .int a), (2, .int z_1), (4, .int x)]) hx hb dX11_weigh_141 hl (k := 3) rfl q_14 (by decide) rfl (fun ls hl => ?_)
                    refine lv_goto (tgt := 36) hx hb dX11_weigh_144 (by decide) ?_
                    exact ih36 z_14 s7 gc _ _ _ (by omega) (by first | assumption | omega) (by first | assumption | omega) hP hD hS (lv_sub hl [1, 2, 3, 0] rfl)
                  · refine lv_aload_n hx hb dX11_weigh_51 rfl (lv_at hl 0 rfl) ?_
                    refine lv_iload_n hx hb dX11_weigh_52 rfl (lv_at hl 1 rfl) ?_
                    refine lv_iload_n hx hb dX11_weigh_53 rfl (lv_at hl 3 rfl) ?_
                    refine lv_iload hx hb dX11_weigh_54 (lv_at hl 4 rfl) ?_
                    refine lv_iconst (v := 2) hx hb dX11_weigh_56 (by decide) ?_
                    refine a_idiv (u := x.toInt) (v := 2) hx hb dX11_weigh_57 (rfl) (by decide) (by omega) (fun z_15 e_15 => ?_)
                    refine lv_iload hx hb dX11_weigh_58 (lv_at hl 4 rfl) ?_
                    refine lv_iconst (v := 2) hx hb dX11_weigh_60 (by decide) ?_
                    refine a_irem (u := x.toInt) (v := 2) hx hb dX11_weigh_61 (rfl) (by decide) (by omega) (fun z_16 e_16 h_16 k_16 => ?_)
                    refine roP (va_runV (As := [.int a, .int i, .int z_15, .int z_16]) (rest := []) ⟨hx, hb, hml, hown, hts⟩ (k_heightAt2 l D cI cR cM _  (by first | assumption | omega) (hr0) (by first | assumption | omega) (by first | assumption | omega) (by first | assumption | omega)) (cwV 4 hts gX11_weigh_X11_heightAt rfl rfl rfl (by decide +kernel) ⟨Nat.le_of_ble_eq_true rfl, Nat.le_of_ble_eq_true rfl⟩) (pre_V hK hP hD 0 11 rfl rfl) rfl rfl hl.1 rfl (lv_room (Nat.le_of_ble_eq_true rfl)) dX11_weigh_62 ⟨Nat.le_of_ble_eq_true rfl, Nat.le_of_ble_eq_true rfl⟩) hS hA hP (fun r_17 H locs hw hP hS => ?_)
                    obtain ⟨h_17, hx_17⟩ : (0 ≤ r_17.toInt ∧ r_17.toInt ≤ 9) ∧ (r_17.toInt = (f0 (a.toInt + 1 + 6 * i.toInt + 2 * z_15.toInt + z_16.toInt).toNat).toInt / 4) := hw
                    refine lv_istore (lv' := [(5, .int r_17), (0, .ref mm), (1, .int a), (2, .int z_1), (3, .int i), (4, .int x)]) hx hb dX11_weigh_65 hl (by decide) rfl (fun ls hl => ?_)
                    refine lv_iload hx hb dX11_weigh_67 (lv_at hl 0 rfl) ?_
                    refine a_if_ne (u := r_17.toInt) (tgt := 75) hx hb dX11_weigh_69 (by decide) (rfl) (fun c_18 => ?_) (fun c_18 => ?_)
                    · refine lv_aload_n hx hb dX11_weigh_75 rfl (lv_at hl 1 rfl) ?_
                      refine lv_dup hx hb dX11_weigh_76 rfl ?_
                      refine va_get (D := D) (ci := 11) (v := .int s7) (C := RX11) (T := TX11) (N := 47) hx hb hts (by decide +kernel) hown hK.1 hP 0 rfl rfl 29 (by decide) (hts (.fieldLink RX11 246 "JugglingHallModel" "sum" "I") (by decide +kernel)) (fun _ h9 => h9) rfl dX11_weigh_77 ?_
                      refine lv_iload hx hb dX11_weigh_80 (lv_at hl 0 rfl) ?_
                      refine a_iadd (u := s7.toInt) (v := r_17.toInt) hx hb dX11_weigh_82 (rfl) (rfl) (by omega) (fun z_19 e_19 => ?_)
                      refine mp_16 hx hb hts (by decide +kernel) hown hK hP hD hS (hts (.fieldLink RX11 246 "JugglingHallModel" "sum" "I") (by decide +kernel)) dX11_weigh_83 (fun H locs hP hD hS => ?_)
                      refine lv_aload_n hx hb dX11_weigh_86 rfl (lv_at hl 1 rfl) ?_
                      refine va_get (D := D) (ci := 11) (v := .ref (q 12)) (C := RX11) (T := TX11) (N := 47) hx hb hts (by decide +kernel) hown hK.1 hP 0 rfl rfl 30 (by decide) (hts (.fieldLink RX11 54 "JugglingHallModel" "lands" "[I") (by decide +kernel)) (fun _ h9 => h9) rfl dX11_weigh_87 ?_
                      refine lv_iconst (v := 3) hx hb dX11_weigh_90 (by decide) ?_
                      refine lv_iload_n hx hb dX11_weigh_91 rfl (lv_at hl 4 rfl) ?_
                      refine a_imul (u := 3) (v := i.toInt) hx hb dX11_weigh_92 (by decide) (rfl) (by omega) (fun z_20 e_20 => ?_)
                      refine lv_iload hx hb dX11_weigh_93 (lv_at hl 5 rfl) ?_
                      refine lv_iconst (v := 2) hx hb dX11_weigh_95 (by decide) ?_
                      refine a_idiv (u := x.toInt) (v := 2) hx hb dX11_weigh_96 (rfl) (by decide) (by omega) (fun z_21 e_21 => ?_)
                      refine a_iadd (u := (3 * i.toInt)) (v := (x.toInt / 2)) hx hb dX11_weigh_97 (e_20) (e_21) (by omega) (fun z_22 e_22 => ?_)
                      refine lv_dup2_11 hx hb dX11_weigh_98 rfl rfl ?_
                      refine a_iald (f := gc) (u := ((3 * i.toInt) + (x.toInt / 2))) hx hb hK.1 hP 13 0 rfl rfl dX11_weigh_99 (e_22) (by omega) (fun z_23 q_23 e_23 => ?_)
                      refine lv_iconst (v := 1) hx hb dX11_weigh_100 (by decide) ?_
                      refine lv_isub hx hb dX11_weigh_101 ?_
                      refine lv_topi (fun z_24 q_24 => ?_)
                      refine ma_12 (u := ((3 * i.toInt) + (x.toInt / 2))) hx hb hK hP hD hS dX11_weigh_102 (e_22) (by omega) (fun g_25 H locs eg_25 hP hD hS => ?_)
                      refine lv_aload_n hx hb dX11_weigh_103 rfl (lv_at hl 1 rfl) ?_
                      refine va_get (D := D) (ci := 11) (v := .ref (q 12)) (C := RX11) (T := TX11) (N := 47) hx hb hts (by decide +kernel) hown hK.1 hP 0 rfl rfl 30 (by decide) (hts (.fieldLink RX11 54 "JugglingHallModel" "lands" "[I") (by decide +kernel)) (fun _ h9 => h9) rfl dX11_weigh_104 ?_
                      refine lv_iconst (v := 3) hx hb dX11_weigh_107 (by decide) ?_
                      refine lv_iload_n hx hb dX11_weigh_108 rfl (lv_at hl 4 rfl) ?_
                      refine lv_iload hx hb dX11_weigh_109 (lv_at hl 0 rfl) ?_
                      refine a_iadd (u := i.toInt) (v := r_17.toInt) hx hb dX11_weigh_111 (rfl) (rfl) (by omega) (fun z_26 e_26 => ?_)
                      refine lv_iload_n hx hb dX11_weigh_112 rfl (lv_at hl 3 rfl) ?_
                      refine a_irem (u := (i.toInt + r_17.toInt)) (v := z_1.toInt) hx hb dX11_weigh_113 (e_26) (rfl) (by omega) (fun z_27 e_27 h_27 k_27 => ?_)
                      refine a_imul (u := 3) (v := z_27.toInt) hx hb dX11_weigh_114 (by decide) (rfl) (by omega) (fun z_28 e_28 => ?_)
                      refine lv_aload_n hx hb dX11_weigh_115 rfl (lv_at hl 1 rfl) ?_
                      refine lv_iload_n hx hb dX11_weigh_116 rfl (lv_at hl 2 rfl) ?_
                      refine lv_iload_n hx hb dX11_weigh_117 rfl (lv_at hl 4 rfl) ?_
                      refine lv_iload hx hb dX11_weigh_118 (lv_at hl 5 rfl) ?_
                      refine lv_iconst (v := 2) hx hb dX11_weigh_120 (by decide) ?_
                      refine a_idiv (u := x.toInt) (v := 2) hx hb dX11_weigh_121 (rfl) (by decide) (by omega) (fun z_29 e_29 => ?_)
                      refine lv_iload hx hb dX11_weigh_122 (lv_at hl 5 rfl) ?_
                      refine lv_iconst (v := 2) hx hb dX11_weigh_124 (by decide) ?_
                      refine a_irem (u := x.toInt) (v := 2) hx hb dX11_weigh_125 (rfl) (by decide) (by omega) (fun z_30 e_30 h_30 k_30 => ?_)
                      refine roP (va_runV (As := [.int a, .int i, .int z_29, .int z_30]) (rest := [.int z_28, .ref (q 12)]) ⟨hx, hb, hml, hown, hts⟩ (k_toAt2 l D cI cR cM _  (by first | assumption | omega) (hr0) (by first | assumption | omega) (by first | assumption | omega) (by first | assumption | omega)) (cwV 4 hts gX11_weigh_X11_toAt rfl rfl rfl (by decide +kernel) ⟨Nat.le_of_ble_eq_true rfl, Nat.le_of_ble_eq_true rfl⟩) (pre_V hK hP hD 0 11 rfl rfl) rfl rfl hl.1 rfl (lv_room (Nat.le_of_ble_eq_true rfl)) dX11_weigh_126 ⟨Nat.le_of_ble_eq_true rfl, Nat.le_of_ble_eq_true rfl⟩) hS hA hP (fun r_31 H locs hw hP hS => ?_)
                      obtain ⟨h_31, hx_31⟩ : (0 ≤ r_31.toInt ∧ r_31.toInt < (jn : Int)) ∧ (r_31.toInt = (f0 (a.toInt + 1 + 6 * i.toInt + 2 * z_29.toInt + z_30.toInt).toNat).toInt % 4) := hw
                      refine a_iadd (u := (3 * z_27.toInt)) (v := r_31.toInt) hx hb dX11_weigh_129 (e_28) (rfl) (by omega) (fun z_32 e_32 => ?_)
                      refine lv_dup2_11 hx hb dX11_weigh_130 rfl rfl ?_
                      refine a_iald (f := g_25) (u := ((3 * z_27.toInt) + r_31.toInt)) hx hb hK.1 hP 13 0 rfl rfl dX11_weigh_131 (e_32) (by omega) (fun z_33 q_33 e_33 => ?_)
                      refine lv_iconst (v := 1) hx hb dX11_weigh_132 (by decide) ?_
                      refine lv_iadd hx hb dX11_weigh_133 ?_
                      refine lv_topi (fun z_34 q_34 => ?_)
                      refine ma_12 (u := ((3 * z_27.toInt) + r_31.toInt)) hx hb hK hP hD hS dX11_weigh_134 (e_32) (by omega) (fun g_35 H locs eg_35 hP hD hS => ?_)
                      obtain ⟨z_36, q_36, e_36⟩ := i_inc (a := x.toInt) (1) (rfl) (by decide) (by omega) (by omega)
                      refine lv_iinc (v := z_36) (lv' := [(4, .int z_36), (5, .int r_17), (0, .ref mm), (1, .int a), (2, .int z_1), (3, .int i)]) hx hb dX11_weigh_135 hl (k := 5) rfl q_36 (by decide) rfl (fun ls hl => ?_)
                      refine lv_goto (tgt := 44) hx hb dX11_weigh_138 (by decide) ?_
                      exact ih44 z_36 z_19 g_35 _ _ _ (by omega) (by first | assumption | omega) (by first | assumption | omega) hP hD hS (lv_sub hl [2, 3, 4, 5, 0] rfl)
                    · refine lv_goto (tgt := 135) hx hb dX11_weigh_72 (by decide) ?_
                      obtain ⟨z_37, q_37, e_37⟩ := i_inc (a := x.toInt) (1) (rfl) (by decide) (by omega) (by omega)
                      refine lv_iinc (v := z_37) (lv' := [(4, .int z_37), (5, .int r_17), (0, .ref mm), (1, .int a), (2, .int z_1), (3, .int i)]) hx hb dX11_weigh_135 hl (k := 5) rfl q_37 (by decide) rfl (fun ls hl => ?_)
                      refine lv_goto (tgt := 44) hx hb dX11_weigh_138 (by decide) ?_
                      exact ih44 z_37 s7 gc _ _ _ (by omega) (by first | assumption | omega) (by first | assumption | omega) hP hD hS (lv_sub hl [2, 3, 4, 5, 0] rfl)
              have hz_38 : (0 : Int32).toInt = 0 := by decide
              exact loop44 ((10 - (0 : Int32).toInt).toNat + 1) (0 : Int32) s6 gb _ _ _ (by omega) (by first | assumption | omega) (by first | assumption | omega) hP hD hS (lv_sub hl [1, 2, 3, 4, 0] rfl)
        have hz_39 : (0 : Int32).toInt = 0 := by decide
        have hz_40 : (0 : Int32).toInt = 0 := by decide
        exact loop36 ((30 - (0 : Int32).toInt).toNat + 1) (0 : Int32) (0 : Int32) ga _ _ _ (by omega) (by first | assumption | omega) (by first | assumption | omega) hP hD hS (lv_sub hl [1, 2, 3, 0] rfl)
      · refine lv_aload_n hx hb dX11_weigh_16 rfl (lv_at hl 0 rfl) ?_
        refine va_get (D := D) (ci := 11) (v := .ref (q 12)) (C := RX11) (T := TX11) (N := 47) hx hb hts (by decide +kernel) hown hK.1 hP 0 rfl rfl 30 (by decide) (hts (.fieldLink RX11 54 "JugglingHallModel" "lands" "[I") (by decide +kernel)) (fun _ h9 => h9) rfl dX11_weigh_17 ?_
        refine lv_iload_n hx hb dX11_weigh_20 rfl (lv_at hl 3 rfl) ?_
        refine lv_iconst (v := 0) hx hb dX11_weigh_21 (by decide) ?_
        refine ma_12 (u := k.toInt) hx hb hK hP hD hS dX11_weigh_22 (rfl) (by omega) (fun g_41 H locs eg_41 hP hD hS => ?_)
        obtain ⟨z_42, q_42, e_42⟩ := i_inc (a := k.toInt) (1) (rfl) (by decide) (by omega) (by omega)
        refine lv_iinc (v := z_42) (lv' := [(3, .int z_42), (0, .ref mm), (1, .int a), (2, .int z_1)]) hx hb dX11_weigh_23 hl (k := 3) rfl q_42 (by decide) rfl (fun ls hl => ?_)
        refine lv_goto (tgt := 9) hx hb dX11_weigh_26 (by decide) ?_
        exact ih9 z_42 g_41 _ _ _ (by omega) (by first | assumption | omega) hP hD hS (lv_sub hl [1, 2, 3, 0] rfl)
  have hz_43 : (0 : Int32).toInt = 0 := by decide
  exact loop9 ((100 - (0 : Int32).toInt).toNat + 1) (0 : Int32) f12 _ _ _ (by omega) (by first | assumption | omega) hP hD hS (lv_sub hl [2, 3, 1, 0] rfl)
set_option maxRecDepth 100000 in
set_option maxHeartbeats 4000000 in
theorem k_isGood (l : Launch) (D : va_G) (cI cR cM : ClassId) (sz : Nat) {jn mm : Nat} {q : Nat → Nat} {x0 x1 x2 x3 x4 x5 x6 x7 x8 x9 x10 x11 x12 x13 x14 x15 x16 x17 x18 x19 x20 : Int32} {f0 f1 f2 f3 f4 f5 f6 f7 f8 f9 f10 f11 f12 f13 f14 f15 f16 f17 f18 f19 f20 f21 f22 f23 f24 : Nat → Int32} {a : Int32}  (hj : 1 ≤ jn ∧ jn ≤ 3) (hr0 : a.toInt = -1 ∨ IsRow jn f0 a.toInt) : Met l yX11_isGood wsX11_isGood ({ frames := 2, cells := 0, slots := 0, locals := 49 }) (P0 D cI cR cM [.ref mm, .int a] sz (mX mm q jn cI x0 x1 x2 x3 x4 x5 x6 x7 x8 x9 x10 x11 x12 x13 x14 x15 x16 x17 x18 x19 x20 f0 f1 f2 f3 f4 f5 f6 f7 f8 f9 f10 f11 f12 f13 f14 f15 f16 f17 f18 f19 f20 f21 f22 f23 f24)) (QG (S := Int32 × Int32 × Int32 × (Nat → Int32)) (fun u => some (.int u.1)) (fun u => mX mm q jn cI x0 x1 x2 x3 x4 x5 x6 x7 x8 x9 x10 x11 x12 x13 x14 (u.2.1) (u.2.2.1) x17 x18 x19 x20 f0 f1 f2 f3 f4 f5 f6 f7 f8 f9 f10 f11 (u.2.2.2) f13 f14 f15 f16 f17 f18 f19 f20 f21 f22 f23 f24) (fun u => (u.1.toInt = 0 ∨ u.1.toInt = 1) ∧ (u.1.toInt = 1 → 0 ≤ a.toInt) ∧ (u.1.toInt = 1 → 0 ≤ u.2.2.1.toInt ∧ u.2.2.1.toInt ≤ 10000)) D (va_A (mX mm q jn cI x0 x1 x2 x3 x4 x5 x6 x7 x8 x9 x10 x11 x12 x13 x14 x15 x16 x17 x18 x19 x20 f0 f1 f2 f3 f4 f5 f6 f7 f8 f9 f10 f11 f12 f13 f14 f15 f16 f17 f18 f19 f20 f21 f22 f23 f24) sz)) 0 0 (va_A (mX mm q jn cI x0 x1 x2 x3 x4 x5 x6 x7 x8 x9 x10 x11 x12 x13 x14 x15 x16 x17 x18 x19 x20 f0 f1 f2 f3 f4 f5 f6 f7 f8 f9 f10 f11 f12 f13 f14 f15 f16 f17 f18 f19 f20 f21 f22 f23 f24) sz) := by
  refine go (cc := cX11_isGood) (maxL := 2) (ret := (some .boolean)) (by decide) rfl (Nat.le_of_ble_eq_true rfl) ?_
  intro p e s m below meth c ls args Q hQ hsz hx hb hr hml hts hown hlocks hnm hP hK hD hl
  subst hsz
  have hD := hD.self (sz := s.heap.size)
  generalize hAe : va_A (mX mm q jn cI x0 x1 x2 x3 x4 x5 x6 x7 x8 x9 x10 x11 x12 x13 x14 x15 x16 x17 x18 x19 x20 f0 f1 f2 f3 f4 f5 f6 f7 f8 f9 f10 f11 f12 f13 f14 f15 f16 f17 f18 f19 f20 f21 f22 f23 f24) s.heap.size = A at hD hQ
  have hA : ∀ q, s.heap.size ≤ q → A q := fun q h => by rw [← hAe]; exact Or.inr h
  have hS : va_S A s.heap s.heap [] := va_S.rf
  have hl : lv_has ls 2 [(0, .ref mm), (1, .int a)] := hl
  refine lv_iload_n hx hb dX11_isGood_0 rfl (lv_at hl 1 rfl) ?_
  refine a_if_ge (u := a.toInt) (tgt := 6) hx hb dX11_isGood_1 (by decide) (rfl) (fun c_1 => ?_) (fun c_1 => ?_)
  · refine lv_aload_n hx hb dX11_isGood_6 rfl (lv_at hl 0 rfl) ?_
    refine lv_iload_n hx hb dX11_isGood_7 rfl (lv_at hl 1 rfl) ?_
    refine call_g (wr := []) (va_runV (As := [.int a]) (rest := []) ⟨hx, hb, hml, hown, hts⟩ (k_weigh l D cI cR cM _  (by first | assumption | omega) (hr0.resolve_left (by omega))) (cwV 1 hts gX11_isGood_X11_weigh rfl rfl rfl (by decide +kernel) ⟨Nat.le_of_ble_eq_true rfl, Nat.le_of_ble_eq_true rfl⟩) (pre_V hK hP hD 0 11 rfl rfl) rfl rfl hl.1 rfl (lv_room (Nat.le_of_ble_eq_true rfl)) dX11_isGood_8 ⟨Nat.le_of_ble_eq_true rfl, Nat.le_of_ble_eq_true rfl⟩) hP hD hS hA [0, 1, 2, 3, 4, 5, 6, 7, 8, 9, 10, 11, 12, 13, 14, 15, 16, 17, 18, 19, 20, 21, 22, 23, 24, 25] [] (by with_unfolding_all rfl) rfl (by decide) (by decide) (fun u_2 H locs hw hP hD hS => ?_)
    obtain ⟨y15_2, y16_2, g12_2⟩ := u_2
    have hP : va_P D vwCl (mX mm q jn cI x0 x1 x2 x3 x4 x5 x6 x7 x8 x9 x10 x11 x12 x13 x14 y15_2 y16_2 x17 x18 x19 x20 f0 f1 f2 f3 f4 f5 f6 f7 f8 f9 f10 f11 g12_2 f13 f14 f15 f16 f17 f18 f19 f20 f21 f22 f23 f24) H := hP
    have hD : va_D A (mX mm q jn cI x0 x1 x2 x3 x4 x5 x6 x7 x8 x9 x10 x11 x12 x13 x14 y15_2 y16_2 x17 x18 x19 x20 f0 f1 f2 f3 f4 f5 f6 f7 f8 f9 f10 f11 g12_2 f13 f14 f15 f16 f17 f18 f19 f20 f21 f22 f23 f24) := hD
    obtain ⟨hb_2, hs_2⟩ : (-1 ≤ y15_2.toInt ∧ y15_2.toInt ≤ 71) ∧ (0 ≤ y16_2.toInt ∧ y16_2.toInt ≤ 10000) := hw
    refine lv_aload_n hx hb dX11_isGood_11 rfl (lv_at hl 0 rfl) ?_
    refine va_get (D := D) (ci := 11) (v := .int y15_2) (C := RX11) (T := TX11) (N := 47) hx hb hts (by decide +kernel) hown hK.1 hP 0 rfl rfl 28 (by decide) (hts (.fieldLink RX11 249 "JugglingHallModel" "bad" "I") (by decide +kernel)) (fun _ h9 => h9) rfl dX11_isGood_12 ?_
    refine a_if_ge (u := y15_2.toInt) (tgt := 22) hx hb dX11_isGood_15 (by decide) (rfl) (fun c_3 => ?_) (fun c_3 => ?_)
    · refine lv_iconst (v := 0) hx hb dX11_isGood_22 (by decide) ?_
      have hz_4 : (0 : Int32).toInt = 0 := by decide
      exact g_zret ((0 : Int32), y15_2, y16_2, g12_2) hx hb hr hlocks hS (by first | exact Or.inl rfl | exact Or.inr rfl) rfl (⟨show (0 : Int32).toInt = 0 ∨ (0 : Int32).toInt = 1 from (by first | assumption | omega), show (0 : Int32).toInt = 1 → 0 ≤ a.toInt from (by first | assumption | omega), show (0 : Int32).toInt = 1 → 0 ≤ y16_2.toInt ∧ y16_2.toInt ≤ 10000 from (by first | assumption | omega)⟩) hP hD hQ (Nat.le_of_ble_eq_true rfl) (Nat.le_of_ble_eq_true rfl) dX11_isGood_23
    · refine lv_iconst (v := 1) hx hb dX11_isGood_18 (by decide) ?_
      refine lv_goto (tgt := 23) hx hb dX11_isGood_19 (by decide) ?_
      have hz_5 : (1 : Int32).toInt = 1 := by decide
      exact g_zret ((1 : Int32), y15_2, y16_2, g12_2) hx hb hr hlocks hS (by first | exact Or.inl rfl | exact Or.inr rfl) rfl (⟨show (1 : Int32).toInt = 0 ∨ (1 : Int32).toInt = 1 from (by first | assumption | omega), show (1 : Int32).toInt = 1 → 0 ≤ a.toInt from (by first | assumption | omega), show (1 : Int32).toInt = 1 → 0 ≤ y16_2.toInt ∧ y16_2.toInt ≤ 10000 from (by first | assumption | omega)⟩) hP hD hQ (Nat.le_of_ble_eq_true rfl) (Nat.le_of_ble_eq_true rfl) dX11_isGood_23
  · refine lv_iconst (v := 0) hx hb dX11_isGood_4 (by decide) ?_
    have hz_6 : (0 : Int32).toInt = 0 := by decide
    exact g_zret ((0 : Int32), x15, x16, f12) hx hb hr hlocks hS (by first | exact Or.inl rfl | exact Or.inr rfl) rfl (⟨show (0 : Int32).toInt = 0 ∨ (0 : Int32).toInt = 1 from (by first | assumption | omega), show (0 : Int32).toInt = 1 → 0 ≤ a.toInt from (by first | assumption | omega), show (0 : Int32).toInt = 1 → 0 ≤ x16.toInt ∧ x16.toInt ≤ 10000 from (by first | assumption | omega)⟩) hP hD hQ (Nat.le_of_ble_eq_true rfl) (Nat.le_of_ble_eq_true rfl) dX11_isGood_5
set_option maxRecDepth 100000 in
set_option maxHeartbeats 4000000 in
theorem k_isPlainGood (l : Launch) (D : va_G) (cI cR cM : ClassId) (sz : Nat) {jn mm : Nat} {q : Nat → Nat} {x0 x1 x2 x3 x4 x5 x6 x7 x8 x9 x10 x11 x12 x13 x14 x15 x16 x17 x18 x19 x20 : Int32} {f0 f1 f2 f3 f4 f5 f6 f7 f8 f9 f10 f11 f12 f13 f14 f15 f16 f17 f18 f19 f20 f21 f22 f23 f24 : Nat → Int32} {a : Int32}  (hj : 1 ≤ jn ∧ jn ≤ 3) (hr0 : a.toInt = -1 ∨ IsRow jn f0 a.toInt) : Met l yX11_isPlainGood wsX11_isPlainGood ({ frames := 3, cells := 0, slots := 0, locals := 70 }) (P0 D cI cR cM [.ref mm, .int a] sz (mX mm q jn cI x0 x1 x2 x3 x4 x5 x6 x7 x8 x9 x10 x11 x12 x13 x14 x15 x16 x17 x18 x19 x20 f0 f1 f2 f3 f4 f5 f6 f7 f8 f9 f10 f11 f12 f13 f14 f15 f16 f17 f18 f19 f20 f21 f22 f23 f24)) (QG (S := Int32 × Int32 × Int32 × (Nat → Int32)) (fun u => some (.int u.1)) (fun u => mX mm q jn cI x0 x1 x2 x3 x4 x5 x6 x7 x8 x9 x10 x11 x12 x13 x14 (u.2.1) (u.2.2.1) x17 x18 x19 x20 f0 f1 f2 f3 f4 f5 f6 f7 f8 f9 f10 f11 (u.2.2.2) f13 f14 f15 f16 f17 f18 f19 f20 f21 f22 f23 f24) (fun u => (u.1.toInt = 0 ∨ u.1.toInt = 1) ∧ (u.1.toInt = 1 → 0 ≤ a.toInt ∧ jn = 1) ∧ (u.1.toInt = 1 → 0 ≤ u.2.2.1.toInt ∧ u.2.2.1.toInt ≤ 10000)) D (va_A (mX mm q jn cI x0 x1 x2 x3 x4 x5 x6 x7 x8 x9 x10 x11 x12 x13 x14 x15 x16 x17 x18 x19 x20 f0 f1 f2 f3 f4 f5 f6 f7 f8 f9 f10 f11 f12 f13 f14 f15 f16 f17 f18 f19 f20 f21 f22 f23 f24) sz)) 0 0 (va_A (mX mm q jn cI x0 x1 x2 x3 x4 x5 x6 x7 x8 x9 x10 x11 x12 x13 x14 x15 x16 x17 x18 x19 x20 f0 f1 f2 f3 f4 f5 f6 f7 f8 f9 f10 f11 f12 f13 f14 f15 f16 f17 f18 f19 f20 f21 f22 f23 f24) sz) := by
  refine go (cc := cX11_isPlainGood) (maxL := 2) (ret := (some .boolean)) (by decide) rfl (Nat.le_of_ble_eq_true rfl) ?_
  intro p e s m below meth c ls args Q hQ hsz hx hb hr hml hts hown hlocks hnm hP hK hD hl
  subst hsz
  have hD := hD.self (sz := s.heap.size)
  generalize hAe : va_A (mX mm q jn cI x0 x1 x2 x3 x4 x5 x6 x7 x8 x9 x10 x11 x12 x13 x14 x15 x16 x17 x18 x19 x20 f0 f1 f2 f3 f4 f5 f6 f7 f8 f9 f10 f11 f12 f13 f14 f15 f16 f17 f18 f19 f20 f21 f22 f23 f24) s.heap.size = A at hD hQ
  have hA : ∀ q, s.heap.size ≤ q → A q := fun q h => by rw [← hAe]; exact Or.inr h
  have hS : va_S A s.heap s.heap [] := va_S.rf
  have hl : lv_has ls 2 [(0, .ref mm), (1, .int a)] := hl
  refine lv_aload_n hx hb dX11_isPlainGood_0 rfl (lv_at hl 0 rfl) ?_
  refine lv_iload_n hx hb dX11_isPlainGood_1 rfl (lv_at hl 1 rfl) ?_
  refine call_g (wr := []) (va_runV (As := [.int a]) (rest := []) ⟨hx, hb, hml, hown, hts⟩ (k_isGood l D cI cR cM _  (by first | assumption | omega) (hr0)) (cwV 1 hts gX11_isPlainGood_X11_isGood rfl rfl rfl (by decide +kernel) ⟨Nat.le_of_ble_eq_true rfl, Nat.le_of_ble_eq_true rfl⟩) (pre_V hK hP hD 0 11 rfl rfl) rfl rfl hl.1 rfl (lv_room (Nat.le_of_ble_eq_true rfl)) dX11_isPlainGood_2 ⟨Nat.le_of_ble_eq_true rfl, Nat.le_of_ble_eq_true rfl⟩) hP hD hS hA [0, 1, 2, 3, 4, 5, 6, 7, 8, 9, 10, 11, 12, 13, 14, 15, 16, 17, 18, 19, 20, 21, 22, 23, 24, 25] [] (by with_unfolding_all rfl) rfl (by decide) (by decide) (fun u_1 H locs hw hP hD hS => ?_)
  obtain ⟨r_1, y15_1, y16_1, g12_1⟩ := u_1
  have hP : va_P D vwCl (mX mm q jn cI x0 x1 x2 x3 x4 x5 x6 x7 x8 x9 x10 x11 x12 x13 x14 y15_1 y16_1 x17 x18 x19 x20 f0 f1 f2 f3 f4 f5 f6 f7 f8 f9 f10 f11 g12_1 f13 f14 f15 f16 f17 f18 f19 f20 f21 f22 f23 f24) H := hP
  have hD : va_D A (mX mm q jn cI x0 x1 x2 x3 x4 x5 x6 x7 x8 x9 x10 x11 x12 x13 x14 y15_1 y16_1 x17 x18 x19 x20 f0 f1 f2 f3 f4 f5 f6 f7 f8 f9 f10 f11 g12_1 f13 f14 f15 f16 f17 f18 f19 f20 f21 f22 f23 f24) := hD
  obtain ⟨h_1, hg_1, hs_1⟩ : (r_1.toInt = 0 ∨ r_1.toInt = 1) ∧ (r_1.toInt = 1 → 0 ≤ a.toInt) ∧ (r_1.toInt = 1 → 0 ≤ y16_1.toInt ∧ y16_1.toInt ≤ 10000) := hw
  refine a_if_eq (u := r_1.toInt) (tgt := 20) hx hb dX11_isPlainGood_5 (by decide) (rfl) (fun c_2 => ?_) (fun c_2 => ?_)
  · refine lv_iconst (v := 0) hx hb dX11_isPlainGood_20 (by decide) ?_
    have hz_3 : (0 : Int32).toInt = 0 := by decide
    exact g_zret ((0 : Int32), y15_1, y16_1, g12_1) hx hb hr hlocks hS (by first | exact Or.inl rfl | exact Or.inr rfl) rfl (⟨show (0 : Int32).toInt = 0 ∨ (0 : Int32).toInt = 1 from (by first | assumption | omega), show (0 : Int32).toInt = 1 → 0 ≤ a.toInt ∧ jn = 1 from (by first | assumption | omega), show (0 : Int32).toInt = 1 → 0 ≤ y16_1.toInt ∧ y16_1.toInt ≤ 10000 from (by first | assumption | omega)⟩) hP hD hQ (Nat.le_of_ble_eq_true rfl) (Nat.le_of_ble_eq_true rfl) dX11_isPlainGood_21
  · refine lv_aload_n hx hb dX11_isPlainGood_8 rfl (lv_at hl 0 rfl) ?_
    refine lv_iload_n hx hb dX11_isPlainGood_9 rfl (lv_at hl 1 rfl) ?_
    refine roP (va_runV (As := [.int a]) (rest := []) ⟨hx, hb, hml, hown, hts⟩ (k_isPlainRow l D cI cR cM _  (by first | assumption | omega) (hr0.resolve_left (by omega))) (cwV 1 hts gX11_isPlainGood_X11_isPlainRow rfl rfl rfl (by decide +kernel) ⟨Nat.le_of_ble_eq_true rfl, Nat.le_of_ble_eq_true rfl⟩) (pre_V hK hP hD 0 11 rfl rfl) rfl rfl hl.1 rfl (lv_room (Nat.le_of_ble_eq_true rfl)) dX11_isPlainGood_10 ⟨Nat.le_of_ble_eq_true rfl, Nat.le_of_ble_eq_true rfl⟩) hS hA hP (fun r_4 H locs hw hP hS => ?_)
    obtain ⟨h_4, hp_4⟩ : (r_4.toInt = 0 ∨ r_4.toInt = 1) ∧ (r_4.toInt = 1 → jn = 1) := hw
    refine a_if_eq (u := r_4.toInt) (tgt := 20) hx hb dX11_isPlainGood_13 (by decide) (rfl) (fun c_5 => ?_) (fun c_5 => ?_)
    · refine lv_iconst (v := 0) hx hb dX11_isPlainGood_20 (by decide) ?_
      have hz_6 : (0 : Int32).toInt = 0 := by decide
      exact g_zret ((0 : Int32), y15_1, y16_1, g12_1) hx hb hr hlocks hS (by first | exact Or.inl rfl | exact Or.inr rfl) rfl (⟨show (0 : Int32).toInt = 0 ∨ (0 : Int32).toInt = 1 from (by first | assumption | omega), show (0 : Int32).toInt = 1 → 0 ≤ a.toInt ∧ jn = 1 from (by first | assumption | omega), show (0 : Int32).toInt = 1 → 0 ≤ y16_1.toInt ∧ y16_1.toInt ≤ 10000 from (by first | assumption | omega)⟩) hP hD hQ (Nat.le_of_ble_eq_true rfl) (Nat.le_of_ble_eq_true rfl) dX11_isPlainGood_21
    · refine lv_iconst (v := 1) hx hb dX11_isPlainGood_16 (by decide) ?_
      refine lv_goto (tgt := 21) hx hb dX11_isPlainGood_17 (by decide) ?_
      have hz_7 : (1 : Int32).toInt = 1 := by decide
      exact g_zret ((1 : Int32), y15_1, y16_1, g12_1) hx hb hr hlocks hS (by first | exact Or.inl rfl | exact Or.inr rfl) rfl (⟨show (1 : Int32).toInt = 0 ∨ (1 : Int32).toInt = 1 from (by first | assumption | omega), show (1 : Int32).toInt = 1 → 0 ≤ a.toInt ∧ jn = 1 from (by first | assumption | omega), show (1 : Int32).toInt = 1 → 0 ≤ y16_1.toInt ∧ y16_1.toInt ≤ 10000 from (by first | assumption | omega)⟩) hP hD hQ (Nat.le_of_ble_eq_true rfl) (Nat.le_of_ble_eq_true rfl) dX11_isPlainGood_21
set_option maxRecDepth 100000 in
set_option maxHeartbeats 4000000 in
theorem k_good (l : Launch) (D : va_G) (cI cR cM : ClassId) (sz : Nat) {jn mm : Nat} {q : Nat → Nat} {x0 x1 x2 x3 x4 x5 x6 x7 x8 x9 x10 x11 x12 x13 x14 x15 x16 x17 x18 x19 x20 : Int32} {f0 f1 f2 f3 f4 f5 f6 f7 f8 f9 f10 f11 f12 f13 f14 f15 f16 f17 f18 f19 f20 f21 f22 f23 f24 : Nat → Int32} {a b : Int32}  (hj : 1 ≤ jn ∧ jn ≤ 3) (h0 : 0 ≤ x0.toInt ∧ x0.toInt ≤ 60) (h1 : 0 ≤ x1.toInt ∧ x1.toInt ≤ 60) (hR : RowsX jn f0) : Met l yX11_good wsX11_good ({ frames := 3, cells := 0, slots := 0, locals := 65 }) (P0 D cI cR cM [.ref mm, .int a, .int b] sz (mX mm q jn cI x0 x1 x2 x3 x4 x5 x6 x7 x8 x9 x10 x11 x12 x13 x14 x15 x16 x17 x18 x19 x20 f0 f1 f2 f3 f4 f5 f6 f7 f8 f9 f10 f11 f12 f13 f14 f15 f16 f17 f18 f19 f20 f21 f22 f23 f24)) (QG (S := Int32 × Int32 × Int32 × (Nat → Int32)) (fun u => some (.int u.1)) (fun u => mX mm q jn cI x0 x1 x2 x3 x4 x5 x6 x7 x8 x9 x10 x11 x12 x13 x14 (u.2.1) (u.2.2.1) x17 x18 x19 x20 f0 f1 f2 f3 f4 f5 f6 f7 f8 f9 f10 f11 (u.2.2.2) f13 f14 f15 f16 f17 f18 f19 f20 f21 f22 f23 f24) (fun u => True) D (va_A (mX mm q jn cI x0 x1 x2 x3 x4 x5 x6 x7 x8 x9 x10 x11 x12 x13 x14 x15 x16 x17 x18 x19 x20 f0 f1 f2 f3 f4 f5 f6 f7 f8 f9 f10 f11 f12 f13 f14 f15 f16 f17 f18 f19 f20 f21 f22 f23 f24) sz)) 0 0 (va_A (mX mm q jn cI x0 x1 x2 x3 x4 x5 x6 x7 x8 x9 x10 x11 x12 x13 x14 x15 x16 x17 x18 x19 x20 f0 f1 f2 f3 f4 f5 f6 f7 f8 f9 f10 f11 f12 f13 f14 f15 f16 f17 f18 f19 f20 f21 f22 f23 f24) sz) := by
  refine go (cc := cX11_good) (maxL := 4) (ret := (some .int)) (by decide) rfl (Nat.le_of_ble_eq_true rfl) ?_
  intro p e s m below meth c ls args Q hQ hsz hx hb hr hml hts hown hlocks hnm hP hK hD hl
  subst hsz
  have hD := hD.self (sz := s.heap.size)
  generalize hAe : va_A (mX mm q jn cI x0 x1 x2 x3 x4 x5 x6 x7 x8 x9 x10 x11 x12 x13 x14 x15 x16 x17 x18 x19 x20 f0 f1 f2 f3 f4 f5 f6 f7 f8 f9 f10 f11 f12 f13 f14 f15 f16 f17 f18 f19 f20 f21 f22 f23 f24) s.heap.size = A at hD hQ
  have hA : ∀ q, s.heap.size ≤ q → A q := fun q h => by rw [← hAe]; exact Or.inr h
  have hS : va_S A s.heap s.heap [] := va_S.rf
  have hl : lv_has ls 4 [(0, .ref mm), (1, .int a), (2, .int b)] := hl
  refine lv_aload_n hx hb dX11_good_0 rfl (lv_at hl 0 rfl) ?_
  refine lv_iload_n hx hb dX11_good_1 rfl (lv_at hl 1 rfl) ?_
  refine roP (va_runV (As := [.int a]) (rest := []) ⟨hx, hb, hml, hown, hts⟩ (k_rowOf l D cI cR cM _  (by first | assumption | omega) (by first | assumption | omega)) (cwV 1 hts gX11_good_X11_rowOf rfl rfl rfl (by decide +kernel) ⟨Nat.le_of_ble_eq_true rfl, Nat.le_of_ble_eq_true rfl⟩) (pre_V hK hP hD 0 11 rfl rfl) rfl rfl hl.1 rfl (lv_room (Nat.le_of_ble_eq_true rfl)) dX11_good_2 ⟨Nat.le_of_ble_eq_true rfl, Nat.le_of_ble_eq_true rfl⟩) hS hA hP (fun r_1 H locs hw hP hS => ?_)
  have h_1 : (r_1.toInt = -1 ∨ IsRow jn f0 r_1.toInt) := hw
  refine lv_istore_n (lv' := [(3, .int r_1), (0, .ref mm), (1, .int a), (2, .int b)]) hx hb dX11_good_5 rfl hl (by decide) rfl (fun ls hl => ?_)
  refine lv_iload_n hx hb dX11_good_6 rfl (lv_at hl 0 rfl) ?_
  refine a_if_ge (u := r_1.toInt) (tgt := 12) hx hb dX11_good_7 (by decide) (rfl) (fun c_2 => ?_) (fun c_2 => ?_)
  · have hrw := h_1.resolve_left (by omega)
    have hrw1 := hrw
    obtain ⟨ha1, ha2, ha3, ha4, ha5, ha6⟩ := hrw1
    refine lv_aload_n hx hb dX11_good_12 rfl (lv_at hl 1 rfl) ?_
    refine lv_iload_n hx hb dX11_good_13 rfl (lv_at hl 0 rfl) ?_
    refine call_g (wr := []) (va_runV (As := [.int r_1]) (rest := []) ⟨hx, hb, hml, hown, hts⟩ (k_weigh l D cI cR cM _  (by first | assumption | omega) (hrw)) (cwV 1 hts gX11_good_X11_weigh rfl rfl rfl (by decide +kernel) ⟨Nat.le_of_ble_eq_true rfl, Nat.le_of_ble_eq_true rfl⟩) (pre_V hK hP hD 0 11 rfl rfl) rfl rfl hl.1 rfl (lv_room (Nat.le_of_ble_eq_true rfl)) dX11_good_14 ⟨Nat.le_of_ble_eq_true rfl, Nat.le_of_ble_eq_true rfl⟩) hP hD hS hA [0, 1, 2, 3, 4, 5, 6, 7, 8, 9, 10, 11, 12, 13, 14, 15, 16, 17, 18, 19, 20, 21, 22, 23, 24, 25] [] (by with_unfolding_all rfl) rfl (by decide) (by decide) (fun u_3 H locs hw hP hD hS => ?_)
    obtain ⟨y15_3, y16_3, g12_3⟩ := u_3
    have hP : va_P D vwCl (mX mm q jn cI x0 x1 x2 x3 x4 x5 x6 x7 x8 x9 x10 x11 x12 x13 x14 y15_3 y16_3 x17 x18 x19 x20 f0 f1 f2 f3 f4 f5 f6 f7 f8 f9 f10 f11 g12_3 f13 f14 f15 f16 f17 f18 f19 f20 f21 f22 f23 f24) H := hP
    have hD : va_D A (mX mm q jn cI x0 x1 x2 x3 x4 x5 x6 x7 x8 x9 x10 x11 x12 x13 x14 y15_3 y16_3 x17 x18 x19 x20 f0 f1 f2 f3 f4 f5 f6 f7 f8 f9 f10 f11 g12_3 f13 f14 f15 f16 f17 f18 f19 f20 f21 f22 f23 f24) := hD
    obtain ⟨hb_3, hs_3⟩ : (-1 ≤ y15_3.toInt ∧ y15_3.toInt ≤ 71) ∧ (0 ≤ y16_3.toInt ∧ y16_3.toInt ≤ 10000) := hw
    refine lv_iload_n hx hb dX11_good_17 rfl (lv_at hl 3 rfl) ?_
    have hu_4 : b.toInt = b.toInt := rfl
    rcases (show (b.toInt < 0 ∨ 4 < b.toInt) ∨ (b.toInt = 0) ∨ (b.toInt = 1) ∨ (b.toInt = 2) ∨ (b.toInt = 3) ∨ (b.toInt = 4) by omega) with c_4 | c_4 | c_4 | c_4 | c_4 | c_4
    · refine lv_tableOut (tgt := 138) hx hb dX11_good_18 (by omega) (by decide) ?_
      refine lv_iconst (v := (-1)) hx hb dX11_good_138 (by decide) ?_
      have hz_5 : (-1 : Int32).toInt = (-1) := by decide
      exact g_iret ((-1 : Int32), y15_3, y16_3, g12_3) hx hb hr hlocks hS rfl (trivial) hP hD hQ (Nat.le_of_ble_eq_true rfl) (Nat.le_of_ble_eq_true rfl) dX11_good_139
    · refine lv_tableIn (off := 34) (tgt := 52) hx hb dX11_good_18 (by omega) (by omega) (by rw [show (b.toInt - 0).toNat = 0 by omega]; rfl) (by decide) ?_
      refine lv_aload_n hx hb dX11_good_52 rfl (lv_at hl 1 rfl) ?_
      refine va_get (D := D) (ci := 11) (v := .int y15_3) (C := RX11) (T := TX11) (N := 47) hx hb hts (by decide +kernel) hown hK.1 hP 0 rfl rfl 28 (by decide) (hts (.fieldLink RX11 249 "JugglingHallModel" "bad" "I") (by decide +kernel)) (fun _ h9 => h9) rfl dX11_good_53 ?_
      refine a_if_ge (u := y15_3.toInt) (tgt := 63) hx hb dX11_good_56 (by decide) (rfl) (fun c_6 => ?_) (fun c_6 => ?_)
      · refine lv_iconst (v := 0) hx hb dX11_good_63 (by decide) ?_
        have hz_7 : (0 : Int32).toInt = 0 := by decide
        exact g_iret ((0 : Int32), y15_3, y16_3, g12_3) hx hb hr hlocks hS rfl (trivial) hP hD hQ (Nat.le_of_ble_eq_true rfl) (Nat.le_of_ble_eq_true rfl) dX11_good_64
      · refine lv_iconst (v := 1) hx hb dX11_good_59 (by decide) ?_
        refine lv_goto (tgt := 64) hx hb dX11_good_60 (by decide) ?_
        have hz_8 : (1 : Int32).toInt = 1 := by decide
        exact g_iret ((1 : Int32), y15_3, y16_3, g12_3) hx hb hr hlocks hS rfl (trivial) hP hD hQ (Nat.le_of_ble_eq_true rfl) (Nat.le_of_ble_eq_true rfl) dX11_good_64
    · refine lv_tableIn (off := 47) (tgt := 65) hx hb dX11_good_18 (by omega) (by omega) (by rw [show (b.toInt - 0).toNat = 1 by omega]; rfl) (by decide) ?_
      refine lv_aload_n hx hb dX11_good_65 rfl (lv_at hl 1 rfl) ?_
      refine va_get (D := D) (ci := 11) (v := .int y15_3) (C := RX11) (T := TX11) (N := 47) hx hb hts (by decide +kernel) hown hK.1 hP 0 rfl rfl 28 (by decide) (hts (.fieldLink RX11 249 "JugglingHallModel" "bad" "I") (by decide +kernel)) (fun _ h9 => h9) rfl dX11_good_66 ?_
      refine a_if_ge (u := y15_3.toInt) (tgt := 76) hx hb dX11_good_69 (by decide) (rfl) (fun c_9 => ?_) (fun c_9 => ?_)
      · refine lv_aload_n hx hb dX11_good_76 rfl (lv_at hl 1 rfl) ?_
        refine va_get (D := D) (ci := 11) (v := .int y15_3) (C := RX11) (T := TX11) (N := 47) hx hb hts (by decide +kernel) hown hK.1 hP 0 rfl rfl 28 (by decide) (hts (.fieldLink RX11 249 "JugglingHallModel" "bad" "I") (by decide +kernel)) (fun _ h9 => h9) rfl dX11_good_77 ?_
        refine lv_iconst (v := 3) hx hb dX11_good_80 (by decide) ?_
        refine a_idiv (u := y15_3.toInt) (v := 3) hx hb dX11_good_81 (rfl) (by decide) (by omega) (fun z_10 e_10 => ?_)
        exact g_iret (z_10, y15_3, y16_3, g12_3) hx hb hr hlocks hS rfl (trivial) hP hD hQ (Nat.le_of_ble_eq_true rfl) (Nat.le_of_ble_eq_true rfl) dX11_good_82
      · refine lv_iconst (v := (-1)) hx hb dX11_good_72 (by decide) ?_
        refine lv_goto (tgt := 82) hx hb dX11_good_73 (by decide) ?_
        have hz_11 : (-1 : Int32).toInt = (-1) := by decide
        exact g_iret ((-1 : Int32), y15_3, y16_3, g12_3) hx hb hr hlocks hS rfl (trivial) hP hD hQ (Nat.le_of_ble_eq_true rfl) (Nat.le_of_ble_eq_true rfl) dX11_good_82
    · refine lv_tableIn (off := 65) (tgt := 83) hx hb dX11_good_18 (by omega) (by omega) (by rw [show (b.toInt - 0).toNat = 2 by omega]; rfl) (by decide) ?_
      refine lv_aload_n hx hb dX11_good_83 rfl (lv_at hl 1 rfl) ?_
      refine va_get (D := D) (ci := 11) (v := .int y15_3) (C := RX11) (T := TX11) (N := 47) hx hb hts (by decide +kernel) hown hK.1 hP 0 rfl rfl 28 (by decide) (hts (.fieldLink RX11 249 "JugglingHallModel" "bad" "I") (by decide +kernel)) (fun _ h9 => h9) rfl dX11_good_84 ?_
      refine a_if_ge (u := y15_3.toInt) (tgt := 94) hx hb dX11_good_87 (by decide) (rfl) (fun c_12 => ?_) (fun c_12 => ?_)
      · refine lv_aload_n hx hb dX11_good_94 rfl (lv_at hl 1 rfl) ?_
        refine va_get (D := D) (ci := 11) (v := .int y15_3) (C := RX11) (T := TX11) (N := 47) hx hb hts (by decide +kernel) hown hK.1 hP 0 rfl rfl 28 (by decide) (hts (.fieldLink RX11 249 "JugglingHallModel" "bad" "I") (by decide +kernel)) (fun _ h9 => h9) rfl dX11_good_95 ?_
        refine lv_iconst (v := 3) hx hb dX11_good_98 (by decide) ?_
        refine a_irem (u := y15_3.toInt) (v := 3) hx hb dX11_good_99 (rfl) (by decide) (by omega) (fun z_13 e_13 h_13 k_13 => ?_)
        exact g_iret (z_13, y15_3, y16_3, g12_3) hx hb hr hlocks hS rfl (trivial) hP hD hQ (Nat.le_of_ble_eq_true rfl) (Nat.le_of_ble_eq_true rfl) dX11_good_100
      · refine lv_iconst (v := (-1)) hx hb dX11_good_90 (by decide) ?_
        refine lv_goto (tgt := 100) hx hb dX11_good_91 (by decide) ?_
        have hz_14 : (-1 : Int32).toInt = (-1) := by decide
        exact g_iret ((-1 : Int32), y15_3, y16_3, g12_3) hx hb hr hlocks hS rfl (trivial) hP hD hQ (Nat.le_of_ble_eq_true rfl) (Nat.le_of_ble_eq_true rfl) dX11_good_100
    · refine lv_tableIn (off := 83) (tgt := 101) hx hb dX11_good_18 (by omega) (by omega) (by rw [show (b.toInt - 0).toNat = 3 by omega]; rfl) (by decide) ?_
      refine lv_aload_n hx hb dX11_good_101 rfl (lv_at hl 1 rfl) ?_
      refine va_get (D := D) (ci := 11) (v := .int y15_3) (C := RX11) (T := TX11) (N := 47) hx hb hts (by decide +kernel) hown hK.1 hP 0 rfl rfl 28 (by decide) (hts (.fieldLink RX11 249 "JugglingHallModel" "bad" "I") (by decide +kernel)) (fun _ h9 => h9) rfl dX11_good_102 ?_
      refine a_if_ge (u := y15_3.toInt) (tgt := 122) hx hb dX11_good_105 (by decide) (rfl) (fun c_15 => ?_) (fun c_15 => ?_)
      · refine lv_iconst (v := (-1)) hx hb dX11_good_122 (by decide) ?_
        have hz_16 : (-1 : Int32).toInt = (-1) := by decide
        exact g_iret ((-1 : Int32), y15_3, y16_3, g12_3) hx hb hr hlocks hS rfl (trivial) hP hD hQ (Nat.le_of_ble_eq_true rfl) (Nat.le_of_ble_eq_true rfl) dX11_good_123
      · refine lv_aload_n hx hb dX11_good_108 rfl (lv_at hl 1 rfl) ?_
        refine va_get (D := D) (ci := 11) (v := .int y16_3) (C := RX11) (T := TX11) (N := 47) hx hb hts (by decide +kernel) hown hK.1 hP 0 rfl rfl 29 (by decide) (hts (.fieldLink RX11 246 "JugglingHallModel" "sum" "I") (by decide +kernel)) (fun _ h9 => h9) rfl dX11_good_109 ?_
        refine lv_aload_n hx hb dX11_good_112 rfl (lv_at hl 1 rfl) ?_
        refine va_get (D := D) (ci := 11) (v := .ref (q 0)) (C := RX11) (T := TX11) (N := 47) hx hb hts (by decide +kernel) hown hK.1 hP 0 rfl rfl 1 (by decide) (hts (.fieldLink RX11 8 "JugglingHallModel" "rows" "[I") (by decide +kernel)) (fun _ h9 => h9) rfl dX11_good_113 ?_
        refine lv_iload_n hx hb dX11_good_116 rfl (lv_at hl 0 rfl) ?_
        refine a_iald (f := f0) (u := r_1.toInt) hx hb hK.1 hP 1 0 rfl rfl dX11_good_117 (rfl) (by omega) (fun z_17 q_17 e_17 => ?_)
        refine a_idiv (u := y16_3.toInt) (v := z_17.toInt) hx hb dX11_good_118 (rfl) (rfl) (by omega) (fun z_18 e_18 => ?_)
        refine lv_goto (tgt := 123) hx hb dX11_good_119 (by decide) ?_
        exact g_iret (z_18, y15_3, y16_3, g12_3) hx hb hr hlocks hS rfl (trivial) hP hD hQ (Nat.le_of_ble_eq_true rfl) (Nat.le_of_ble_eq_true rfl) dX11_good_123
    · refine lv_tableIn (off := 106) (tgt := 124) hx hb dX11_good_18 (by omega) (by omega) (by rw [show (b.toInt - 0).toNat = 4 by omega]; rfl) (by decide) ?_
      refine lv_aload_n hx hb dX11_good_124 rfl (lv_at hl 1 rfl) ?_
      refine lv_iload_n hx hb dX11_good_125 rfl (lv_at hl 0 rfl) ?_
      refine roP (va_runV (As := [.int r_1]) (rest := []) ⟨hx, hb, hml, hown, hts⟩ (k_isPlainRow l D cI cR cM _  (by first | assumption | omega) (hrw)) (cwV 1 hts gX11_good_X11_isPlainRow rfl rfl rfl (by decide +kernel) ⟨Nat.le_of_ble_eq_true rfl, Nat.le_of_ble_eq_true rfl⟩) (pre_V hK hP hD 0 11 rfl rfl) rfl rfl hl.1 rfl (lv_room (Nat.le_of_ble_eq_true rfl)) dX11_good_126 ⟨Nat.le_of_ble_eq_true rfl, Nat.le_of_ble_eq_true rfl⟩) hS hA hP (fun r_19 H locs hw hP hS => ?_)
      obtain ⟨h_19, hp_19⟩ : (r_19.toInt = 0 ∨ r_19.toInt = 1) ∧ (r_19.toInt = 1 → jn = 1) := hw
      refine a_if_eq (u := r_19.toInt) (tgt := 136) hx hb dX11_good_129 (by decide) (rfl) (fun c_20 => ?_) (fun c_20 => ?_)
      · refine lv_iconst (v := 0) hx hb dX11_good_136 (by decide) ?_
        have hz_21 : (0 : Int32).toInt = 0 := by decide
        exact g_iret ((0 : Int32), y15_3, y16_3, g12_3) hx hb hr hlocks hS rfl (trivial) hP hD hQ (Nat.le_of_ble_eq_true rfl) (Nat.le_of_ble_eq_true rfl) dX11_good_137
      · refine lv_iconst (v := 1) hx hb dX11_good_132 (by decide) ?_
        refine lv_goto (tgt := 137) hx hb dX11_good_133 (by decide) ?_
        have hz_22 : (1 : Int32).toInt = 1 := by decide
        exact g_iret ((1 : Int32), y15_3, y16_3, g12_3) hx hb hr hlocks hS rfl (trivial) hP hD hQ (Nat.le_of_ble_eq_true rfl) (Nat.le_of_ble_eq_true rfl) dX11_good_137
  · refine lv_iconst (v := (-1)) hx hb dX11_good_10 (by decide) ?_
    have hz_23 : (-1 : Int32).toInt = (-1) := by decide
    exact g_iret ((-1 : Int32), x15, x16, f12) hx hb hr hlocks hS rfl (trivial) hP hD hQ (Nat.le_of_ble_eq_true rfl) (Nat.le_of_ble_eq_true rfl) dX11_good_11
set_option maxRecDepth 100000 in
set_option maxHeartbeats 4000000 in
theorem k_state (l : Launch) (D : va_G) (cI cR cM : ClassId) (sz : Nat) {jn mm : Nat} {q : Nat → Nat} {x0 x1 x2 x3 x4 x5 x6 x7 x8 x9 x10 x11 x12 x13 x14 x15 x16 x17 x18 x19 x20 : Int32} {f0 f1 f2 f3 f4 f5 f6 f7 f8 f9 f10 f11 f12 f13 f14 f15 f16 f17 f18 f19 f20 f21 f22 f23 f24 : Nat → Int32} {a b : Int32}  (hj : 1 ≤ jn ∧ jn ≤ 3) (h0 : 0 ≤ x0.toInt ∧ x0.toInt ≤ 60) (h1 : 0 ≤ x1.toInt ∧ x1.toInt ≤ 60) (hR : RowsX jn f0) : Met l yX11_state wsX11_state ({ frames := 4, cells := 0, slots := 0, locals := 91 }) (P0 D cI cR cM [.ref mm, .int a, .int b] sz (mX mm q jn cI x0 x1 x2 x3 x4 x5 x6 x7 x8 x9 x10 x11 x12 x13 x14 x15 x16 x17 x18 x19 x20 f0 f1 f2 f3 f4 f5 f6 f7 f8 f9 f10 f11 f12 f13 f14 f15 f16 f17 f18 f19 f20 f21 f22 f23 f24)) (QG (S := Int32 × Int32 × Int32 × (Nat → Int32)) (fun u => some (.int u.1)) (fun u => mX mm q jn cI x0 x1 x2 x3 x4 x5 x6 x7 x8 x9 x10 x11 x12 x13 x14 (u.2.1) (u.2.2.1) x17 x18 x19 x20 f0 f1 f2 f3 f4 f5 f6 f7 f8 f9 f10 f11 (u.2.2.2) f13 f14 f15 f16 f17 f18 f19 f20 f21 f22 f23 f24) (fun u => True) D (va_A (mX mm q jn cI x0 x1 x2 x3 x4 x5 x6 x7 x8 x9 x10 x11 x12 x13 x14 x15 x16 x17 x18 x19 x20 f0 f1 f2 f3 f4 f5 f6 f7 f8 f9 f10 f11 f12 f13 f14 f15 f16 f17 f18 f19 f20 f21 f22 f23 f24) sz)) 0 0 (va_A (mX mm q jn cI x0 x1 x2 x3 x4 x5 x6 x7 x8 x9 x10 x11 x12 x13 x14 x15 x16 x17 x18 x19 x20 f0 f1 f2 f3 f4 f5 f6 f7 f8 f9 f10 f11 f12 f13 f14 f15 f16 f17 f18 f19 f20 f21 f22 f23 f24) sz) := by
  refine go (cc := cX11_state) (maxL := 4) (ret := (some .int)) (by decide) rfl (Nat.le_of_ble_eq_true rfl) ?_
  intro p e s m below meth c ls args Q hQ hsz hx hb hr hml hts hown hlocks hnm hP hK hD hl
  subst hsz
  have hD := hD.self (sz := s.heap.size)
  generalize hAe : va_A (mX mm q jn cI x0 x1 x2 x3 x4 x5 x6 x7 x8 x9 x10 x11 x12 x13 x14 x15 x16 x17 x18 x19 x20 f0 f1 f2 f3 f4 f5 f6 f7 f8 f9 f10 f11 f12 f13 f14 f15 f16 f17 f18 f19 f20 f21 f22 f23 f24) s.heap.size = A at hD hQ
  have hA : ∀ q, s.heap.size ≤ q → A q := fun q h => by rw [← hAe]; exact Or.inr h
  have hS : va_S A s.heap s.heap [] := va_S.rf
  have hl : lv_has ls 4 [(0, .ref mm), (1, .int a), (2, .int b)] := hl
  refine lv_aload_n hx hb dX11_state_0 rfl (lv_at hl 0 rfl) ?_
  refine lv_iload_n hx hb dX11_state_1 rfl (lv_at hl 1 rfl) ?_
  refine roP (va_runV (As := [.int a]) (rest := []) ⟨hx, hb, hml, hown, hts⟩ (k_rowOf l D cI cR cM _  (by first | assumption | omega) (by first | assumption | omega)) (cwV 1 hts gX11_state_X11_rowOf rfl rfl rfl (by decide +kernel) ⟨Nat.le_of_ble_eq_true rfl, Nat.le_of_ble_eq_true rfl⟩) (pre_V hK hP hD 0 11 rfl rfl) rfl rfl hl.1 rfl (lv_room (Nat.le_of_ble_eq_true rfl)) dX11_state_2 ⟨Nat.le_of_ble_eq_true rfl, Nat.le_of_ble_eq_true rfl⟩) hS hA hP (fun r_1 H locs hw hP hS => ?_)
  have h_1 : (r_1.toInt = -1 ∨ IsRow jn f0 r_1.toInt) := hw
  refine lv_istore_n (lv' := [(3, .int r_1), (0, .ref mm), (1, .int a), (2, .int b)]) hx hb dX11_state_5 rfl hl (by decide) rfl (fun ls hl => ?_)
  refine lv_aload_n hx hb dX11_state_6 rfl (lv_at hl 1 rfl) ?_
  refine lv_iload_n hx hb dX11_state_7 rfl (lv_at hl 0 rfl) ?_
  refine call_g (wr := []) (va_runV (As := [.int r_1]) (rest := []) ⟨hx, hb, hml, hown, hts⟩ (k_isPlainGood l D cI cR cM _  (by first | assumption | omega) (h_1)) (cwV 1 hts gX11_state_X11_isPlainGood rfl rfl rfl (by decide +kernel) ⟨Nat.le_of_ble_eq_true rfl, Nat.le_of_ble_eq_true rfl⟩) (pre_V hK hP hD 0 11 rfl rfl) rfl rfl hl.1 rfl (lv_room (Nat.le_of_ble_eq_true rfl)) dX11_state_8 ⟨Nat.le_of_ble_eq_true rfl, Nat.le_of_ble_eq_true rfl⟩) hP hD hS hA [0, 1, 2, 3, 4, 5, 6, 7, 8, 9, 10, 11, 12, 13, 14, 15, 16, 17, 18, 19, 20, 21, 22, 23, 24, 25] [] (by with_unfolding_all rfl) rfl (by decide) (by decide) (fun u_2 H locs hw hP hD hS => ?_)
  obtain ⟨r_2, y15_2, y16_2, g12_2⟩ := u_2
  have hP : va_P D vwCl (mX mm q jn cI x0 x1 x2 x3 x4 x5 x6 x7 x8 x9 x10 x11 x12 x13 x14 y15_2 y16_2 x17 x18 x19 x20 f0 f1 f2 f3 f4 f5 f6 f7 f8 f9 f10 f11 g12_2 f13 f14 f15 f16 f17 f18 f19 f20 f21 f22 f23 f24) H := hP
  have hD : va_D A (mX mm q jn cI x0 x1 x2 x3 x4 x5 x6 x7 x8 x9 x10 x11 x12 x13 x14 y15_2 y16_2 x17 x18 x19 x20 f0 f1 f2 f3 f4 f5 f6 f7 f8 f9 f10 f11 g12_2 f13 f14 f15 f16 f17 f18 f19 f20 f21 f22 f23 f24) := hD
  obtain ⟨h_2, hg_2, hs_2⟩ : (r_2.toInt = 0 ∨ r_2.toInt = 1) ∧ (r_2.toInt = 1 → 0 ≤ r_1.toInt ∧ jn = 1) ∧ (r_2.toInt = 1 → 0 ≤ y16_2.toInt ∧ y16_2.toInt ≤ 10000) := hw
  refine a_if_eq (u := r_2.toInt) (tgt := 30) hx hb dX11_state_11 (by decide) (rfl) (fun c_3 => ?_) (fun c_3 => ?_)
  · refine lv_iconst (v := (-1)) hx hb dX11_state_30 (by decide) ?_
    have hz_4 : (-1 : Int32).toInt = (-1) := by decide
    exact g_iret ((-1 : Int32), y15_2, y16_2, g12_2) hx hb hr hlocks hS rfl (trivial) hP hD hQ (Nat.le_of_ble_eq_true rfl) (Nat.le_of_ble_eq_true rfl) dX11_state_31
  · have hrw := h_1.resolve_left (by omega)
    have hrw1 := hrw
    obtain ⟨ha1, ha2, ha3, ha4, ha5, ha6⟩ := hrw1
    refine lv_iload_n hx hb dX11_state_14 rfl (lv_at hl 3 rfl) ?_
    refine lv_iconst (v := 0) hx hb dX11_state_15 (by decide) ?_
    refine lv_aload_n hx hb dX11_state_16 rfl (lv_at hl 1 rfl) ?_
    refine va_get (D := D) (ci := 11) (v := .ref (q 0)) (C := RX11) (T := TX11) (N := 47) hx hb hts (by decide +kernel) hown hK.1 hP 0 rfl rfl 1 (by decide) (hts (.fieldLink RX11 8 "JugglingHallModel" "rows" "[I") (by decide +kernel)) (fun _ h9 => h9) rfl dX11_state_17 ?_
    refine lv_iload_n hx hb dX11_state_20 rfl (lv_at hl 0 rfl) ?_
    refine a_iald (f := f0) (u := r_1.toInt) hx hb hK.1 hP 1 0 rfl rfl dX11_state_21 (rfl) (by omega) (fun z_5 q_5 e_5 => ?_)
    refine lv_iconst (v := 1) hx hb dX11_state_22 (by decide) ?_
    refine a_isub (u := z_5.toInt) (v := 1) hx hb dX11_state_23 (rfl) (by decide) (by omega) (fun z_6 e_6 => ?_)
    have hz_7 : (0 : Int32).toInt = 0 := by decide
    refine roP (va_runS (As := [.int b, .int 0, .int z_6]) (rest := []) ⟨hx, hb, hml, hown, hts⟩ (k_isIn l D cI cR cM _  ) (va_cwS 3 hts gX11_state_X11_isIn rfl rfl rfl (by decide +kernel) ⟨Nat.le_of_ble_eq_true rfl, Nat.le_of_ble_eq_true rfl⟩) (pre_S hK va_P_nil (va_D_nil (A := fun _ => True))) rfl rfl hl.1 rfl (lv_room (Nat.le_of_ble_eq_true rfl)) dX11_state_24 ⟨Nat.le_of_ble_eq_true rfl, Nat.le_of_ble_eq_true rfl⟩) hS hA hP (fun r_8 H locs hw hP hS => ?_)
    have h_8 : ((r_8.toInt = 1 ∧ (0 : Int32).toInt ≤ b.toInt ∧ b.toInt ≤ z_6.toInt) ∨ (r_8.toInt = 0 ∧ (b.toInt < (0 : Int32).toInt ∨ z_6.toInt < b.toInt))) := hw
    refine a_if_ne (u := r_8.toInt) (tgt := 32) hx hb dX11_state_27 (by decide) (rfl) (fun c_9 => ?_) (fun c_9 => ?_)
    · refine lv_aload_n hx hb dX11_state_32 rfl (lv_at hl 1 rfl) ?_
      refine lv_iload_n hx hb dX11_state_33 rfl (lv_at hl 0 rfl) ?_
      refine lv_iload_n hx hb dX11_state_34 rfl (lv_at hl 3 rfl) ?_
      refine roP (va_runV (As := [.int r_1, .int b]) (rest := []) ⟨hx, hb, hml, hown, hts⟩ (k_stateOf l D cI cR cM _  (by first | assumption | omega) (hrw) (by first | assumption | omega)) (cwV 2 hts gX11_state_X11_stateOf rfl rfl rfl (by decide +kernel) ⟨Nat.le_of_ble_eq_true rfl, Nat.le_of_ble_eq_true rfl⟩) (pre_V hK hP hD 0 11 rfl rfl) rfl rfl hl.1 rfl (lv_room (Nat.le_of_ble_eq_true rfl)) dX11_state_35 ⟨Nat.le_of_ble_eq_true rfl, Nat.le_of_ble_eq_true rfl⟩) hS hA hP (fun r_10 H locs hw hP hS => ?_)
      exact g_iret (r_10, y15_2, y16_2, g12_2) hx hb hr hlocks hS rfl (trivial) hP hD hQ (Nat.le_of_ble_eq_true rfl) (Nat.le_of_ble_eq_true rfl) dX11_state_38
    · refine lv_iconst (v := (-1)) hx hb dX11_state_30 (by decide) ?_
      have hz_11 : (-1 : Int32).toInt = (-1) := by decide
      exact g_iret ((-1 : Int32), y15_2, y16_2, g12_2) hx hb hr hlocks hS rfl (trivial) hP hD hQ (Nat.le_of_ble_eq_true rfl) (Nat.le_of_ble_eq_true rfl) dX11_state_31
