theorem dX11_latest_0 : decode cX11_latest 0 = .ok (.iload_n 2, 1) := by decide +kernel
theorem dX11_latest_1 : decode cX11_latest 1 = .ok (.istore_n 3, 1) := by decide +kernel
theorem dX11_latest_2 : decode cX11_latest 2 = .ok (.iload_n 3, 1) := by decide +kernel
theorem dX11_latest_3 : decode cX11_latest 3 = .ok (.ifCond .le 28, 3) := by decide +kernel
theorem dX11_latest_31 : decode cX11_latest 31 = .ok (.iconst (-1), 1) := by decide +kernel
theorem dX11_latest_32 : decode cX11_latest 32 = .ok (.ireturn, 1) := by decide +kernel
theorem dX11_rowOf_0 : decode cX11_rowOf 0 = .ok (.iload_n 1, 1) := by decide +kernel
theorem dX11_rowOf_1 : decode cX11_rowOf 1 = .ok (.iconst 0, 1) := by decide +kernel
theorem dX11_rowOf_2 : decode cX11_rowOf 2 = .ok (.bipush 7, 2) := by decide +kernel
theorem dX11_rowOf_4 : decode cX11_rowOf 4 = .ok (.invokestatic 100, 3) := by decide +kernel
theorem dX11_rowOf_7 : decode cX11_rowOf 7 = .ok (.ifCond .eq 15, 3) := by decide +kernel
theorem dX11_rowOf_10 : decode cX11_rowOf 10 = .ok (.aload_n 0, 1) := by decide +kernel
theorem dX11_rowOf_11 : decode cX11_rowOf 11 = .ok (.iload_n 1, 1) := by decide +kernel
theorem dX11_rowOf_12 : decode cX11_rowOf 12 = .ok (.aload_n 0, 1) := by decide +kernel
theorem dX11_rowOf_13 : decode cX11_rowOf 13 = .ok (.getfield 104, 3) := by decide +kernel
theorem dX11_rowOf_16 : decode cX11_rowOf 16 = .ok (.invokevirtual 107, 3) := by decide +kernel
theorem dX11_rowOf_19 : decode cX11_rowOf 19 = .ok (.goto 4, 3) := by decide +kernel
theorem dX11_rowOf_22 : decode cX11_rowOf 22 = .ok (.iconst (-1), 1) := by decide +kernel
theorem dX11_rowOf_23 : decode cX11_rowOf 23 = .ok (.ireturn, 1) := by decide +kernel
theorem dX11_fault_0 : decode cX11_fault 0 = .ok (.iload_n 1, 1) := by decide +kernel
theorem dX11_fault_1 : decode cX11_fault 1 = .ok (.ifCond .ne 10, 3) := by decide +kernel
theorem dX11_fault_4 : decode cX11_fault 4 = .ok (.aload_n 0, 1) := by decide +kernel
theorem dX11_fault_5 : decode cX11_fault 5 = .ok (.getfield 20, 3) := by decide +kernel
theorem dX11_fault_8 : decode cX11_fault 8 = .ok (.goto 16, 3) := by decide +kernel
theorem dX11_fault_11 : decode cX11_fault 11 = .ok (.iload_n 1, 1) := by decide +kernel
theorem dX11_fault_12 : decode cX11_fault 12 = .ok (.iconst 1, 1) := by decide +kernel
theorem dX11_fault_13 : decode cX11_fault 13 = .ok (.if_icmp .ne 10, 3) := by decide +kernel
theorem dX11_fault_16 : decode cX11_fault 16 = .ok (.aload_n 0, 1) := by decide +kernel
theorem dX11_fault_17 : decode cX11_fault 17 = .ok (.getfield 24, 3) := by decide +kernel
theorem dX11_fault_20 : decode cX11_fault 20 = .ok (.goto 4, 3) := by decide +kernel
theorem dX11_fault_23 : decode cX11_fault 23 = .ok (.iconst (-1), 1) := by decide +kernel
theorem dX11_fault_24 : decode cX11_fault 24 = .ok (.ireturn, 1) := by decide +kernel
theorem dX11_beats_0 : decode cX11_beats 0 = .ok (.aload_n 0, 1) := by decide +kernel
theorem dX11_beats_1 : decode cX11_beats 1 = .ok (.iload_n 1, 1) := by decide +kernel
theorem dX11_beats_2 : decode cX11_beats 2 = .ok (.invokevirtual 233, 3) := by decide +kernel
theorem dX11_beats_5 : decode cX11_beats 5 = .ok (.istore_n 2, 1) := by decide +kernel
theorem dX11_beats_6 : decode cX11_beats 6 = .ok (.iload_n 2, 1) := by decide +kernel
theorem dX11_beats_7 : decode cX11_beats 7 = .ok (.ifCond .ge 7, 3) := by decide +kernel
theorem dX11_beats_10 : decode cX11_beats 10 = .ok (.iconst (-1), 1) := by decide +kernel
theorem dX11_beats_11 : decode cX11_beats 11 = .ok (.goto 9, 3) := by decide +kernel
theorem dX11_beats_20 : decode cX11_beats 20 = .ok (.ireturn, 1) := by decide +kernel
theorem dX11_isThere_0 : decode cX11_isThere 0 = .ok (.iload_n 1, 1) := by decide +kernel
theorem dX11_isThere_1 : decode cX11_isThere 1 = .ok (.ifCond .lt 47, 3) := by decide +kernel
theorem dX11_isThere_48 : decode cX11_isThere 48 = .ok (.iconst 0, 1) := by decide +kernel
theorem dX11_isThere_49 : decode cX11_isThere 49 = .ok (.ireturn, 1) := by decide +kernel
theorem dX11_thrown_0 : decode cX11_thrown 0 = .ok (.aload_n 0, 1) := by decide +kernel
theorem dX11_thrown_1 : decode cX11_thrown 1 = .ok (.iload_n 1, 1) := by decide +kernel
theorem dX11_thrown_2 : decode cX11_thrown 2 = .ok (.invokevirtual 233, 3) := by decide +kernel
theorem dX11_thrown_5 : decode cX11_thrown 5 = .ok (.istore 6, 2) := by decide +kernel
theorem dX11_thrown_7 : decode cX11_thrown 7 = .ok (.aload_n 0, 1) := by decide +kernel
theorem dX11_thrown_8 : decode cX11_thrown 8 = .ok (.iload 6, 2) := by decide +kernel
theorem dX11_thrown_10 : decode cX11_thrown 10 = .ok (.iload_n 2, 1) := by decide +kernel
theorem dX11_thrown_11 : decode cX11_thrown 11 = .ok (.iload_n 3, 1) := by decide +kernel
theorem dX11_thrown_12 : decode cX11_thrown 12 = .ok (.iload 4, 2) := by decide +kernel
theorem dX11_thrown_14 : decode cX11_thrown 14 = .ok (.invokevirtual 236, 3) := by decide +kernel
theorem dX11_thrown_17 : decode cX11_thrown 17 = .ok (.ifCond .eq 13, 3) := by decide +kernel
theorem dX11_thrown_30 : decode cX11_thrown 30 = .ok (.iconst (-1), 1) := by decide +kernel
theorem dX11_thrown_31 : decode cX11_thrown 31 = .ok (.ireturn, 1) := by decide +kernel
theorem dX11_isGood_0 : decode cX11_isGood 0 = .ok (.iload_n 1, 1) := by decide +kernel
theorem dX11_isGood_1 : decode cX11_isGood 1 = .ok (.ifCond .ge 5, 3) := by decide +kernel
theorem dX11_isGood_4 : decode cX11_isGood 4 = .ok (.iconst 0, 1) := by decide +kernel
theorem dX11_isGood_5 : decode cX11_isGood 5 = .ok (.ireturn, 1) := by decide +kernel
theorem dX11_good_0 : decode cX11_good 0 = .ok (.aload_n 0, 1) := by decide +kernel
theorem dX11_good_1 : decode cX11_good 1 = .ok (.iload_n 1, 1) := by decide +kernel
theorem dX11_good_2 : decode cX11_good 2 = .ok (.invokevirtual 233, 3) := by decide +kernel
theorem dX11_good_5 : decode cX11_good 5 = .ok (.istore_n 3, 1) := by decide +kernel
theorem dX11_good_6 : decode cX11_good 6 = .ok (.iload_n 3, 1) := by decide +kernel
theorem dX11_good_7 : decode cX11_good 7 = .ok (.ifCond .ge 5, 3) := by decide +kernel
theorem dX11_good_10 : decode cX11_good 10 = .ok (.iconst (-1), 1) := by decide +kernel
theorem dX11_good_11 : decode cX11_good 11 = .ok (.ireturn, 1) := by decide +kernel
theorem dX11_tied_0 : decode cX11_tied 0 = .ok (.aload_n 0, 1) := by decide +kernel
theorem dX11_tied_1 : decode cX11_tied 1 = .ok (.iload_n 1, 1) := by decide +kernel
theorem dX11_tied_2 : decode cX11_tied 2 = .ok (.invokevirtual 233, 3) := by decide +kernel
theorem dX11_tied_5 : decode cX11_tied 5 = .ok (.istore_n 2, 1) := by decide +kernel
theorem dX11_tied_6 : decode cX11_tied 6 = .ok (.aload_n 0, 1) := by decide +kernel
theorem dX11_tied_7 : decode cX11_tied 7 = .ok (.iload_n 2, 1) := by decide +kernel
theorem dX11_tied_8 : decode cX11_tied 8 = .ok (.invokevirtual 271, 3) := by decide +kernel
theorem dX11_tied_11 : decode cX11_tied 11 = .ok (.ifCond .ne 5, 3) := by decide +kernel
theorem dX11_tied_14 : decode cX11_tied 14 = .ok (.iconst (-1), 1) := by decide +kernel
theorem dX11_tied_15 : decode cX11_tied 15 = .ok (.ireturn, 1) := by decide +kernel
theorem dX11_cycles_0 : decode cX11_cycles 0 = .ok (.aload_n 0, 1) := by decide +kernel
theorem dX11_cycles_1 : decode cX11_cycles 1 = .ok (.iload_n 1, 1) := by decide +kernel
theorem dX11_cycles_2 : decode cX11_cycles 2 = .ok (.invokevirtual 277, 3) := by decide +kernel
theorem dX11_cycles_5 : decode cX11_cycles 5 = .ok (.ifCond .ge 7, 3) := by decide +kernel
theorem dX11_cycles_8 : decode cX11_cycles 8 = .ok (.iconst (-1), 1) := by decide +kernel
theorem dX11_cycles_9 : decode cX11_cycles 9 = .ok (.goto 7, 3) := by decide +kernel
theorem dX11_cycles_16 : decode cX11_cycles 16 = .ok (.ireturn, 1) := by decide +kernel
theorem dX11_cycle_0 : decode cX11_cycle 0 = .ok (.aload_n 0, 1) := by decide +kernel
theorem dX11_cycle_1 : decode cX11_cycle 1 = .ok (.iload_n 1, 1) := by decide +kernel
theorem dX11_cycle_2 : decode cX11_cycle 2 = .ok (.invokevirtual 277, 3) := by decide +kernel
theorem dX11_cycle_5 : decode cX11_cycle 5 = .ok (.istore 4, 2) := by decide +kernel
theorem dX11_cycle_7 : decode cX11_cycle 7 = .ok (.iload 4, 2) := by decide +kernel
theorem dX11_cycle_9 : decode cX11_cycle 9 = .ok (.ifCond .lt 17, 3) := by decide +kernel
theorem dX11_cycle_26 : decode cX11_cycle 26 = .ok (.iconst (-1), 1) := by decide +kernel
theorem dX11_cycle_27 : decode cX11_cycle 27 = .ok (.ireturn, 1) := by decide +kernel
theorem dX11_cycleOf_0 : decode cX11_cycleOf 0 = .ok (.aload_n 0, 1) := by decide +kernel
theorem dX11_cycleOf_1 : decode cX11_cycleOf 1 = .ok (.iload_n 1, 1) := by decide +kernel
theorem dX11_cycleOf_2 : decode cX11_cycleOf 2 = .ok (.invokevirtual 277, 3) := by decide +kernel
theorem dX11_cycleOf_5 : decode cX11_cycleOf 5 = .ok (.istore 5, 2) := by decide +kernel
theorem dX11_cycleOf_7 : decode cX11_cycleOf 7 = .ok (.aload_n 0, 1) := by decide +kernel
theorem dX11_cycleOf_8 : decode cX11_cycleOf 8 = .ok (.iload 5, 2) := by decide +kernel
theorem dX11_cycleOf_10 : decode cX11_cycleOf 10 = .ok (.iload_n 2, 1) := by decide +kernel
theorem dX11_cycleOf_11 : decode cX11_cycleOf 11 = .ok (.iload_n 3, 1) := by decide +kernel
theorem dX11_cycleOf_12 : decode cX11_cycleOf 12 = .ok (.iload 4, 2) := by decide +kernel
theorem dX11_cycleOf_14 : decode cX11_cycleOf 14 = .ok (.invokevirtual 236, 3) := by decide +kernel
theorem dX11_cycleOf_17 : decode cX11_cycleOf 17 = .ok (.ifCond .ne 5, 3) := by decide +kernel
theorem dX11_cycleOf_20 : decode cX11_cycleOf 20 = .ok (.iconst (-1), 1) := by decide +kernel
theorem dX11_cycleOf_21 : decode cX11_cycleOf 21 = .ok (.ireturn, 1) := by decide +kernel
theorem dX11_caught_0 : decode cX11_caught 0 = .ok (.aload_n 0, 1) := by decide +kernel
theorem dX11_caught_1 : decode cX11_caught 1 = .ok (.iload_n 1, 1) := by decide +kernel
theorem dX11_caught_2 : decode cX11_caught 2 = .ok (.invokevirtual 277, 3) := by decide +kernel
theorem dX11_caught_5 : decode cX11_caught 5 = .ok (.istore 6, 2) := by decide +kernel
theorem dX11_caught_7 : decode cX11_caught 7 = .ok (.iload 6, 2) := by decide +kernel
theorem dX11_caught_9 : decode cX11_caught 9 = .ok (.ifCond .lt 45, 3) := by decide +kernel
theorem dX11_caught_54 : decode cX11_caught 54 = .ok (.iconst (-1), 1) := by decide +kernel
theorem dX11_caught_55 : decode cX11_caught 55 = .ok (.ireturn, 1) := by decide +kernel
theorem dX11_isPlainGood_0 : decode cX11_isPlainGood 0 = .ok (.aload_n 0, 1) := by decide +kernel
theorem dX11_isPlainGood_1 : decode cX11_isPlainGood 1 = .ok (.iload_n 1, 1) := by decide +kernel
theorem dX11_isPlainGood_2 : decode cX11_isPlainGood 2 = .ok (.invokevirtual 271, 3) := by decide +kernel
theorem dX11_isPlainGood_5 : decode cX11_isPlainGood 5 = .ok (.ifCond .eq 15, 3) := by decide +kernel
theorem dX11_isPlainGood_20 : decode cX11_isPlainGood 20 = .ok (.iconst 0, 1) := by decide +kernel
theorem dX11_isPlainGood_21 : decode cX11_isPlainGood 21 = .ok (.ireturn, 1) := by decide +kernel
theorem dX11_state_0 : decode cX11_state 0 = .ok (.aload_n 0, 1) := by decide +kernel
theorem dX11_state_1 : decode cX11_state 1 = .ok (.iload_n 1, 1) := by decide +kernel
theorem dX11_state_2 : decode cX11_state 2 = .ok (.invokevirtual 233, 3) := by decide +kernel
theorem dX11_state_5 : decode cX11_state 5 = .ok (.istore_n 3, 1) := by decide +kernel
theorem dX11_state_6 : decode cX11_state 6 = .ok (.aload_n 0, 1) := by decide +kernel
theorem dX11_state_7 : decode cX11_state 7 = .ok (.iload_n 3, 1) := by decide +kernel
theorem dX11_state_8 : decode cX11_state 8 = .ok (.invokevirtual 286, 3) := by decide +kernel
theorem dX11_state_11 : decode cX11_state 11 = .ok (.ifCond .eq 19, 3) := by decide +kernel
theorem dX11_state_30 : decode cX11_state 30 = .ok (.iconst (-1), 1) := by decide +kernel
theorem dX11_state_31 : decode cX11_state 31 = .ok (.ireturn, 1) := by decide +kernel
theorem dX11_add_0 : decode cX11_add 0 = .ok (.aload_n 0, 1) := by decide +kernel
theorem dX11_add_1 : decode cX11_add 1 = .ok (.iload_n 1, 1) := by decide +kernel
theorem dX11_add_2 : decode cX11_add 2 = .ok (.invokevirtual 233, 3) := by decide +kernel
theorem dX11_add_5 : decode cX11_add 5 = .ok (.istore_n 3, 1) := by decide +kernel
theorem dX11_add_6 : decode cX11_add 6 = .ok (.iload_n 2, 1) := by decide +kernel
theorem dX11_add_7 : decode cX11_add 7 = .ok (.iconst 1, 1) := by decide +kernel
theorem dX11_add_8 : decode cX11_add 8 = .ok (.bipush 50, 2) := by decide +kernel
theorem dX11_add_10 : decode cX11_add 10 = .ok (.invokestatic 100, 3) := by decide +kernel
theorem dX11_add_13 : decode cX11_add 13 = .ok (.ifCond .eq 11, 3) := by decide +kernel
theorem dX11_add_16 : decode cX11_add 16 = .ok (.aload_n 0, 1) := by decide +kernel
theorem dX11_add_17 : decode cX11_add 17 = .ok (.iload_n 3, 1) := by decide +kernel
theorem dX11_add_18 : decode cX11_add 18 = .ok (.invokevirtual 286, 3) := by decide +kernel
theorem dX11_add_21 : decode cX11_add 21 = .ok (.ifCond .ne 5, 3) := by decide +kernel
theorem dX11_add_24 : decode cX11_add 24 = .ok (.iconst (-1), 1) := by decide +kernel
theorem dX11_add_25 : decode cX11_add 25 = .ok (.ireturn, 1) := by decide +kernel
theorem dX11_score_0 : decode cX11_score 0 = .ok (.iload_n 1, 1) := by decide +kernel
theorem dX11_score_1 : decode cX11_score 1 = .ok (.iconst 0, 1) := by decide +kernel
theorem dX11_score_2 : decode cX11_score 2 = .ok (.aload_n 0, 1) := by decide +kernel
theorem dX11_score_3 : decode cX11_score 3 = .ok (.getfield 310, 3) := by decide +kernel
theorem dX11_score_6 : decode cX11_score 6 = .ok (.iconst 1, 1) := by decide +kernel
theorem dX11_score_7 : decode cX11_score 7 = .ok (.isub, 1) := by decide +kernel
theorem dX11_score_8 : decode cX11_score 8 = .ok (.invokestatic 100, 3) := by decide +kernel
theorem dX11_score_11 : decode cX11_score 11 = .ok (.ifCond .ne 5, 3) := by decide +kernel
theorem dX11_score_14 : decode cX11_score 14 = .ok (.iconst (-1), 1) := by decide +kernel
theorem dX11_score_15 : decode cX11_score 15 = .ok (.ireturn, 1) := by decide +kernel
theorem dX11_seenRow_0 : decode cX11_seenRow 0 = .ok (.aload_n 0, 1) := by decide +kernel
theorem dX11_seenRow_1 : decode cX11_seenRow 1 = .ok (.getfield 104, 3) := by decide +kernel
theorem dX11_seenRow_4 : decode cX11_seenRow 4 = .ok (.istore_n 1, 1) := by decide +kernel
theorem dX11_seenRow_5 : decode cX11_seenRow 5 = .ok (.iload_n 1, 1) := by decide +kernel
theorem dX11_seenRow_6 : decode cX11_seenRow 6 = .ok (.ifCond .le 26, 3) := by decide +kernel
theorem dX11_seenRow_32 : decode cX11_seenRow 32 = .ok (.iconst (-1), 1) := by decide +kernel
theorem dX11_seenRow_33 : decode cX11_seenRow 33 = .ok (.ireturn, 1) := by decide +kernel
theorem dX11_seen_0 : decode cX11_seen 0 = .ok (.aload_n 0, 1) := by decide +kernel
theorem dX11_seen_1 : decode cX11_seen 1 = .ok (.invokevirtual 323, 3) := by decide +kernel
theorem dX11_seen_4 : decode cX11_seen 4 = .ok (.istore_n 2, 1) := by decide +kernel
theorem dX11_seen_5 : decode cX11_seen 5 = .ok (.iload_n 1, 1) := by decide +kernel
theorem dX11_seen_6 : decode cX11_seen 6 = .ok (.ifCond .ne 18, 3) := by decide +kernel
theorem dX11_seen_9 : decode cX11_seen 9 = .ok (.iload_n 2, 1) := by decide +kernel
theorem dX11_seen_10 : decode cX11_seen 10 = .ok (.ifCond .ge 7, 3) := by decide +kernel
theorem dX11_seen_13 : decode cX11_seen 13 = .ok (.iconst 0, 1) := by decide +kernel
theorem dX11_seen_14 : decode cX11_seen 14 = .ok (.goto 9, 3) := by decide +kernel
theorem dX11_seen_23 : decode cX11_seen 23 = .ok (.ireturn, 1) := by decide +kernel
theorem dX11_seen_24 : decode cX11_seen 24 = .ok (.iload_n 2, 1) := by decide +kernel
theorem dX11_seen_25 : decode cX11_seen 25 = .ok (.ifCond .lt 21, 3) := by decide +kernel
theorem dX11_seen_46 : decode cX11_seen 46 = .ok (.iconst (-1), 1) := by decide +kernel
theorem dX11_seen_47 : decode cX11_seen 47 = .ok (.ireturn, 1) := by decide +kernel
theorem dX11_whole_0 : decode cX11_whole 0 = .ok (.aload_n 0, 1) := by decide +kernel
theorem dX11_whole_1 : decode cX11_whole 1 = .ok (.invokevirtual 323, 3) := by decide +kernel
theorem dX11_whole_4 : decode cX11_whole 4 = .ok (.istore_n 3, 1) := by decide +kernel
theorem dX11_whole_5 : decode cX11_whole 5 = .ok (.iload_n 3, 1) := by decide +kernel
theorem dX11_whole_6 : decode cX11_whole 6 = .ok (.ifCond .lt 18, 3) := by decide +kernel
theorem dX11_whole_24 : decode cX11_whole 24 = .ok (.iconst (-1), 1) := by decide +kernel
theorem dX11_whole_25 : decode cX11_whole 25 = .ok (.ireturn, 1) := by decide +kernel
theorem dX11_drop_0 : decode cX11_drop 0 = .ok (.aload_n 0, 1) := by decide +kernel
theorem dX11_drop_1 : decode cX11_drop 1 = .ok (.iload_n 1, 1) := by decide +kernel
theorem dX11_drop_2 : decode cX11_drop 2 = .ok (.invokevirtual 277, 3) := by decide +kernel
theorem dX11_drop_5 : decode cX11_drop 5 = .ok (.istore 4, 2) := by decide +kernel
theorem dX11_drop_7 : decode cX11_drop 7 = .ok (.iload 4, 2) := by decide +kernel
theorem dX11_drop_9 : decode cX11_drop 9 = .ok (.ifCond .lt 44, 3) := by decide +kernel
theorem dX11_drop_53 : decode cX11_drop 53 = .ok (.iconst (-1), 1) := by decide +kernel
theorem dX11_drop_54 : decode cX11_drop 54 = .ok (.ireturn, 1) := by decide +kernel
theorem dX11_turned_0 : decode cX11_turned 0 = .ok (.aload_n 0, 1) := by decide +kernel
theorem dX11_turned_1 : decode cX11_turned 1 = .ok (.iload_n 1, 1) := by decide +kernel
theorem dX11_turned_2 : decode cX11_turned 2 = .ok (.invokevirtual 233, 3) := by decide +kernel
theorem dX11_turned_5 : decode cX11_turned 5 = .ok (.istore_n 3, 1) := by decide +kernel
theorem dX11_turned_6 : decode cX11_turned 6 = .ok (.aload_n 0, 1) := by decide +kernel
theorem dX11_turned_7 : decode cX11_turned 7 = .ok (.iload_n 2, 1) := by decide +kernel
theorem dX11_turned_8 : decode cX11_turned 8 = .ok (.invokevirtual 233, 3) := by decide +kernel
theorem dX11_turned_11 : decode cX11_turned 11 = .ok (.istore 4, 2) := by decide +kernel
theorem dX11_turned_13 : decode cX11_turned 13 = .ok (.iload_n 3, 1) := by decide +kernel
theorem dX11_turned_14 : decode cX11_turned 14 = .ok (.ifCond .lt 24, 3) := by decide +kernel
theorem dX11_turned_38 : decode cX11_turned 38 = .ok (.iconst (-1), 1) := by decide +kernel
theorem dX11_turned_39 : decode cX11_turned 39 = .ok (.ireturn, 1) := by decide +kernel
theorem dX11_about_0 : decode cX11_about 0 = .ok (.iconst 0, 1) := by decide +kernel
theorem dX11_about_1 : decode cX11_about 1 = .ok (.istore_n 2, 1) := by decide +kernel
theorem dX11_about_2 : decode cX11_about 2 = .ok (.iload_n 1, 1) := by decide +kernel
theorem dX11_about_3 : decode cX11_about 3 = .ok (.tableswitch 94 0 5 #[37, 42, 47, 52, 57, 62], 37) := by decide +kernel
theorem dX11_about_40 : decode cX11_about 40 = .ok (.aload_n 0, 1) := by decide +kernel
theorem dX11_about_41 : decode cX11_about 41 = .ok (.getfield 93, 3) := by decide +kernel
theorem dX11_about_44 : decode cX11_about 44 = .ok (.ireturn, 1) := by decide +kernel
theorem dX11_about_45 : decode cX11_about 45 = .ok (.aload_n 0, 1) := by decide +kernel
theorem dX11_about_46 : decode cX11_about 46 = .ok (.getfield 185, 3) := by decide +kernel
theorem dX11_about_49 : decode cX11_about 49 = .ok (.ireturn, 1) := by decide +kernel
theorem dX11_about_50 : decode cX11_about 50 = .ok (.aload_n 0, 1) := by decide +kernel
theorem dX11_about_51 : decode cX11_about 51 = .ok (.getfield 104, 3) := by decide +kernel
theorem dX11_about_54 : decode cX11_about 54 = .ok (.ireturn, 1) := by decide +kernel
theorem dX11_about_55 : decode cX11_about 55 = .ok (.aload_n 0, 1) := by decide +kernel
theorem dX11_about_56 : decode cX11_about 56 = .ok (.getfield 110, 3) := by decide +kernel
theorem dX11_about_59 : decode cX11_about 59 = .ok (.ireturn, 1) := by decide +kernel
theorem dX11_about_60 : decode cX11_about 60 = .ok (.aload_n 0, 1) := by decide +kernel
theorem dX11_about_61 : decode cX11_about 61 = .ok (.getfield 310, 3) := by decide +kernel
theorem dX11_about_64 : decode cX11_about 64 = .ok (.ireturn, 1) := by decide +kernel
theorem dX11_about_65 : decode cX11_about 65 = .ok (.iconst 0, 1) := by decide +kernel
theorem dX11_about_66 : decode cX11_about 66 = .ok (.istore_n 3, 1) := by decide +kernel
theorem dX11_about_67 : decode cX11_about 67 = .ok (.iload_n 3, 1) := by decide +kernel
theorem dX11_about_68 : decode cX11_about 68 = .ok (.bipush 8, 2) := by decide +kernel
theorem dX11_about_70 : decode cX11_about 70 = .ok (.if_icmp .ge 25, 3) := by decide +kernel
theorem dX11_about_73 : decode cX11_about 73 = .ok (.iload_n 2, 1) := by decide +kernel
theorem dX11_about_74 : decode cX11_about 74 = .ok (.aload_n 0, 1) := by decide +kernel
theorem dX11_about_75 : decode cX11_about 75 = .ok (.iload_n 3, 1) := by decide +kernel
theorem dX11_about_76 : decode cX11_about 76 = .ok (.invokevirtual 233, 3) := by decide +kernel
theorem dX11_about_79 : decode cX11_about 79 = .ok (.ifCond .lt 7, 3) := by decide +kernel
theorem dX11_about_86 : decode cX11_about 86 = .ok (.iconst 0, 1) := by decide +kernel
theorem dX11_about_87 : decode cX11_about 87 = .ok (.iadd, 1) := by decide +kernel
theorem dX11_about_88 : decode cX11_about 88 = .ok (.istore_n 2, 1) := by decide +kernel
theorem dX11_about_89 : decode cX11_about 89 = .ok (.iinc 3 1, 3) := by decide +kernel
theorem dX11_about_92 : decode cX11_about 92 = .ok (.goto (-25), 3) := by decide +kernel
theorem dX11_about_95 : decode cX11_about 95 = .ok (.iload_n 2, 1) := by decide +kernel
theorem dX11_about_96 : decode cX11_about 96 = .ok (.ireturn, 1) := by decide +kernel
theorem dX11_about_97 : decode cX11_about 97 = .ok (.iconst (-1), 1) := by decide +kernel
theorem dX11_about_98 : decode cX11_about 98 = .ok (.ireturn, 1) := by decide +kernel
set_option maxRecDepth 20000 in
theorem ggX11_rowOf_X11_isIn : GoodIn wsX11_rowOf wsX11_isIn := goodIn_r _ [5] (by decide +kernel) (by decide +kernel)
set_option maxRecDepth 20000 in
theorem gX11_rowOf_X11_isIn : GoodIn wsX11_rowOf (va_wsS RX11 100 yX11_isIn wsX11_isIn) := goodIn_app (goodIn_of _ (by decide +kernel)) ggX11_rowOf_X11_isIn
set_option maxRecDepth 20000 in
theorem ggX11_rowOf_X11_latest : GoodIn wsX11_rowOf wsX11_latest := goodIn_r _ [9, 10, 11, 12, 4, 13, 14, 15, 16, 17, 18, 19, 20, 21, 22, 23, 24, 25, 26, 27, 28, 29, 30, 31, 32, 33, 34, 35, 36, 37, 38, 39, 40, 41, 42, 43, 44, 45, 46, 47, 48, 49, 50, 51, 52, 53, 54, 55, 56, 57, 58, 59, 60] (by decide +kernel) (by decide +kernel)
set_option maxRecDepth 20000 in
theorem gX11_rowOf_X11_latest : GoodIn wsX11_rowOf (wsV RX11 107 RX11 yX11_latest wsX11_latest) := goodIn_app (goodIn_of _ (by decide +kernel)) ggX11_rowOf_X11_latest
set_option maxRecDepth 20000 in
theorem ggX11_beats_X11_rowOf : GoodIn wsX11_beats wsX11_rowOf := goodIn_r _ [6, 7, 8, 9, 5, 10, 11, 12, 13, 14, 1, 15, 16, 17, 18, 19, 20, 21, 22, 23, 24, 25, 26, 27, 28, 29, 30, 31, 32, 33, 34, 35, 36, 37, 38, 39, 40, 41, 42, 43, 44, 45, 46, 47, 48, 49, 50, 51, 52, 53, 54, 55, 56, 57, 58, 59, 60, 61, 62, 63, 64] (by decide +kernel) (by decide +kernel)
set_option maxRecDepth 20000 in
theorem gX11_beats_X11_rowOf : GoodIn wsX11_beats (wsV RX11 233 RX11 yX11_rowOf wsX11_rowOf) := goodIn_app (goodIn_of _ (by decide +kernel)) ggX11_beats_X11_rowOf
set_option maxRecDepth 20000 in
theorem ggX11_thrown_X11_rowOf : GoodIn wsX11_thrown wsX11_rowOf := goodIn_r _ [5, 6, 7, 8, 4, 9, 10, 11, 12, 13, 14, 15, 16, 17, 31, 32, 33, 34, 35, 36, 37, 38, 39, 40, 41, 42, 43, 44, 45, 46, 47, 48, 49, 50, 51, 52, 53, 54, 55, 56, 57, 58, 59, 60, 61, 62, 63, 64, 65, 66, 67, 68, 69, 70, 71, 72, 73, 74, 75, 76, 77] (by decide +kernel) (by decide +kernel)
set_option maxRecDepth 20000 in
theorem gX11_thrown_X11_rowOf : GoodIn wsX11_thrown (wsV RX11 233 RX11 yX11_rowOf wsX11_rowOf) := goodIn_app (goodIn_of _ (by decide +kernel)) ggX11_thrown_X11_rowOf
set_option maxRecDepth 20000 in
theorem ggX11_thrown_X11_isThere : GoodIn wsX11_thrown wsX11_isThere := goodIn_r _ [21, 14, 22, 7, 8, 4, 9, 31, 32, 33, 34, 35, 36, 37, 38, 39, 40, 41, 42, 43, 44, 45, 46, 47, 48, 49, 50, 51, 52, 53, 54, 55, 56, 57, 58, 59, 60, 61, 62, 63, 64, 65, 66, 67, 68, 69, 70, 71, 72, 73, 74, 75, 76, 77] (by decide +kernel) (by decide +kernel)
set_option maxRecDepth 20000 in
theorem gX11_thrown_X11_isThere : GoodIn wsX11_thrown (wsV RX11 236 RX11 yX11_isThere wsX11_isThere) := goodIn_app (goodIn_of _ (by decide +kernel)) ggX11_thrown_X11_isThere
set_option maxRecDepth 20000 in
theorem ggX11_good_X11_rowOf : GoodIn wsX11_good wsX11_rowOf := goodIn_r _ [8, 9, 10, 11, 7, 12, 13, 14, 15, 16, 3, 17, 18, 19, 38, 39, 40, 41, 42, 43, 44, 45, 46, 47, 48, 49, 50, 51, 52, 53, 54, 55, 56, 57, 58, 59, 60, 61, 62, 63, 64, 65, 66, 67, 68, 69, 70, 71, 72, 73, 74, 75, 76, 77, 78, 79, 80, 81, 82, 83, 84] (by decide +kernel) (by decide +kernel)
set_option maxRecDepth 20000 in
theorem gX11_good_X11_rowOf : GoodIn wsX11_good (wsV RX11 233 RX11 yX11_rowOf wsX11_rowOf) := goodIn_app (goodIn_of _ (by decide +kernel)) ggX11_good_X11_rowOf
set_option maxRecDepth 20000 in
theorem ggX11_tied_X11_rowOf : GoodIn wsX11_tied wsX11_rowOf := goodIn_r _ [5, 6, 7, 8, 4, 9, 10, 11, 12, 13, 14, 15, 16, 17, 59, 60, 61, 62, 63, 64, 65, 66, 67, 68, 69, 70, 71, 72, 73, 74, 75, 76, 77, 78, 79, 80, 81, 82, 83, 84, 85, 86, 87, 88, 89, 90, 91, 92, 93, 94, 95, 96, 97, 98, 99, 100, 101, 102, 103, 104, 105] (by decide +kernel) (by decide +kernel)
set_option maxRecDepth 20000 in
theorem gX11_tied_X11_rowOf : GoodIn wsX11_tied (wsV RX11 233 RX11 yX11_rowOf wsX11_rowOf) := goodIn_app (goodIn_of _ (by decide +kernel)) ggX11_tied_X11_rowOf
set_option maxRecDepth 20000 in
theorem ggX11_tied_X11_isGood : GoodIn wsX11_tied wsX11_isGood := goodIn_r _ [21, 22, 23, 24, 25, 4, 26, 14, 27, 28, 29, 30, 31, 32, 33, 34, 35, 36, 59, 60, 61, 62, 63, 64, 65, 66, 67, 68, 69, 70, 71, 72, 73, 74, 75, 76, 77, 78, 79, 80, 81, 82, 83, 84, 85, 86, 87, 88, 89, 90, 91, 92, 93, 94, 95, 96, 97, 98, 99, 100, 101, 102, 103, 104, 105] (by decide +kernel) (by decide +kernel)
set_option maxRecDepth 20000 in
theorem gX11_tied_X11_isGood : GoodIn wsX11_tied (wsV RX11 271 RX11 yX11_isGood wsX11_isGood) := goodIn_app (goodIn_of _ (by decide +kernel)) ggX11_tied_X11_isGood
set_option maxRecDepth 20000 in
theorem ggX11_cycles_X11_tied : GoodIn wsX11_cycles wsX11_tied := goodIn_r _ [6, 7, 8, 9, 5, 10, 11, 12, 13, 14, 15, 16, 17, 18, 19, 20, 21, 22, 23, 24, 25, 26, 27, 28, 29, 30, 31, 32, 33, 34, 35, 36, 37, 38, 39, 40, 41, 42, 43, 44, 45, 46, 47, 48, 49, 50, 1, 51, 52, 53, 54, 55, 56, 57, 58, 59, 60, 61, 62, 63, 64, 65, 66, 67, 68, 69, 70, 71, 72, 73, 74, 75, 76, 77, 78, 79, 80, 81, 82, 83, 84, 85, 86, 87, 88, 89, 90, 91, 92, 93, 94, 95, 96, 97, 98, 99, 100, 101, 102, 103, 104, 105, 106, 107, 108, 109] (by decide +kernel) (by decide +kernel)
set_option maxRecDepth 20000 in
theorem gX11_cycles_X11_tied : GoodIn wsX11_cycles (wsV RX11 277 RX11 yX11_tied wsX11_tied) := goodIn_app (goodIn_of _ (by decide +kernel)) ggX11_cycles_X11_tied
set_option maxRecDepth 20000 in
theorem ggX11_cycle_X11_tied : GoodIn wsX11_cycle wsX11_tied := goodIn_r _ [8, 9, 10, 11, 7, 12, 13, 14, 15, 16, 17, 18, 19, 20, 2, 21, 22, 23, 24, 25, 26, 27, 28, 29, 30, 31, 32, 33, 34, 35, 36, 37, 38, 39, 40, 41, 42, 43, 44, 45, 46, 47, 48, 3, 49, 50, 1, 51, 52, 53, 54, 55, 56, 57, 58, 59, 60, 61, 62, 63, 64, 65, 66, 67, 68, 69, 70, 71, 72, 73, 74, 75, 76, 77, 78, 79, 80, 81, 82, 83, 84, 85, 86, 87, 88, 89, 90, 91, 92, 93, 94, 95, 96, 97, 98, 99, 100, 101, 102, 103, 104, 105, 106, 107, 108, 109] (by decide +kernel) (by decide +kernel)
set_option maxRecDepth 20000 in
theorem gX11_cycle_X11_tied : GoodIn wsX11_cycle (wsV RX11 277 RX11 yX11_tied wsX11_tied) := goodIn_app (goodIn_of _ (by decide +kernel)) ggX11_cycle_X11_tied
set_option maxRecDepth 20000 in
theorem ggX11_cycleOf_X11_tied : GoodIn wsX11_cycleOf wsX11_tied := goodIn_r _ [6, 7, 8, 9, 5, 10, 11, 12, 13, 14, 15, 16, 17, 18, 19, 20, 21, 22, 23, 24, 25, 26, 27, 28, 29, 30, 31, 32, 33, 34, 35, 36, 37, 38, 39, 40, 41, 42, 43, 44, 45, 46, 47, 1, 48, 49, 50, 51, 52, 53, 54, 55, 56, 57, 58, 59, 60, 61, 62, 67, 68, 69, 70, 71, 72, 73, 74, 75, 76, 77, 78, 79, 80, 81, 82, 83, 84, 85, 86, 87, 88, 89, 90, 91, 92, 93, 94, 95, 96, 97, 98, 99, 100, 101, 102, 103, 104, 105, 106, 107, 108, 109, 110, 111, 112, 113] (by decide +kernel) (by decide +kernel)
set_option maxRecDepth 20000 in
theorem gX11_cycleOf_X11_tied : GoodIn wsX11_cycleOf (wsV RX11 277 RX11 yX11_tied wsX11_tied) := goodIn_app (goodIn_of _ (by decide +kernel)) ggX11_cycleOf_X11_tied
set_option maxRecDepth 20000 in
theorem ggX11_cycleOf_X11_isThere : GoodIn wsX11_cycleOf wsX11_isThere := goodIn_r _ [66, 19, 48, 12, 13, 5, 14, 67, 68, 69, 70, 71, 72, 73, 74, 75, 76, 77, 78, 79, 80, 81, 82, 83, 84, 85, 86, 87, 88, 89, 90, 91, 92, 93, 94, 95, 96, 97, 98, 99, 100, 101, 102, 103, 104, 105, 106, 107, 108, 109, 110, 111, 112, 113] (by decide +kernel) (by decide +kernel)
set_option maxRecDepth 20000 in
theorem gX11_cycleOf_X11_isThere : GoodIn wsX11_cycleOf (wsV RX11 236 RX11 yX11_isThere wsX11_isThere) := goodIn_app (goodIn_of _ (by decide +kernel)) ggX11_cycleOf_X11_isThere
set_option maxRecDepth 20000 in
theorem ggX11_caught_X11_tied : GoodIn wsX11_caught wsX11_tied := goodIn_r _ [7, 8, 9, 10, 6, 11, 12, 13, 14, 15, 16, 17, 18, 19, 1, 20, 21, 22, 23, 24, 25, 26, 27, 28, 29, 30, 31, 32, 33, 34, 35, 36, 37, 38, 39, 40, 41, 42, 43, 44, 45, 46, 2, 47, 48, 49, 50, 51, 52, 53, 54, 55, 56, 57, 58, 59, 60, 61, 62, 75, 76, 77, 78, 79, 80, 81, 82, 83, 84, 85, 86, 87, 88, 89, 90, 91, 92, 93, 94, 95, 96, 97, 98, 99, 100, 101, 102, 103, 104, 105, 106, 107, 108, 109, 110, 111, 112, 113, 114, 115, 116, 117, 118, 119, 120, 121] (by decide +kernel) (by decide +kernel)
set_option maxRecDepth 20000 in
theorem gX11_caught_X11_tied : GoodIn wsX11_caught (wsV RX11 277 RX11 yX11_tied wsX11_tied) := goodIn_app (goodIn_of _ (by decide +kernel)) ggX11_caught_X11_tied
set_option maxRecDepth 20000 in
theorem ggX11_isPlainGood_X11_isGood : GoodIn wsX11_isPlainGood wsX11_isGood := goodIn_r _ [5, 6, 7, 8, 9, 4, 10, 11, 12, 13, 14, 15, 16, 17, 18, 19, 20, 21, 27, 28, 29, 30, 31, 32, 33, 34, 35, 36, 37, 38, 39, 40, 41, 42, 43, 44, 45, 46, 47, 48, 49, 50, 51, 52, 53, 54, 55, 56, 57, 58, 59, 60, 61, 62, 63, 64, 65, 66, 67, 68, 69, 70, 71, 72, 73] (by decide +kernel) (by decide +kernel)
set_option maxRecDepth 20000 in
theorem gX11_isPlainGood_X11_isGood : GoodIn wsX11_isPlainGood (wsV RX11 271 RX11 yX11_isGood wsX11_isGood) := goodIn_app (goodIn_of _ (by decide +kernel)) ggX11_isPlainGood_X11_isGood
set_option maxRecDepth 20000 in
theorem ggX11_state_X11_rowOf : GoodIn wsX11_state wsX11_rowOf := goodIn_r _ [6, 7, 8, 9, 5, 10, 11, 12, 13, 14, 1, 15, 16, 17, 53, 54, 55, 56, 57, 58, 59, 60, 61, 62, 63, 64, 65, 66, 67, 68, 69, 70, 71, 72, 73, 74, 75, 76, 77, 78, 79, 80, 81, 82, 83, 84, 85, 86, 87, 88, 89, 90, 91, 92, 93, 94, 95, 96, 97, 98, 99] (by decide +kernel) (by decide +kernel)
set_option maxRecDepth 20000 in
theorem gX11_state_X11_rowOf : GoodIn wsX11_state (wsV RX11 233 RX11 yX11_rowOf wsX11_rowOf) := goodIn_app (goodIn_of _ (by decide +kernel)) ggX11_state_X11_rowOf
set_option maxRecDepth 20000 in
theorem ggX11_state_X11_isPlainGood : GoodIn wsX11_state wsX11_isPlainGood := goodIn_r _ [21, 22, 23, 24, 5, 25, 26, 27, 28, 29, 30, 1, 31, 32, 33, 34, 35, 36, 37, 38, 39, 40, 41, 42, 43, 44, 45, 53, 54, 55, 56, 57, 58, 59, 60, 61, 62, 63, 64, 65, 66, 67, 68, 69, 70, 71, 72, 73, 74, 75, 76, 77, 78, 79, 80, 81, 82, 83, 84, 85, 86, 87, 88, 89, 90, 91, 92, 93, 94, 95, 96, 97, 98, 99] (by decide +kernel) (by decide +kernel)
set_option maxRecDepth 20000 in
theorem gX11_state_X11_isPlainGood : GoodIn wsX11_state (wsV RX11 286 RX11 yX11_isPlainGood wsX11_isPlainGood) := goodIn_app (goodIn_of _ (by decide +kernel)) ggX11_state_X11_isPlainGood
set_option maxRecDepth 20000 in
theorem ggX11_add_X11_rowOf : GoodIn wsX11_add wsX11_rowOf := goodIn_r _ [11, 12, 13, 14, 10, 15, 16, 17, 18, 19, 2, 20, 21, 22, 75, 76, 77, 78, 79, 80, 81, 82, 83, 84, 85, 86, 87, 88, 89, 90, 91, 92, 93, 94, 95, 96, 97, 98, 99, 100, 101, 102, 103, 104, 105, 106, 107, 108, 109, 110, 111, 112, 113, 114, 115, 116, 117, 118, 119, 120, 121] (by decide +kernel) (by decide +kernel)
set_option maxRecDepth 20000 in
theorem gX11_add_X11_rowOf : GoodIn wsX11_add (wsV RX11 233 RX11 yX11_rowOf wsX11_rowOf) := goodIn_app (goodIn_of _ (by decide +kernel)) ggX11_add_X11_rowOf
set_option maxRecDepth 20000 in
theorem ggX11_add_X11_isIn : GoodIn wsX11_add wsX11_isIn := goodIn_r _ [15] (by decide +kernel) (by decide +kernel)
set_option maxRecDepth 20000 in
theorem gX11_add_X11_isIn : GoodIn wsX11_add (va_wsS RX11 100 yX11_isIn wsX11_isIn) := goodIn_app (goodIn_of _ (by decide +kernel)) ggX11_add_X11_isIn
set_option maxRecDepth 20000 in
theorem ggX11_add_X11_isPlainGood : GoodIn wsX11_add wsX11_isPlainGood := goodIn_r _ [26, 27, 28, 29, 10, 30, 31, 32, 33, 34, 35, 2, 36, 1, 37, 38, 39, 40, 41, 42, 43, 44, 45, 46, 47, 48, 49, 75, 76, 77, 78, 79, 80, 81, 82, 83, 84, 85, 86, 87, 88, 89, 90, 91, 92, 93, 94, 95, 96, 97, 98, 99, 100, 101, 102, 103, 104, 105, 106, 107, 108, 109, 110, 111, 112, 113, 114, 115, 116, 117, 118, 119, 120, 121] (by decide +kernel) (by decide +kernel)
set_option maxRecDepth 20000 in
theorem gX11_add_X11_isPlainGood : GoodIn wsX11_add (wsV RX11 286 RX11 yX11_isPlainGood wsX11_isPlainGood) := goodIn_app (goodIn_of _ (by decide +kernel)) ggX11_add_X11_isPlainGood
set_option maxRecDepth 20000 in
theorem ggX11_score_X11_isIn : GoodIn wsX11_score wsX11_isIn := goodIn_r _ [7] (by decide +kernel) (by decide +kernel)
set_option maxRecDepth 20000 in
theorem gX11_score_X11_isIn : GoodIn wsX11_score (va_wsS RX11 100 yX11_isIn wsX11_isIn) := goodIn_app (goodIn_of _ (by decide +kernel)) ggX11_score_X11_isIn
set_option maxRecDepth 20000 in
theorem ggX11_seen_X11_seenRow : GoodIn wsX11_seen wsX11_seenRow := goodIn_r _ [6, 7, 1, 11, 12, 13, 14, 15, 16, 17, 18, 19, 20, 21, 22, 23, 24, 25, 26, 27, 28, 29, 30, 31, 32, 33, 34, 35, 36, 37, 38, 39, 40, 41, 42, 43, 44, 45, 46, 47, 48, 49, 50, 51, 52, 53, 54, 55, 56, 57] (by decide +kernel) (by decide +kernel)
set_option maxRecDepth 20000 in
theorem gX11_seen_X11_seenRow : GoodIn wsX11_seen (wsV RX11 323 RX11 yX11_seenRow wsX11_seenRow) := goodIn_app (goodIn_of _ (by decide +kernel)) ggX11_seen_X11_seenRow
set_option maxRecDepth 20000 in
theorem ggX11_whole_X11_seenRow : GoodIn wsX11_whole wsX11_seenRow := goodIn_r _ [7, 8, 1, 17, 18, 19, 20, 21, 22, 23, 24, 25, 26, 27, 28, 29, 30, 31, 32, 33, 34, 35, 36, 37, 38, 39, 40, 41, 42, 43, 44, 45, 46, 47, 48, 49, 50, 51, 52, 53, 54, 55, 56, 57, 58, 59, 60, 61, 62, 63] (by decide +kernel) (by decide +kernel)
set_option maxRecDepth 20000 in
theorem gX11_whole_X11_seenRow : GoodIn wsX11_whole (wsV RX11 323 RX11 yX11_seenRow wsX11_seenRow) := goodIn_app (goodIn_of _ (by decide +kernel)) ggX11_whole_X11_seenRow
set_option maxRecDepth 20000 in
theorem ggX11_drop_X11_tied : GoodIn wsX11_drop wsX11_tied := goodIn_r _ [10, 11, 12, 13, 9, 14, 5, 15, 16, 17, 18, 19, 20, 21, 3, 22, 23, 24, 25, 26, 27, 28, 29, 30, 31, 32, 33, 34, 35, 36, 37, 38, 39, 40, 41, 42, 43, 44, 45, 46, 47, 48, 49, 4, 50, 51, 2, 52, 53, 54, 55, 56, 57, 58, 59, 60, 61, 62, 63, 67, 68, 69, 70, 71, 72, 73, 74, 75, 76, 77, 78, 79, 80, 81, 82, 83, 84, 85, 86, 87, 88, 89, 90, 91, 92, 93, 94, 95, 96, 97, 98, 99, 100, 101, 102, 103, 104, 105, 106, 107, 108, 109, 110, 111, 112, 113] (by decide +kernel) (by decide +kernel)
set_option maxRecDepth 20000 in
theorem gX11_drop_X11_tied : GoodIn wsX11_drop (wsV RX11 277 RX11 yX11_tied wsX11_tied) := goodIn_app (goodIn_of _ (by decide +kernel)) ggX11_drop_X11_tied
set_option maxRecDepth 20000 in
theorem ggX11_turned_X11_rowOf : GoodIn wsX11_turned wsX11_rowOf := goodIn_r _ [6, 7, 8, 9, 5, 10, 11, 12, 13, 14, 1, 15, 16, 17, 18, 19, 20, 21, 22, 23, 24, 25, 26, 27, 28, 29, 30, 31, 32, 33, 34, 35, 36, 37, 38, 39, 40, 41, 42, 43, 44, 45, 46, 47, 48, 49, 50, 51, 52, 53, 54, 55, 56, 57, 58, 59, 60, 61, 62, 63, 64] (by decide +kernel) (by decide +kernel)
set_option maxRecDepth 20000 in
theorem gX11_turned_X11_rowOf : GoodIn wsX11_turned (wsV RX11 233 RX11 yX11_rowOf wsX11_rowOf) := goodIn_app (goodIn_of _ (by decide +kernel)) ggX11_turned_X11_rowOf
set_option maxRecDepth 20000 in
theorem ggX11_about_X11_rowOf : GoodIn wsX11_about wsX11_rowOf := goodIn_r _ [10, 3, 11, 12, 9, 13, 14, 15, 16, 17, 18, 19, 20, 21, 22, 23, 24, 25, 26, 27, 28, 29, 30, 31, 32, 33, 34, 35, 36, 37, 38, 39, 40, 41, 42, 43, 44, 45, 46, 47, 48, 49, 50, 51, 52, 53, 54, 55, 56, 57, 58, 59, 60, 61, 62, 63, 64, 65, 66, 67, 68] (by decide +kernel) (by decide +kernel)
set_option maxRecDepth 20000 in
theorem gX11_about_X11_rowOf : GoodIn wsX11_about (wsV RX11 233 RX11 yX11_rowOf wsX11_rowOf) := goodIn_app (goodIn_of _ (by decide +kernel)) ggX11_about_X11_rowOf
theorem inI_none {x : Int32} : inI x 0 (-1) = 0 := by
  unfold inI
  by_cases h : x < 0
  · rw [if_pos h]
  · rw [if_neg h, if_pos (Int32.lt_of_lt_of_le (show (-1 : Int32) < 0 by decide) (Int32.not_lt.mp h))]
theorem inI_z {x : Int32} : inI x 0 0 = if x = 0 then 1 else 0 := by
  unfold inI
  by_cases e : x = 0
  · subst e; rfl
  · rw [if_neg e]
    by_cases h : x < 0
    · rw [if_pos h]
    · rw [if_neg h, if_pos (Int32.lt_of_le_of_ne (Int32.not_lt.mp h) (fun q => e q.symm))]
set_option maxRecDepth 100000 in
set_option maxHeartbeats 4000000 in
theorem c_mlatest (l : Launch) (D : va_G) (cI cR cM : ClassId) (sz : Nat) (lt : Int32) (mm : Nat) (fs : List Value) : Met l yX11_latest wsX11_latest ({ frames := 0, cells := 0, slots := 0, locals := 0 }) (P0 D cI cR cM [.ref mm, .int lt, .int 0] sz [(mm, .inr (11, fs))]) (QE (some (.int (-1))) sz) 0 0 (va_A [] sz) := by
  refine go (cc := cX11_latest) (maxL := 4) (ret := (some .int)) (by decide) rfl (Nat.le_of_ble_eq_true rfl) ?_
  intro p e s m below meth c ls args Q hQ hsz hx hb hr hml hts hown hlocks hnm hP hK hD hl
  subst hsz
  have hS : va_S (va_A [] s.heap.size) s.heap s.heap [] := va_S.rf
  have hA : ∀ q, s.heap.size ≤ q → va_A [] s.heap.size q := fun q h => Or.inr h
  have hl : lv_has ls 4 [(0, .ref mm), (1, .int lt), (2, .int 0)] := hl
  refine lv_iload_n hx hb dX11_latest_0 rfl (lv_at hl 2 rfl) ?_
  refine lv_istore_n (lv' := [(3, .int 0), (0, .ref mm), (1, .int lt), (2, .int 0)]) hx hb dX11_latest_1 rfl hl (by decide) rfl (fun ls hl => ?_)
  refine lv_iload_n hx hb dX11_latest_2 rfl (lv_at hl 0 rfl) ?_
  refine lv_if_le (tgt := 31) hx hb dX11_latest_3 (by decide) (fun c3 => ?_) (fun c3 => absurd (by decide) c3)
  refine lv_iconst (v := (-1)) hx hb dX11_latest_31 (by decide) ?_
  exact ro_iret hx hb hr hlocks hS (rfl) hQ dX11_latest_32
set_option maxRecDepth 100000 in
set_option maxHeartbeats 4000000 in
theorem c_rowOf (l : Launch) (D : va_G) (cI cR cM : ClassId) (sz : Nat) (lt : Int32) (mm : Nat) (fs : List Value) (hf_looked : fs[4]? = some (.int 0)) : Met l yX11_rowOf wsX11_rowOf ({ frames := 1, cells := 0, slots := 0, locals := 23 }) (P0 D cI cR cM [.ref mm, .int lt] sz [(mm, .inr (11, fs))]) (QE (some (.int (-1))) sz) 0 0 (va_A [] sz) := by
  refine go (cc := cX11_rowOf) (maxL := 2) (ret := (some .int)) (by decide) rfl (Nat.le_of_ble_eq_true rfl) ?_
  intro p e s m below meth c ls args Q hQ hsz hx hb hr hml hts hown hlocks hnm hP hK hD hl
  subst hsz
  have hS : va_S (va_A [] s.heap.size) s.heap s.heap [] := va_S.rf
  have hA : ∀ q, s.heap.size ≤ q → va_A [] s.heap.size q := fun q h => Or.inr h
  have hl : lv_has ls 2 [(0, .ref mm), (1, .int lt)] := hl
  refine lv_iload_n hx hb dX11_rowOf_0 rfl (lv_at hl 1 rfl) ?_
  refine lv_iconst (v := 0) hx hb dX11_rowOf_1 (by decide) ?_
  refine lv_bipush (v := 7) hx hb dX11_rowOf_2 (by decide) ?_
  refine ro (va_runS (As := [.int lt, .int 0, .int 7]) (rest := []) ⟨hx, hb, hml, hown, hts⟩ (c_isIn l D cI cR cM _ lt 0 7) (va_cwS 3 hts gX11_rowOf_X11_isIn rfl rfl rfl (by decide +kernel) ⟨Nat.le_of_ble_eq_true rfl, Nat.le_of_ble_eq_true rfl⟩) (pre_S hK va_P_nil (va_D_nil (A := fun _ => True))) rfl rfl hl.1 rfl (lv_room (Nat.le_of_ble_eq_true rfl)) dX11_rowOf_4 ⟨Nat.le_of_ble_eq_true rfl, Nat.le_of_ble_eq_true rfl⟩) hS hA hP (fun H locs hP hS => ?_)
  refine lv_if_eq (tgt := 22) hx hb dX11_rowOf_7 (by decide) (fun c7 => ?_) (fun c7 => ?_)
  · refine lv_iconst (v := (-1)) hx hb dX11_rowOf_22 (by decide) ?_
    exact ro_iret hx hb hr hlocks hS (rfl) hQ dX11_rowOf_23
  · refine lv_aload_n hx hb dX11_rowOf_10 rfl (lv_at hl 0 rfl) ?_
    refine lv_iload_n hx hb dX11_rowOf_11 rfl (lv_at hl 1 rfl) ?_
    refine lv_aload_n hx hb dX11_rowOf_12 rfl (lv_at hl 0 rfl) ?_
    refine va_get (D := D) (ci := 11) (v := .int 0) (C := RX11) (T := TX11) (N := 47) hx hb hts (by decide +kernel) hown hK.1 hP 0 rfl rfl 4 (by decide) (hts (.fieldLink RX11 104 "JugglingHallModel" "looked" "I") (by decide +kernel)) (fun _ h9 => h9) hf_looked dX11_rowOf_13 ?_
    have hPc := hP.sub (ws' := [(mm, .inr (11, fs))]) [0] rfl
    have hDc := hD.sub (ws' := [(mm, .inr (11, fs))]) [0] (by decide) rfl
    refine ro (va_runV (As := [.int lt, .int 0]) (rest := []) ⟨hx, hb, hml, hown, hts⟩ (c_mlatest l D cI cR cM _ lt mm fs) (cwV 2 hts gX11_rowOf_X11_latest rfl rfl rfl (by decide +kernel) ⟨Nat.le_of_ble_eq_true rfl, Nat.le_of_ble_eq_true rfl⟩) (pre_V hK hPc hDc 0 11 rfl rfl) rfl rfl hl.1 rfl (lv_room (Nat.le_of_ble_eq_true rfl)) dX11_rowOf_16 ⟨Nat.le_of_ble_eq_true rfl, Nat.le_of_ble_eq_true rfl⟩) hS hA hP (fun H locs hP hS => ?_)
    refine lv_goto (tgt := 23) hx hb dX11_rowOf_19 (by decide) ?_
    exact ro_iret hx hb hr hlocks hS (rfl) hQ dX11_rowOf_23
set_option maxRecDepth 100000 in
set_option maxHeartbeats 4000000 in
theorem c_isThere0 (l : Launch) (D : va_G) (cI cR cM : ClassId) (sz : Nat) (a b d : Int32) (mm : Nat) (fs : List Value) : Met l yX11_isThere wsX11_isThere ({ frames := 0, cells := 0, slots := 0, locals := 0 }) (P0 D cI cR cM [.ref mm, .int (-1), .int a, .int b, .int d] sz [(mm, .inr (11, fs))]) (QE (some (.int 0)) sz) 0 0 (va_A [] sz) := by
  refine go (cc := cX11_isThere) (maxL := 5) (ret := (some .boolean)) (by decide) rfl (Nat.le_of_ble_eq_true rfl) ?_
  intro p e s m below meth c ls args Q hQ hsz hx hb hr hml hts hown hlocks hnm hP hK hD hl
  subst hsz
  have hS : va_S (va_A [] s.heap.size) s.heap s.heap [] := va_S.rf
  have hA : ∀ q, s.heap.size ≤ q → va_A [] s.heap.size q := fun q h => Or.inr h
  have hl : lv_has ls 5 [(0, .ref mm), (1, .int (-1)), (2, .int a), (3, .int b), (4, .int d)] := hl
  refine lv_iload_n hx hb dX11_isThere_0 rfl (lv_at hl 1 rfl) ?_
  refine lv_if_lt (tgt := 48) hx hb dX11_isThere_1 (by decide) (fun c1 => ?_) (fun c1 => absurd (by decide) c1)
  refine lv_iconst (v := 0) hx hb dX11_isThere_48 (by decide) ?_
  exact ro_zret hx hb hr hlocks hS (by decide) (rfl) hQ dX11_isThere_49
set_option maxRecDepth 100000 in
set_option maxHeartbeats 4000000 in
theorem c_isGood0 (l : Launch) (D : va_G) (cI cR cM : ClassId) (sz : Nat) (mm : Nat) (fs : List Value) : Met l yX11_isGood wsX11_isGood ({ frames := 0, cells := 0, slots := 0, locals := 0 }) (P0 D cI cR cM [.ref mm, .int (-1)] sz [(mm, .inr (11, fs))]) (QE (some (.int 0)) sz) 0 0 (va_A [] sz) := by
  refine go (cc := cX11_isGood) (maxL := 2) (ret := (some .boolean)) (by decide) rfl (Nat.le_of_ble_eq_true rfl) ?_
  intro p e s m below meth c ls args Q hQ hsz hx hb hr hml hts hown hlocks hnm hP hK hD hl
  subst hsz
  have hS : va_S (va_A [] s.heap.size) s.heap s.heap [] := va_S.rf
  have hA : ∀ q, s.heap.size ≤ q → va_A [] s.heap.size q := fun q h => Or.inr h
  have hl : lv_has ls 2 [(0, .ref mm), (1, .int (-1))] := hl
  refine lv_iload_n hx hb dX11_isGood_0 rfl (lv_at hl 1 rfl) ?_
  refine lv_if_ge (tgt := 6) hx hb dX11_isGood_1 (by decide) (fun c1 => absurd c1 (by decide)) (fun c1 => ?_)
  refine lv_iconst (v := 0) hx hb dX11_isGood_4 (by decide) ?_
  exact ro_zret hx hb hr hlocks hS (by decide) (rfl) hQ dX11_isGood_5
set_option maxRecDepth 100000 in
set_option maxHeartbeats 4000000 in
theorem c_mbeats (l : Launch) (D : va_G) (cI cR cM : ClassId) (sz : Nat) (i0 : Int32) (mm : Nat) (fs : List Value) (hf_looked : fs[4]? = some (.int 0)) : Met l yX11_beats wsX11_beats ({ frames := 2, cells := 0, slots := 0, locals := 47 }) (P0 D cI cR cM [.ref mm, .int i0] sz [(mm, .inr (11, fs))]) (QE (some (.int (-1))) sz) 0 0 (va_A [] sz) := by
  refine go (cc := cX11_beats) (maxL := 3) (ret := (some .int)) (by decide) rfl (Nat.le_of_ble_eq_true rfl) ?_
  intro p e s m below meth c ls args Q hQ hsz hx hb hr hml hts hown hlocks hnm hP hK hD hl
  subst hsz
  have hS : va_S (va_A [] s.heap.size) s.heap s.heap [] := va_S.rf
  have hA : ∀ q, s.heap.size ≤ q → va_A [] s.heap.size q := fun q h => Or.inr h
  have hl : lv_has ls 3 [(0, .ref mm), (1, .int i0)] := hl
  refine lv_aload_n hx hb dX11_beats_0 rfl (lv_at hl 0 rfl) ?_
  refine lv_iload_n hx hb dX11_beats_1 rfl (lv_at hl 1 rfl) ?_
  have hPc := hP.sub (ws' := [(mm, .inr (11, fs))]) [0] rfl
  have hDc := hD.sub (ws' := [(mm, .inr (11, fs))]) [0] (by decide) rfl
  refine ro (va_runV (As := [.int i0]) (rest := []) ⟨hx, hb, hml, hown, hts⟩ (c_rowOf l D cI cR cM _ i0 mm fs hf_looked) (cwV 1 hts gX11_beats_X11_rowOf rfl rfl rfl (by decide +kernel) ⟨Nat.le_of_ble_eq_true rfl, Nat.le_of_ble_eq_true rfl⟩) (pre_V hK hPc hDc 0 11 rfl rfl) rfl rfl hl.1 rfl (lv_room (Nat.le_of_ble_eq_true rfl)) dX11_beats_2 ⟨Nat.le_of_ble_eq_true rfl, Nat.le_of_ble_eq_true rfl⟩) hS hA hP (fun H locs hP hS => ?_)
  refine lv_istore_n (lv' := [(2, .int (-1)), (0, .ref mm), (1, .int i0)]) hx hb dX11_beats_5 rfl hl (by decide) rfl (fun ls hl => ?_)
  refine lv_iload_n hx hb dX11_beats_6 rfl (lv_at hl 0 rfl) ?_
  refine lv_if_ge (tgt := 14) hx hb dX11_beats_7 (by decide) (fun c7 => absurd c7 (by decide)) (fun c7 => ?_)
  refine lv_iconst (v := (-1)) hx hb dX11_beats_10 (by decide) ?_
  refine lv_goto (tgt := 20) hx hb dX11_beats_11 (by decide) ?_
  exact ro_iret hx hb hr hlocks hS (rfl) hQ dX11_beats_20
set_option maxRecDepth 100000 in
set_option maxHeartbeats 4000000 in
theorem c_mthrown (l : Launch) (D : va_G) (cI cR cM : ClassId) (sz : Nat) (i0 i1 i2 i3 i4 : Int32) (mm : Nat) (fs : List Value) (hf_looked : fs[4]? = some (.int 0)) : Met l yX11_thrown wsX11_thrown ({ frames := 2, cells := 0, slots := 0, locals := 47 }) (P0 D cI cR cM [.ref mm, .int i0, .int i1, .int i2, .int i3, .int i4] sz [(mm, .inr (11, fs))]) (QE (some (.int (-1))) sz) 0 0 (va_A [] sz) := by
  refine go (cc := cX11_thrown) (maxL := 8) (ret := (some .int)) (by decide) rfl (Nat.le_of_ble_eq_true rfl) ?_
  intro p e s m below meth c ls args Q hQ hsz hx hb hr hml hts hown hlocks hnm hP hK hD hl
  subst hsz
  have hS : va_S (va_A [] s.heap.size) s.heap s.heap [] := va_S.rf
  have hA : ∀ q, s.heap.size ≤ q → va_A [] s.heap.size q := fun q h => Or.inr h
  have hl : lv_has ls 8 [(0, .ref mm), (1, .int i0), (2, .int i1), (3, .int i2), (4, .int i3), (5, .int i4)] := hl
  refine lv_aload_n hx hb dX11_thrown_0 rfl (lv_at hl 0 rfl) ?_
  refine lv_iload_n hx hb dX11_thrown_1 rfl (lv_at hl 1 rfl) ?_
  have hPc := hP.sub (ws' := [(mm, .inr (11, fs))]) [0] rfl
  have hDc := hD.sub (ws' := [(mm, .inr (11, fs))]) [0] (by decide) rfl
  refine ro (va_runV (As := [.int i0]) (rest := []) ⟨hx, hb, hml, hown, hts⟩ (c_rowOf l D cI cR cM _ i0 mm fs hf_looked) (cwV 1 hts gX11_thrown_X11_rowOf rfl rfl rfl (by decide +kernel) ⟨Nat.le_of_ble_eq_true rfl, Nat.le_of_ble_eq_true rfl⟩) (pre_V hK hPc hDc 0 11 rfl rfl) rfl rfl hl.1 rfl (lv_room (Nat.le_of_ble_eq_true rfl)) dX11_thrown_2 ⟨Nat.le_of_ble_eq_true rfl, Nat.le_of_ble_eq_true rfl⟩) hS hA hP (fun H locs hP hS => ?_)
  refine lv_istore (lv' := [(6, .int (-1)), (0, .ref mm), (1, .int i0), (2, .int i1), (3, .int i2), (4, .int i3), (5, .int i4)]) hx hb dX11_thrown_5 hl (by decide) rfl (fun ls hl => ?_)
  refine lv_aload_n hx hb dX11_thrown_7 rfl (lv_at hl 1 rfl) ?_
  refine lv_iload hx hb dX11_thrown_8 (lv_at hl 0 rfl) ?_
  refine lv_iload_n hx hb dX11_thrown_10 rfl (lv_at hl 3 rfl) ?_
  refine lv_iload_n hx hb dX11_thrown_11 rfl (lv_at hl 4 rfl) ?_
  refine lv_iload hx hb dX11_thrown_12 (lv_at hl 5 rfl) ?_
  have hPc := hP.sub (ws' := [(mm, .inr (11, fs))]) [0] rfl
  have hDc := hD.sub (ws' := [(mm, .inr (11, fs))]) [0] (by decide) rfl
  refine ro (va_runV (As := [.int (-1), .int i1, .int i2, .int i3]) (rest := []) ⟨hx, hb, hml, hown, hts⟩ (c_isThere0 l D cI cR cM _ i1 i2 i3 mm fs) (cwV 4 hts gX11_thrown_X11_isThere rfl rfl rfl (by decide +kernel) ⟨Nat.le_of_ble_eq_true rfl, Nat.le_of_ble_eq_true rfl⟩) (pre_V hK hPc hDc 0 11 rfl rfl) rfl rfl hl.1 rfl (lv_room (Nat.le_of_ble_eq_true rfl)) dX11_thrown_14 ⟨Nat.le_of_ble_eq_true rfl, Nat.le_of_ble_eq_true rfl⟩) hS hA hP (fun H locs hP hS => ?_)
  refine lv_if_eq (tgt := 30) hx hb dX11_thrown_17 (by decide) (fun c17 => ?_) (fun c17 => absurd (by decide) c17)
  refine lv_iconst (v := (-1)) hx hb dX11_thrown_30 (by decide) ?_
  exact ro_iret hx hb hr hlocks hS (rfl) hQ dX11_thrown_31
set_option maxRecDepth 100000 in
set_option maxHeartbeats 4000000 in
theorem c_mgood (l : Launch) (D : va_G) (cI cR cM : ClassId) (sz : Nat) (i0 i1 : Int32) (mm : Nat) (fs : List Value) (hf_looked : fs[4]? = some (.int 0)) : Met l yX11_good wsX11_good ({ frames := 2, cells := 0, slots := 0, locals := 47 }) (P0 D cI cR cM [.ref mm, .int i0, .int i1] sz [(mm, .inr (11, fs))]) (QE (some (.int (-1))) sz) 0 0 (va_A [] sz) := by
  refine go (cc := cX11_good) (maxL := 4) (ret := (some .int)) (by decide) rfl (Nat.le_of_ble_eq_true rfl) ?_
  intro p e s m below meth c ls args Q hQ hsz hx hb hr hml hts hown hlocks hnm hP hK hD hl
  subst hsz
  have hS : va_S (va_A [] s.heap.size) s.heap s.heap [] := va_S.rf
  have hA : ∀ q, s.heap.size ≤ q → va_A [] s.heap.size q := fun q h => Or.inr h
  have hl : lv_has ls 4 [(0, .ref mm), (1, .int i0), (2, .int i1)] := hl
  refine lv_aload_n hx hb dX11_good_0 rfl (lv_at hl 0 rfl) ?_
  refine lv_iload_n hx hb dX11_good_1 rfl (lv_at hl 1 rfl) ?_
  have hPc := hP.sub (ws' := [(mm, .inr (11, fs))]) [0] rfl
  have hDc := hD.sub (ws' := [(mm, .inr (11, fs))]) [0] (by decide) rfl
  refine ro (va_runV (As := [.int i0]) (rest := []) ⟨hx, hb, hml, hown, hts⟩ (c_rowOf l D cI cR cM _ i0 mm fs hf_looked) (cwV 1 hts gX11_good_X11_rowOf rfl rfl rfl (by decide +kernel) ⟨Nat.le_of_ble_eq_true rfl, Nat.le_of_ble_eq_true rfl⟩) (pre_V hK hPc hDc 0 11 rfl rfl) rfl rfl hl.1 rfl (lv_room (Nat.le_of_ble_eq_true rfl)) dX11_good_2 ⟨Nat.le_of_ble_eq_true rfl, Nat.le_of_ble_eq_true rfl⟩) hS hA hP (fun H locs hP hS => ?_)
  refine lv_istore_n (lv' := [(3, .int (-1)), (0, .ref mm), (1, .int i0), (2, .int i1)]) hx hb dX11_good_5 rfl hl (by decide) rfl (fun ls hl => ?_)
  refine lv_iload_n hx hb dX11_good_6 rfl (lv_at hl 0 rfl) ?_
  refine lv_if_ge (tgt := 12) hx hb dX11_good_7 (by decide) (fun c7 => absurd c7 (by decide)) (fun c7 => ?_)
  refine lv_iconst (v := (-1)) hx hb dX11_good_10 (by decide) ?_
  exact ro_iret hx hb hr hlocks hS (rfl) hQ dX11_good_11
set_option maxRecDepth 100000 in
set_option maxHeartbeats 4000000 in
theorem c_tied (l : Launch) (D : va_G) (cI cR cM : ClassId) (sz : Nat) (i0 : Int32) (mm : Nat) (fs : List Value) (hf_looked : fs[4]? = some (.int 0)) : Met l yX11_tied wsX11_tied ({ frames := 2, cells := 0, slots := 0, locals := 47 }) (P0 D cI cR cM [.ref mm, .int i0] sz [(mm, .inr (11, fs))]) (QE (some (.int (-1))) sz) 0 0 (va_A [] sz) := by
  refine go (cc := cX11_tied) (maxL := 3) (ret := (some .int)) (by decide) rfl (Nat.le_of_ble_eq_true rfl) ?_
  intro p e s m below meth c ls args Q hQ hsz hx hb hr hml hts hown hlocks hnm hP hK hD hl
  subst hsz
  have hS : va_S (va_A [] s.heap.size) s.heap s.heap [] := va_S.rf
  have hA : ∀ q, s.heap.size ≤ q → va_A [] s.heap.size q := fun q h => Or.inr h
  have hl : lv_has ls 3 [(0, .ref mm), (1, .int i0)] := hl
  refine lv_aload_n hx hb dX11_tied_0 rfl (lv_at hl 0 rfl) ?_
  refine lv_iload_n hx hb dX11_tied_1 rfl (lv_at hl 1 rfl) ?_
  have hPc := hP.sub (ws' := [(mm, .inr (11, fs))]) [0] rfl
  have hDc := hD.sub (ws' := [(mm, .inr (11, fs))]) [0] (by decide) rfl
  refine ro (va_runV (As := [.int i0]) (rest := []) ⟨hx, hb, hml, hown, hts⟩ (c_rowOf l D cI cR cM _ i0 mm fs hf_looked) (cwV 1 hts gX11_tied_X11_rowOf rfl rfl rfl (by decide +kernel) ⟨Nat.le_of_ble_eq_true rfl, Nat.le_of_ble_eq_true rfl⟩) (pre_V hK hPc hDc 0 11 rfl rfl) rfl rfl hl.1 rfl (lv_room (Nat.le_of_ble_eq_true rfl)) dX11_tied_2 ⟨Nat.le_of_ble_eq_true rfl, Nat.le_of_ble_eq_true rfl⟩) hS hA hP (fun H locs hP hS => ?_)
  refine lv_istore_n (lv' := [(2, .int (-1)), (0, .ref mm), (1, .int i0)]) hx hb dX11_tied_5 rfl hl (by decide) rfl (fun ls hl => ?_)
  refine lv_aload_n hx hb dX11_tied_6 rfl (lv_at hl 1 rfl) ?_
  refine lv_iload_n hx hb dX11_tied_7 rfl (lv_at hl 0 rfl) ?_
  have hPc := hP.sub (ws' := [(mm, .inr (11, fs))]) [0] rfl
  have hDc := hD.sub (ws' := [(mm, .inr (11, fs))]) [0] (by decide) rfl
  refine ro (va_runV (As := [.int (-1)]) (rest := []) ⟨hx, hb, hml, hown, hts⟩ (c_isGood0 l D cI cR cM _ mm fs) (cwV 1 hts gX11_tied_X11_isGood rfl rfl rfl (by decide +kernel) ⟨Nat.le_of_ble_eq_true rfl, Nat.le_of_ble_eq_true rfl⟩) (pre_V hK hPc hDc 0 11 rfl rfl) rfl rfl hl.1 rfl (lv_room (Nat.le_of_ble_eq_true rfl)) dX11_tied_8 ⟨Nat.le_of_ble_eq_true rfl, Nat.le_of_ble_eq_true rfl⟩) hS hA hP (fun H locs hP hS => ?_)
  refine lv_if_ne (tgt := 16) hx hb dX11_tied_11 (by decide) (fun c11 => absurd (by decide) c11) (fun c11 => ?_)
  refine lv_iconst (v := (-1)) hx hb dX11_tied_14 (by decide) ?_
  exact ro_iret hx hb hr hlocks hS (rfl) hQ dX11_tied_15
set_option maxRecDepth 100000 in
set_option maxHeartbeats 4000000 in
theorem c_mcycles (l : Launch) (D : va_G) (cI cR cM : ClassId) (sz : Nat) (i0 : Int32) (mm : Nat) (fs : List Value) (hf_looked : fs[4]? = some (.int 0)) : Met l yX11_cycles wsX11_cycles ({ frames := 3, cells := 0, slots := 0, locals := 71 }) (P0 D cI cR cM [.ref mm, .int i0] sz [(mm, .inr (11, fs))]) (QE (some (.int (-1))) sz) 0 0 (va_A [] sz) := by
  refine go (cc := cX11_cycles) (maxL := 2) (ret := (some .int)) (by decide) rfl (Nat.le_of_ble_eq_true rfl) ?_
  intro p e s m below meth c ls args Q hQ hsz hx hb hr hml hts hown hlocks hnm hP hK hD hl
  subst hsz
  have hS : va_S (va_A [] s.heap.size) s.heap s.heap [] := va_S.rf
  have hA : ∀ q, s.heap.size ≤ q → va_A [] s.heap.size q := fun q h => Or.inr h
  have hl : lv_has ls 2 [(0, .ref mm), (1, .int i0)] := hl
  refine lv_aload_n hx hb dX11_cycles_0 rfl (lv_at hl 0 rfl) ?_
  refine lv_iload_n hx hb dX11_cycles_1 rfl (lv_at hl 1 rfl) ?_
  have hPc := hP.sub (ws' := [(mm, .inr (11, fs))]) [0] rfl
  have hDc := hD.sub (ws' := [(mm, .inr (11, fs))]) [0] (by decide) rfl
  refine ro (va_runV (As := [.int i0]) (rest := []) ⟨hx, hb, hml, hown, hts⟩ (c_tied l D cI cR cM _ i0 mm fs hf_looked) (cwV 1 hts gX11_cycles_X11_tied rfl rfl rfl (by decide +kernel) ⟨Nat.le_of_ble_eq_true rfl, Nat.le_of_ble_eq_true rfl⟩) (pre_V hK hPc hDc 0 11 rfl rfl) rfl rfl hl.1 rfl (lv_room (Nat.le_of_ble_eq_true rfl)) dX11_cycles_2 ⟨Nat.le_of_ble_eq_true rfl, Nat.le_of_ble_eq_true rfl⟩) hS hA hP (fun H locs hP hS => ?_)
  refine lv_if_ge (tgt := 12) hx hb dX11_cycles_5 (by decide) (fun c5 => absurd c5 (by decide)) (fun c5 => ?_)
  refine lv_iconst (v := (-1)) hx hb dX11_cycles_8 (by decide) ?_
  refine lv_goto (tgt := 16) hx hb dX11_cycles_9 (by decide) ?_
  exact ro_iret hx hb hr hlocks hS (rfl) hQ dX11_cycles_16
set_option maxRecDepth 100000 in
set_option maxHeartbeats 4000000 in
theorem c_mcycle (l : Launch) (D : va_G) (cI cR cM : ClassId) (sz : Nat) (i0 i1 i2 : Int32) (mm : Nat) (fs : List Value) (hf_looked : fs[4]? = some (.int 0)) : Met l yX11_cycle wsX11_cycle ({ frames := 3, cells := 0, slots := 0, locals := 71 }) (P0 D cI cR cM [.ref mm, .int i0, .int i1, .int i2] sz [(mm, .inr (11, fs))]) (QE (some (.int (-1))) sz) 0 0 (va_A [] sz) := by
  refine go (cc := cX11_cycle) (maxL := 9) (ret := (some .int)) (by decide) rfl (Nat.le_of_ble_eq_true rfl) ?_
  intro p e s m below meth c ls args Q hQ hsz hx hb hr hml hts hown hlocks hnm hP hK hD hl
  subst hsz
  have hS : va_S (va_A [] s.heap.size) s.heap s.heap [] := va_S.rf
  have hA : ∀ q, s.heap.size ≤ q → va_A [] s.heap.size q := fun q h => Or.inr h
  have hl : lv_has ls 9 [(0, .ref mm), (1, .int i0), (2, .int i1), (3, .int i2)] := hl
  refine lv_aload_n hx hb dX11_cycle_0 rfl (lv_at hl 0 rfl) ?_
  refine lv_iload_n hx hb dX11_cycle_1 rfl (lv_at hl 1 rfl) ?_
  have hPc := hP.sub (ws' := [(mm, .inr (11, fs))]) [0] rfl
  have hDc := hD.sub (ws' := [(mm, .inr (11, fs))]) [0] (by decide) rfl
  refine ro (va_runV (As := [.int i0]) (rest := []) ⟨hx, hb, hml, hown, hts⟩ (c_tied l D cI cR cM _ i0 mm fs hf_looked) (cwV 1 hts gX11_cycle_X11_tied rfl rfl rfl (by decide +kernel) ⟨Nat.le_of_ble_eq_true rfl, Nat.le_of_ble_eq_true rfl⟩) (pre_V hK hPc hDc 0 11 rfl rfl) rfl rfl hl.1 rfl (lv_room (Nat.le_of_ble_eq_true rfl)) dX11_cycle_2 ⟨Nat.le_of_ble_eq_true rfl, Nat.le_of_ble_eq_true rfl⟩) hS hA hP (fun H locs hP hS => ?_)
  refine lv_istore (lv' := [(4, .int (-1)), (0, .ref mm), (1, .int i0), (2, .int i1), (3, .int i2)]) hx hb dX11_cycle_5 hl (by decide) rfl (fun ls hl => ?_)
  refine lv_iload hx hb dX11_cycle_7 (lv_at hl 0 rfl) ?_
  refine lv_if_lt (tgt := 26) hx hb dX11_cycle_9 (by decide) (fun c9 => ?_) (fun c9 => absurd (by decide) c9)
  refine lv_iconst (v := (-1)) hx hb dX11_cycle_26 (by decide) ?_
  exact ro_iret hx hb hr hlocks hS (rfl) hQ dX11_cycle_27
set_option maxRecDepth 100000 in
set_option maxHeartbeats 4000000 in
theorem c_mcycleOf (l : Launch) (D : va_G) (cI cR cM : ClassId) (sz : Nat) (i0 i1 i2 i3 : Int32) (mm : Nat) (fs : List Value) (hf_looked : fs[4]? = some (.int 0)) : Met l yX11_cycleOf wsX11_cycleOf ({ frames := 3, cells := 0, slots := 0, locals := 71 }) (P0 D cI cR cM [.ref mm, .int i0, .int i1, .int i2, .int i3] sz [(mm, .inr (11, fs))]) (QE (some (.int (-1))) sz) 0 0 (va_A [] sz) := by
  refine go (cc := cX11_cycleOf) (maxL := 6) (ret := (some .int)) (by decide) rfl (Nat.le_of_ble_eq_true rfl) ?_
  intro p e s m below meth c ls args Q hQ hsz hx hb hr hml hts hown hlocks hnm hP hK hD hl
  subst hsz
  have hS : va_S (va_A [] s.heap.size) s.heap s.heap [] := va_S.rf
  have hA : ∀ q, s.heap.size ≤ q → va_A [] s.heap.size q := fun q h => Or.inr h
  have hl : lv_has ls 6 [(0, .ref mm), (1, .int i0), (2, .int i1), (3, .int i2), (4, .int i3)] := hl
  refine lv_aload_n hx hb dX11_cycleOf_0 rfl (lv_at hl 0 rfl) ?_
  refine lv_iload_n hx hb dX11_cycleOf_1 rfl (lv_at hl 1 rfl) ?_
  have hPc := hP.sub (ws' := [(mm, .inr (11, fs))]) [0] rfl
  have hDc := hD.sub (ws' := [(mm, .inr (11, fs))]) [0] (by decide) rfl
  refine ro (va_runV (As := [.int i0]) (rest := []) ⟨hx, hb, hml, hown, hts⟩ (c_tied l D cI cR cM _ i0 mm fs hf_looked) (cwV 1 hts gX11_cycleOf_X11_tied rfl rfl rfl (by decide +kernel) ⟨Nat.le_of_ble_eq_true rfl, Nat.le_of_ble_eq_true rfl⟩) (pre_V hK hPc hDc 0 11 rfl rfl) rfl rfl hl.1 rfl (lv_room (Nat.le_of_ble_eq_true rfl)) dX11_cycleOf_2 ⟨Nat.le_of_ble_eq_true rfl, Nat.le_of_ble_eq_true rfl⟩) hS hA hP (fun H locs hP hS => ?_)
  refine lv_istore (lv' := [(5, .int (-1)), (0, .ref mm), (1, .int i0), (2, .int i1), (3, .int i2), (4, .int i3)]) hx hb dX11_cycleOf_5 hl (by decide) rfl (fun ls hl => ?_)
  refine lv_aload_n hx hb dX11_cycleOf_7 rfl (lv_at hl 1 rfl) ?_
  refine lv_iload hx hb dX11_cycleOf_8 (lv_at hl 0 rfl) ?_
  refine lv_iload_n hx hb dX11_cycleOf_10 rfl (lv_at hl 3 rfl) ?_
  refine lv_iload_n hx hb dX11_cycleOf_11 rfl (lv_at hl 4 rfl) ?_
  refine lv_iload hx hb dX11_cycleOf_12 (lv_at hl 5 rfl) ?_
  have hPc := hP.sub (ws' := [(mm, .inr (11, fs))]) [0] rfl
  have hDc := hD.sub (ws' := [(mm, .inr (11, fs))]) [0] (by decide) rfl
  refine ro (va_runV (As := [.int (-1), .int i1, .int i2, .int i3]) (rest := []) ⟨hx, hb, hml, hown, hts⟩ (c_isThere0 l D cI cR cM _ i1 i2 i3 mm fs) (cwV 4 hts gX11_cycleOf_X11_isThere rfl rfl rfl (by decide +kernel) ⟨Nat.le_of_ble_eq_true rfl, Nat.le_of_ble_eq_true rfl⟩) (pre_V hK hPc hDc 0 11 rfl rfl) rfl rfl hl.1 rfl (lv_room (Nat.le_of_ble_eq_true rfl)) dX11_cycleOf_14 ⟨Nat.le_of_ble_eq_true rfl, Nat.le_of_ble_eq_true rfl⟩) hS hA hP (fun H locs hP hS => ?_)
  refine lv_if_ne (tgt := 22) hx hb dX11_cycleOf_17 (by decide) (fun c17 => absurd (by decide) c17) (fun c17 => ?_)
  refine lv_iconst (v := (-1)) hx hb dX11_cycleOf_20 (by decide) ?_
  exact ro_iret hx hb hr hlocks hS (rfl) hQ dX11_cycleOf_21
set_option maxRecDepth 100000 in
set_option maxHeartbeats 4000000 in
theorem c_mcaught (l : Launch) (D : va_G) (cI cR cM : ClassId) (sz : Nat) (i0 i1 i2 i3 i4 : Int32) (mm : Nat) (fs : List Value) (hf_looked : fs[4]? = some (.int 0)) : Met l yX11_caught wsX11_caught ({ frames := 3, cells := 0, slots := 0, locals := 71 }) (P0 D cI cR cM [.ref mm, .int i0, .int i1, .int i2, .int i3, .int i4] sz [(mm, .inr (11, fs))]) (QE (some (.int (-1))) sz) 0 0 (va_A [] sz) := by
  refine go (cc := cX11_caught) (maxL := 9) (ret := (some .int)) (by decide) rfl (Nat.le_of_ble_eq_true rfl) ?_
  intro p e s m below meth c ls args Q hQ hsz hx hb hr hml hts hown hlocks hnm hP hK hD hl
  subst hsz
  have hS : va_S (va_A [] s.heap.size) s.heap s.heap [] := va_S.rf
  have hA : ∀ q, s.heap.size ≤ q → va_A [] s.heap.size q := fun q h => Or.inr h
  have hl : lv_has ls 9 [(0, .ref mm), (1, .int i0), (2, .int i1), (3, .int i2), (4, .int i3), (5, .int i4)] := hl
  refine lv_aload_n hx hb dX11_caught_0 rfl (lv_at hl 0 rfl) ?_
  refine lv_iload_n hx hb dX11_caught_1 rfl (lv_at hl 1 rfl) ?_
  have hPc := hP.sub (ws' := [(mm, .inr (11, fs))]) [0] rfl
  have hDc := hD.sub (ws' := [(mm, .inr (11, fs))]) [0] (by decide) rfl
  refine ro (va_runV (As := [.int i0]) (rest := []) ⟨hx, hb, hml, hown, hts⟩ (c_tied l D cI cR cM _ i0 mm fs hf_looked) (cwV 1 hts gX11_caught_X11_tied rfl rfl rfl (by decide +kernel) ⟨Nat.le_of_ble_eq_true rfl, Nat.le_of_ble_eq_true rfl⟩) (pre_V hK hPc hDc 0 11 rfl rfl) rfl rfl hl.1 rfl (lv_room (Nat.le_of_ble_eq_true rfl)) dX11_caught_2 ⟨Nat.le_of_ble_eq_true rfl, Nat.le_of_ble_eq_true rfl⟩) hS hA hP (fun H locs hP hS => ?_)
  refine lv_istore (lv' := [(6, .int (-1)), (0, .ref mm), (1, .int i0), (2, .int i1), (3, .int i2), (4, .int i3), (5, .int i4)]) hx hb dX11_caught_5 hl (by decide) rfl (fun ls hl => ?_)
  refine lv_iload hx hb dX11_caught_7 (lv_at hl 0 rfl) ?_
  refine lv_if_lt (tgt := 54) hx hb dX11_caught_9 (by decide) (fun c9 => ?_) (fun c9 => absurd (by decide) c9)
  refine lv_iconst (v := (-1)) hx hb dX11_caught_54 (by decide) ?_
  exact ro_iret hx hb hr hlocks hS (rfl) hQ dX11_caught_55
set_option maxRecDepth 100000 in
set_option maxHeartbeats 4000000 in
theorem c_mdrop (l : Launch) (D : va_G) (cI cR cM : ClassId) (sz : Nat) (i0 i1 i2 : Int32) (mm : Nat) (fs : List Value) (hf_looked : fs[4]? = some (.int 0)) : Met l yX11_drop wsX11_drop ({ frames := 3, cells := 0, slots := 0, locals := 71 }) (P0 D cI cR cM [.ref mm, .int i0, .int i1, .int i2] sz [(mm, .inr (11, fs))]) (QE (some (.int (-1))) sz) 0 0 (va_A [] sz) := by
  refine go (cc := cX11_drop) (maxL := 8) (ret := (some .int)) (by decide) rfl (Nat.le_of_ble_eq_true rfl) ?_
  intro p e s m below meth c ls args Q hQ hsz hx hb hr hml hts hown hlocks hnm hP hK hD hl
  subst hsz
  have hS : va_S (va_A [] s.heap.size) s.heap s.heap [] := va_S.rf
  have hA : ∀ q, s.heap.size ≤ q → va_A [] s.heap.size q := fun q h => Or.inr h
  have hl : lv_has ls 8 [(0, .ref mm), (1, .int i0), (2, .int i1), (3, .int i2)] := hl
  refine lv_aload_n hx hb dX11_drop_0 rfl (lv_at hl 0 rfl) ?_
  refine lv_iload_n hx hb dX11_drop_1 rfl (lv_at hl 1 rfl) ?_
  have hPc := hP.sub (ws' := [(mm, .inr (11, fs))]) [0] rfl
  have hDc := hD.sub (ws' := [(mm, .inr (11, fs))]) [0] (by decide) rfl
  refine ro (va_runV (As := [.int i0]) (rest := []) ⟨hx, hb, hml, hown, hts⟩ (c_tied l D cI cR cM _ i0 mm fs hf_looked) (cwV 1 hts gX11_drop_X11_tied rfl rfl rfl (by decide +kernel) ⟨Nat.le_of_ble_eq_true rfl, Nat.le_of_ble_eq_true rfl⟩) (pre_V hK hPc hDc 0 11 rfl rfl) rfl rfl hl.1 rfl (lv_room (Nat.le_of_ble_eq_true rfl)) dX11_drop_2 ⟨Nat.le_of_ble_eq_true rfl, Nat.le_of_ble_eq_true rfl⟩) hS hA hP (fun H locs hP hS => ?_)
  refine lv_istore (lv' := [(4, .int (-1)), (0, .ref mm), (1, .int i0), (2, .int i1), (3, .int i2)]) hx hb dX11_drop_5 hl (by decide) rfl (fun ls hl => ?_)
  refine lv_iload hx hb dX11_drop_7 (lv_at hl 0 rfl) ?_
  refine lv_if_lt (tgt := 53) hx hb dX11_drop_9 (by decide) (fun c9 => ?_) (fun c9 => absurd (by decide) c9)
  refine lv_iconst (v := (-1)) hx hb dX11_drop_53 (by decide) ?_
  exact ro_iret hx hb hr hlocks hS (rfl) hQ dX11_drop_54
set_option maxRecDepth 100000 in
set_option maxHeartbeats 4000000 in
theorem c_mturned (l : Launch) (D : va_G) (cI cR cM : ClassId) (sz : Nat) (i0 i1 : Int32) (mm : Nat) (fs : List Value) (hf_looked : fs[4]? = some (.int 0)) : Met l yX11_turned wsX11_turned ({ frames := 2, cells := 0, slots := 0, locals := 47 }) (P0 D cI cR cM [.ref mm, .int i0, .int i1] sz [(mm, .inr (11, fs))]) (QE (some (.int (-1))) sz) 0 0 (va_A [] sz) := by
  refine go (cc := cX11_turned) (maxL := 9) (ret := (some .int)) (by decide) rfl (Nat.le_of_ble_eq_true rfl) ?_
  intro p e s m below meth c ls args Q hQ hsz hx hb hr hml hts hown hlocks hnm hP hK hD hl
  subst hsz
  have hS : va_S (va_A [] s.heap.size) s.heap s.heap [] := va_S.rf
  have hA : ∀ q, s.heap.size ≤ q → va_A [] s.heap.size q := fun q h => Or.inr h
  have hl : lv_has ls 9 [(0, .ref mm), (1, .int i0), (2, .int i1)] := hl
  refine lv_aload_n hx hb dX11_turned_0 rfl (lv_at hl 0 rfl) ?_
  refine lv_iload_n hx hb dX11_turned_1 rfl (lv_at hl 1 rfl) ?_
  have hPc := hP.sub (ws' := [(mm, .inr (11, fs))]) [0] rfl
  have hDc := hD.sub (ws' := [(mm, .inr (11, fs))]) [0] (by decide) rfl
  refine ro (va_runV (As := [.int i0]) (rest := []) ⟨hx, hb, hml, hown, hts⟩ (c_rowOf l D cI cR cM _ i0 mm fs hf_looked) (cwV 1 hts gX11_turned_X11_rowOf rfl rfl rfl (by decide +kernel) ⟨Nat.le_of_ble_eq_true rfl, Nat.le_of_ble_eq_true rfl⟩) (pre_V hK hPc hDc 0 11 rfl rfl) rfl rfl hl.1 rfl (lv_room (Nat.le_of_ble_eq_true rfl)) dX11_turned_2 ⟨Nat.le_of_ble_eq_true rfl, Nat.le_of_ble_eq_true rfl⟩) hS hA hP (fun H locs hP hS => ?_)
  refine lv_istore_n (lv' := [(3, .int (-1)), (0, .ref mm), (1, .int i0), (2, .int i1)]) hx hb dX11_turned_5 rfl hl (by decide) rfl (fun ls hl => ?_)
  refine lv_aload_n hx hb dX11_turned_6 rfl (lv_at hl 1 rfl) ?_
  refine lv_iload_n hx hb dX11_turned_7 rfl (lv_at hl 3 rfl) ?_
  have hPc := hP.sub (ws' := [(mm, .inr (11, fs))]) [0] rfl
  have hDc := hD.sub (ws' := [(mm, .inr (11, fs))]) [0] (by decide) rfl
  refine ro (va_runV (As := [.int i1]) (rest := []) ⟨hx, hb, hml, hown, hts⟩ (c_rowOf l D cI cR cM _ i1 mm fs hf_looked) (cwV 1 hts gX11_turned_X11_rowOf rfl rfl rfl (by decide +kernel) ⟨Nat.le_of_ble_eq_true rfl, Nat.le_of_ble_eq_true rfl⟩) (pre_V hK hPc hDc 0 11 rfl rfl) rfl rfl hl.1 rfl (lv_room (Nat.le_of_ble_eq_true rfl)) dX11_turned_8 ⟨Nat.le_of_ble_eq_true rfl, Nat.le_of_ble_eq_true rfl⟩) hS hA hP (fun H locs hP hS => ?_)
  refine lv_istore (lv' := [(4, .int (-1)), (3, .int (-1)), (0, .ref mm), (1, .int i0), (2, .int i1)]) hx hb dX11_turned_11 hl (by decide) rfl (fun ls hl => ?_)
  refine lv_iload_n hx hb dX11_turned_13 rfl (lv_at hl 1 rfl) ?_
  refine lv_if_lt (tgt := 38) hx hb dX11_turned_14 (by decide) (fun c14 => ?_) (fun c14 => absurd (by decide) c14)
  refine lv_iconst (v := (-1)) hx hb dX11_turned_38 (by decide) ?_
  exact ro_iret hx hb hr hlocks hS (rfl) hQ dX11_turned_39
set_option maxRecDepth 100000 in
set_option maxHeartbeats 4000000 in
theorem c_isPG0 (l : Launch) (D : va_G) (cI cR cM : ClassId) (sz : Nat) (mm : Nat) (fs : List Value) : Met l yX11_isPlainGood wsX11_isPlainGood ({ frames := 1, cells := 0, slots := 0, locals := 21 }) (P0 D cI cR cM [.ref mm, .int (-1)] sz [(mm, .inr (11, fs))]) (QE (some (.int 0)) sz) 0 0 (va_A [] sz) := by
  refine go (cc := cX11_isPlainGood) (maxL := 2) (ret := (some .boolean)) (by decide) rfl (Nat.le_of_ble_eq_true rfl) ?_
  intro p e s m below meth c ls args Q hQ hsz hx hb hr hml hts hown hlocks hnm hP hK hD hl
  subst hsz
  have hS : va_S (va_A [] s.heap.size) s.heap s.heap [] := va_S.rf
  have hA : ∀ q, s.heap.size ≤ q → va_A [] s.heap.size q := fun q h => Or.inr h
  have hl : lv_has ls 2 [(0, .ref mm), (1, .int (-1))] := hl
  refine lv_aload_n hx hb dX11_isPlainGood_0 rfl (lv_at hl 0 rfl) ?_
  refine lv_iload_n hx hb dX11_isPlainGood_1 rfl (lv_at hl 1 rfl) ?_
  have hPc := hP.sub (ws' := [(mm, .inr (11, fs))]) [0] rfl
  have hDc := hD.sub (ws' := [(mm, .inr (11, fs))]) [0] (by decide) rfl
  refine ro (va_runV (As := [.int (-1)]) (rest := []) ⟨hx, hb, hml, hown, hts⟩ (c_isGood0 l D cI cR cM _ mm fs) (cwV 1 hts gX11_isPlainGood_X11_isGood rfl rfl rfl (by decide +kernel) ⟨Nat.le_of_ble_eq_true rfl, Nat.le_of_ble_eq_true rfl⟩) (pre_V hK hPc hDc 0 11 rfl rfl) rfl rfl hl.1 rfl (lv_room (Nat.le_of_ble_eq_true rfl)) dX11_isPlainGood_2 ⟨Nat.le_of_ble_eq_true rfl, Nat.le_of_ble_eq_true rfl⟩) hS hA hP (fun H locs hP hS => ?_)
  refine lv_if_eq (tgt := 20) hx hb dX11_isPlainGood_5 (by decide) (fun c5 => ?_) (fun c5 => absurd (by decide) c5)
  refine lv_iconst (v := 0) hx hb dX11_isPlainGood_20 (by decide) ?_
  exact ro_zret hx hb hr hlocks hS (by decide) (rfl) hQ dX11_isPlainGood_21
set_option maxRecDepth 100000 in
set_option maxHeartbeats 4000000 in
theorem c_mstate (l : Launch) (D : va_G) (cI cR cM : ClassId) (sz : Nat) (i0 i1 : Int32) (mm : Nat) (fs : List Value) (hf_looked : fs[4]? = some (.int 0)) : Met l yX11_state wsX11_state ({ frames := 3, cells := 0, slots := 0, locals := 71 }) (P0 D cI cR cM [.ref mm, .int i0, .int i1] sz [(mm, .inr (11, fs))]) (QE (some (.int (-1))) sz) 0 0 (va_A [] sz) := by
  refine go (cc := cX11_state) (maxL := 4) (ret := (some .int)) (by decide) rfl (Nat.le_of_ble_eq_true rfl) ?_
  intro p e s m below meth c ls args Q hQ hsz hx hb hr hml hts hown hlocks hnm hP hK hD hl
  subst hsz
  have hS : va_S (va_A [] s.heap.size) s.heap s.heap [] := va_S.rf
  have hA : ∀ q, s.heap.size ≤ q → va_A [] s.heap.size q := fun q h => Or.inr h
  have hl : lv_has ls 4 [(0, .ref mm), (1, .int i0), (2, .int i1)] := hl
  refine lv_aload_n hx hb dX11_state_0 rfl (lv_at hl 0 rfl) ?_
  refine lv_iload_n hx hb dX11_state_1 rfl (lv_at hl 1 rfl) ?_
  have hPc := hP.sub (ws' := [(mm, .inr (11, fs))]) [0] rfl
  have hDc := hD.sub (ws' := [(mm, .inr (11, fs))]) [0] (by decide) rfl
  refine ro (va_runV (As := [.int i0]) (rest := []) ⟨hx, hb, hml, hown, hts⟩ (c_rowOf l D cI cR cM _ i0 mm fs hf_looked) (cwV 1 hts gX11_state_X11_rowOf rfl rfl rfl (by decide +kernel) ⟨Nat.le_of_ble_eq_true rfl, Nat.le_of_ble_eq_true rfl⟩) (pre_V hK hPc hDc 0 11 rfl rfl) rfl rfl hl.1 rfl (lv_room (Nat.le_of_ble_eq_true rfl)) dX11_state_2 ⟨Nat.le_of_ble_eq_true rfl, Nat.le_of_ble_eq_true rfl⟩) hS hA hP (fun H locs hP hS => ?_)
  refine lv_istore_n (lv' := [(3, .int (-1)), (0, .ref mm), (1, .int i0), (2, .int i1)]) hx hb dX11_state_5 rfl hl (by decide) rfl (fun ls hl => ?_)
  refine lv_aload_n hx hb dX11_state_6 rfl (lv_at hl 1 rfl) ?_
  refine lv_iload_n hx hb dX11_state_7 rfl (lv_at hl 0 rfl) ?_
  have hPc := hP.sub (ws' := [(mm, .inr (11, fs))]) [0] rfl
  have hDc := hD.sub (ws' := [(mm, .inr (11, fs))]) [0] (by decide) rfl
  refine ro (va_runV (As := [.int (-1)]) (rest := []) ⟨hx, hb, hml, hown, hts⟩ (c_isPG0 l D cI cR cM _ mm fs) (cwV 1 hts gX11_state_X11_isPlainGood rfl rfl rfl (by decide +kernel) ⟨Nat.le_of_ble_eq_true rfl, Nat.le_of_ble_eq_true rfl⟩) (pre_V hK hPc hDc 0 11 rfl rfl) rfl rfl hl.1 rfl (lv_room (Nat.le_of_ble_eq_true rfl)) dX11_state_8 ⟨Nat.le_of_ble_eq_true rfl, Nat.le_of_ble_eq_true rfl⟩) hS hA hP (fun H locs hP hS => ?_)
  refine lv_if_eq (tgt := 30) hx hb dX11_state_11 (by decide) (fun c11 => ?_) (fun c11 => absurd (by decide) c11)
  refine lv_iconst (v := (-1)) hx hb dX11_state_30 (by decide) ?_
  exact ro_iret hx hb hr hlocks hS (rfl) hQ dX11_state_31
set_option maxRecDepth 100000 in
set_option maxHeartbeats 4000000 in
theorem c_madd (l : Launch) (D : va_G) (cI cR cM : ClassId) (sz : Nat) (i0 i1 : Int32) (mm : Nat) (fs : List Value) (hf_looked : fs[4]? = some (.int 0)) : Met l yX11_add wsX11_add ({ frames := 3, cells := 0, slots := 0, locals := 71 }) (P0 D cI cR cM [.ref mm, .int i0, .int i1] sz [(mm, .inr (11, fs))]) (QE (some (.int (-1))) sz) 0 0 (va_A [] sz) := by
  refine go (cc := cX11_add) (maxL := 10) (ret := (some .int)) (by decide) rfl (Nat.le_of_ble_eq_true rfl) ?_
  intro p e s m below meth c ls args Q hQ hsz hx hb hr hml hts hown hlocks hnm hP hK hD hl
  subst hsz
  have hS : va_S (va_A [] s.heap.size) s.heap s.heap [] := va_S.rf
  have hA : ∀ q, s.heap.size ≤ q → va_A [] s.heap.size q := fun q h => Or.inr h
  have hl : lv_has ls 10 [(0, .ref mm), (1, .int i0), (2, .int i1)] := hl
  refine lv_aload_n hx hb dX11_add_0 rfl (lv_at hl 0 rfl) ?_
  refine lv_iload_n hx hb dX11_add_1 rfl (lv_at hl 1 rfl) ?_
  have hPc := hP.sub (ws' := [(mm, .inr (11, fs))]) [0] rfl
  have hDc := hD.sub (ws' := [(mm, .inr (11, fs))]) [0] (by decide) rfl
  refine ro (va_runV (As := [.int i0]) (rest := []) ⟨hx, hb, hml, hown, hts⟩ (c_rowOf l D cI cR cM _ i0 mm fs hf_looked) (cwV 1 hts gX11_add_X11_rowOf rfl rfl rfl (by decide +kernel) ⟨Nat.le_of_ble_eq_true rfl, Nat.le_of_ble_eq_true rfl⟩) (pre_V hK hPc hDc 0 11 rfl rfl) rfl rfl hl.1 rfl (lv_room (Nat.le_of_ble_eq_true rfl)) dX11_add_2 ⟨Nat.le_of_ble_eq_true rfl, Nat.le_of_ble_eq_true rfl⟩) hS hA hP (fun H locs hP hS => ?_)
  refine lv_istore_n (lv' := [(3, .int (-1)), (0, .ref mm), (1, .int i0), (2, .int i1)]) hx hb dX11_add_5 rfl hl (by decide) rfl (fun ls hl => ?_)
  refine lv_iload_n hx hb dX11_add_6 rfl (lv_at hl 3 rfl) ?_
  refine lv_iconst (v := 1) hx hb dX11_add_7 (by decide) ?_
  refine lv_bipush (v := 50) hx hb dX11_add_8 (by decide) ?_
  refine ro (va_runS (As := [.int i1, .int 1, .int 50]) (rest := []) ⟨hx, hb, hml, hown, hts⟩ (c_isIn l D cI cR cM _ i1 1 50) (va_cwS 3 hts gX11_add_X11_isIn rfl rfl rfl (by decide +kernel) ⟨Nat.le_of_ble_eq_true rfl, Nat.le_of_ble_eq_true rfl⟩) (pre_S hK va_P_nil (va_D_nil (A := fun _ => True))) rfl rfl hl.1 rfl (lv_room (Nat.le_of_ble_eq_true rfl)) dX11_add_10 ⟨Nat.le_of_ble_eq_true rfl, Nat.le_of_ble_eq_true rfl⟩) hS hA hP (fun H locs hP hS => ?_)
  refine lv_if_eq (tgt := 24) hx hb dX11_add_13 (by decide) (fun c13 => ?_) (fun c13 => ?_)
  · refine lv_iconst (v := (-1)) hx hb dX11_add_24 (by decide) ?_
    exact ro_iret hx hb hr hlocks hS (rfl) hQ dX11_add_25
  · refine lv_aload_n hx hb dX11_add_16 rfl (lv_at hl 1 rfl) ?_
    refine lv_iload_n hx hb dX11_add_17 rfl (lv_at hl 0 rfl) ?_
    have hPc := hP.sub (ws' := [(mm, .inr (11, fs))]) [0] rfl
    have hDc := hD.sub (ws' := [(mm, .inr (11, fs))]) [0] (by decide) rfl
    refine ro (va_runV (As := [.int (-1)]) (rest := []) ⟨hx, hb, hml, hown, hts⟩ (c_isPG0 l D cI cR cM _ mm fs) (cwV 1 hts gX11_add_X11_isPlainGood rfl rfl rfl (by decide +kernel) ⟨Nat.le_of_ble_eq_true rfl, Nat.le_of_ble_eq_true rfl⟩) (pre_V hK hPc hDc 0 11 rfl rfl) rfl rfl hl.1 rfl (lv_room (Nat.le_of_ble_eq_true rfl)) dX11_add_18 ⟨Nat.le_of_ble_eq_true rfl, Nat.le_of_ble_eq_true rfl⟩) hS hA hP (fun H locs hP hS => ?_)
    refine lv_if_ne (tgt := 26) hx hb dX11_add_21 (by decide) (fun c21 => absurd (by decide) c21) (fun c21 => ?_)
    refine lv_iconst (v := (-1)) hx hb dX11_add_24 (by decide) ?_
    exact ro_iret hx hb hr hlocks hS (rfl) hQ dX11_add_25
set_option maxRecDepth 100000 in
set_option maxHeartbeats 4000000 in
theorem c_mscore (l : Launch) (D : va_G) (cI cR cM : ClassId) (sz : Nat) (i0 i1 : Int32) (mm : Nat) (fs : List Value) (hf_scored : fs[42]? = some (.int 0)) : Met l yX11_score wsX11_score ({ frames := 1, cells := 0, slots := 0, locals := 22 }) (P0 D cI cR cM [.ref mm, .int i0, .int i1] sz [(mm, .inr (11, fs))]) (QE (some (.int (-1))) sz) 0 0 (va_A [] sz) := by
  refine go (cc := cX11_score) (maxL := 3) (ret := (some .int)) (by decide) rfl (Nat.le_of_ble_eq_true rfl) ?_
  intro p e s m below meth c ls args Q hQ hsz hx hb hr hml hts hown hlocks hnm hP hK hD hl
  subst hsz
  have hS : va_S (va_A [] s.heap.size) s.heap s.heap [] := va_S.rf
  have hA : ∀ q, s.heap.size ≤ q → va_A [] s.heap.size q := fun q h => Or.inr h
  have hl : lv_has ls 3 [(0, .ref mm), (1, .int i0), (2, .int i1)] := hl
  refine lv_iload_n hx hb dX11_score_0 rfl (lv_at hl 1 rfl) ?_
  refine lv_iconst (v := 0) hx hb dX11_score_1 (by decide) ?_
  refine lv_aload_n hx hb dX11_score_2 rfl (lv_at hl 0 rfl) ?_
  refine va_get (D := D) (ci := 11) (v := .int 0) (C := RX11) (T := TX11) (N := 47) hx hb hts (by decide +kernel) hown hK.1 hP 0 rfl rfl 42 (by decide) (hts (.fieldLink RX11 310 "JugglingHallModel" "scored" "I") (by decide +kernel)) (fun _ h9 => h9) hf_scored dX11_score_3 ?_
  refine lv_iconst (v := 1) hx hb dX11_score_6 (by decide) ?_
  refine lv_isub hx hb dX11_score_7 ?_
  refine lv_eqi (y := (-1)) (by decide) ?_
  refine ro (va_runS (As := [.int i0, .int 0, .int (-1)]) (rest := []) ⟨hx, hb, hml, hown, hts⟩ (c_isIn l D cI cR cM _ i0 0 (-1)) (va_cwS 3 hts gX11_score_X11_isIn rfl rfl rfl (by decide +kernel) ⟨Nat.le_of_ble_eq_true rfl, Nat.le_of_ble_eq_true rfl⟩) (pre_S hK va_P_nil (va_D_nil (A := fun _ => True))) rfl rfl hl.1 rfl (lv_room (Nat.le_of_ble_eq_true rfl)) dX11_score_8 ⟨Nat.le_of_ble_eq_true rfl, Nat.le_of_ble_eq_true rfl⟩) hS hA hP (fun H locs hP hS => ?_)
  refine lv_eqi (y := 0) (inI_none) ?_
  refine lv_if_ne (tgt := 16) hx hb dX11_score_11 (by decide) (fun c11 => absurd (by decide) c11) (fun c11 => ?_)
  refine lv_iconst (v := (-1)) hx hb dX11_score_14 (by decide) ?_
  exact ro_iret hx hb hr hlocks hS (rfl) hQ dX11_score_15
set_option maxRecDepth 100000 in
set_option maxHeartbeats 4000000 in
theorem c_seenRow (l : Launch) (D : va_G) (cI cR cM : ClassId) (sz : Nat) (mm : Nat) (fs : List Value) (hf_looked : fs[4]? = some (.int 0)) : Met l yX11_seenRow wsX11_seenRow ({ frames := 0, cells := 0, slots := 0, locals := 0 }) (P0 D cI cR cM [.ref mm] sz [(mm, .inr (11, fs))]) (QE (some (.int (-1))) sz) 0 0 (va_A [] sz) := by
  refine go (cc := cX11_seenRow) (maxL := 2) (ret := (some .int)) (by decide) rfl (Nat.le_of_ble_eq_true rfl) ?_
  intro p e s m below meth c ls args Q hQ hsz hx hb hr hml hts hown hlocks hnm hP hK hD hl
  subst hsz
  have hS : va_S (va_A [] s.heap.size) s.heap s.heap [] := va_S.rf
  have hA : ∀ q, s.heap.size ≤ q → va_A [] s.heap.size q := fun q h => Or.inr h
  have hl : lv_has ls 2 [(0, .ref mm)] := hl
  refine lv_aload_n hx hb dX11_seenRow_0 rfl (lv_at hl 0 rfl) ?_
  refine va_get (D := D) (ci := 11) (v := .int 0) (C := RX11) (T := TX11) (N := 47) hx hb hts (by decide +kernel) hown hK.1 hP 0 rfl rfl 4 (by decide) (hts (.fieldLink RX11 104 "JugglingHallModel" "looked" "I") (by decide +kernel)) (fun _ h9 => h9) hf_looked dX11_seenRow_1 ?_
  refine lv_istore_n (lv' := [(1, .int 0), (0, .ref mm)]) hx hb dX11_seenRow_4 rfl hl (by decide) rfl (fun ls hl => ?_)
  refine lv_iload_n hx hb dX11_seenRow_5 rfl (lv_at hl 0 rfl) ?_
  refine lv_if_le (tgt := 32) hx hb dX11_seenRow_6 (by decide) (fun c6 => ?_) (fun c6 => absurd (by decide) c6)
  refine lv_iconst (v := (-1)) hx hb dX11_seenRow_32 (by decide) ?_
  exact ro_iret hx hb hr hlocks hS (rfl) hQ dX11_seenRow_33
set_option maxRecDepth 100000 in
set_option maxHeartbeats 4000000 in
theorem c_mseen (l : Launch) (D : va_G) (cI cR cM : ClassId) (sz : Nat) (i0 : Int32) (mm : Nat) (fs : List Value) (hf_looked : fs[4]? = some (.int 0)) : Met l yX11_seen wsX11_seen ({ frames := 1, cells := 0, slots := 0, locals := 21 }) (P0 D cI cR cM [.ref mm, .int i0] sz [(mm, .inr (11, fs))]) (QE (some (.int (if i0 = 0 then 0 else -1))) sz) 0 0 (va_A [] sz) := by
  refine go (cc := cX11_seen) (maxL := 4) (ret := (some .int)) (by decide) rfl (Nat.le_of_ble_eq_true rfl) ?_
  intro p e s m below meth c ls args Q hQ hsz hx hb hr hml hts hown hlocks hnm hP hK hD hl
  subst hsz
  have hS : va_S (va_A [] s.heap.size) s.heap s.heap [] := va_S.rf
  have hA : ∀ q, s.heap.size ≤ q → va_A [] s.heap.size q := fun q h => Or.inr h
  have hl : lv_has ls 4 [(0, .ref mm), (1, .int i0)] := hl
  refine lv_aload_n hx hb dX11_seen_0 rfl (lv_at hl 0 rfl) ?_
  have hPc := hP.sub (ws' := [(mm, .inr (11, fs))]) [0] rfl
  have hDc := hD.sub (ws' := [(mm, .inr (11, fs))]) [0] (by decide) rfl
  refine ro (va_runV (As := []) (rest := []) ⟨hx, hb, hml, hown, hts⟩ (c_seenRow l D cI cR cM _ mm fs hf_looked) (cwV 0 hts gX11_seen_X11_seenRow rfl rfl rfl (by decide +kernel) ⟨Nat.le_of_ble_eq_true rfl, Nat.le_of_ble_eq_true rfl⟩) (pre_V hK hPc hDc 0 11 rfl rfl) rfl rfl hl.1 rfl (lv_room (Nat.le_of_ble_eq_true rfl)) dX11_seen_1 ⟨Nat.le_of_ble_eq_true rfl, Nat.le_of_ble_eq_true rfl⟩) hS hA hP (fun H locs hP hS => ?_)
  refine lv_istore_n (lv' := [(2, .int (-1)), (0, .ref mm), (1, .int i0)]) hx hb dX11_seen_4 rfl hl (by decide) rfl (fun ls hl => ?_)
  refine lv_iload_n hx hb dX11_seen_5 rfl (lv_at hl 2 rfl) ?_
  refine lv_if_ne (tgt := 24) hx hb dX11_seen_6 (by decide) (fun c6 => ?_) (fun c6 => ?_)
  · refine lv_iload_n hx hb dX11_seen_24 rfl (lv_at hl 0 rfl) ?_
    refine lv_if_lt (tgt := 46) hx hb dX11_seen_25 (by decide) (fun c25 => ?_) (fun c25 => absurd (by decide) c25)
    refine lv_iconst (v := (-1)) hx hb dX11_seen_46 (by decide) ?_
    exact ro_iret hx hb hr hlocks hS ((if_neg c6).symm) hQ dX11_seen_47
  · refine lv_iload_n hx hb dX11_seen_9 rfl (lv_at hl 0 rfl) ?_
    refine lv_if_ge (tgt := 17) hx hb dX11_seen_10 (by decide) (fun c10 => absurd c10 (by decide)) (fun c10 => ?_)
    refine lv_iconst (v := 0) hx hb dX11_seen_13 (by decide) ?_
    refine lv_goto (tgt := 23) hx hb dX11_seen_14 (by decide) ?_
    exact ro_iret hx hb hr hlocks hS ((if_pos c6).symm) hQ dX11_seen_23
set_option maxRecDepth 100000 in
set_option maxHeartbeats 4000000 in
theorem c_mwhole (l : Launch) (D : va_G) (cI cR cM : ClassId) (sz : Nat) (i0 i1 : Int32) (mm : Nat) (fs : List Value) (hf_looked : fs[4]? = some (.int 0)) : Met l yX11_whole wsX11_whole ({ frames := 1, cells := 0, slots := 0, locals := 21 }) (P0 D cI cR cM [.ref mm, .int i0, .int i1] sz [(mm, .inr (11, fs))]) (QE (some (.int (-1))) sz) 0 0 (va_A [] sz) := by
  refine go (cc := cX11_whole) (maxL := 5) (ret := (some .int)) (by decide) rfl (Nat.le_of_ble_eq_true rfl) ?_
  intro p e s m below meth c ls args Q hQ hsz hx hb hr hml hts hown hlocks hnm hP hK hD hl
  subst hsz
  have hS : va_S (va_A [] s.heap.size) s.heap s.heap [] := va_S.rf
  have hA : ∀ q, s.heap.size ≤ q → va_A [] s.heap.size q := fun q h => Or.inr h
  have hl : lv_has ls 5 [(0, .ref mm), (1, .int i0), (2, .int i1)] := hl
  refine lv_aload_n hx hb dX11_whole_0 rfl (lv_at hl 0 rfl) ?_
  have hPc := hP.sub (ws' := [(mm, .inr (11, fs))]) [0] rfl
  have hDc := hD.sub (ws' := [(mm, .inr (11, fs))]) [0] (by decide) rfl
  refine ro (va_runV (As := []) (rest := []) ⟨hx, hb, hml, hown, hts⟩ (c_seenRow l D cI cR cM _ mm fs hf_looked) (cwV 0 hts gX11_whole_X11_seenRow rfl rfl rfl (by decide +kernel) ⟨Nat.le_of_ble_eq_true rfl, Nat.le_of_ble_eq_true rfl⟩) (pre_V hK hPc hDc 0 11 rfl rfl) rfl rfl hl.1 rfl (lv_room (Nat.le_of_ble_eq_true rfl)) dX11_whole_1 ⟨Nat.le_of_ble_eq_true rfl, Nat.le_of_ble_eq_true rfl⟩) hS hA hP (fun H locs hP hS => ?_)
  refine lv_istore_n (lv' := [(3, .int (-1)), (0, .ref mm), (1, .int i0), (2, .int i1)]) hx hb dX11_whole_4 rfl hl (by decide) rfl (fun ls hl => ?_)
  refine lv_iload_n hx hb dX11_whole_5 rfl (lv_at hl 0 rfl) ?_
  refine lv_if_lt (tgt := 24) hx hb dX11_whole_6 (by decide) (fun c6 => ?_) (fun c6 => absurd (by decide) c6)
  refine lv_iconst (v := (-1)) hx hb dX11_whole_24 (by decide) ?_
  exact ro_iret hx hb hr hlocks hS (rfl) hQ dX11_whole_25
set_option maxRecDepth 100000 in
set_option maxHeartbeats 4000000 in
theorem c_mfault (l : Launch) (D : va_G) (cI cR cM : ClassId) (sz : Nat) (i0 : Int32) (mm : Nat) (fs : List Value) (hf_fault : fs[7]? = some (.int (-1))) (hf_faultPlace : fs[8]? = some (.int (-1))) : Met l yX11_fault wsX11_fault ({ frames := 0, cells := 0, slots := 0, locals := 0 }) (P0 D cI cR cM [.ref mm, .int i0] sz [(mm, .inr (11, fs))]) (QE (some (.int (-1))) sz) 0 0 (va_A [] sz) := by
  refine go (cc := cX11_fault) (maxL := 2) (ret := (some .int)) (by decide) rfl (Nat.le_of_ble_eq_true rfl) ?_
  intro p e s m below meth c ls args Q hQ hsz hx hb hr hml hts hown hlocks hnm hP hK hD hl
  subst hsz
  have hS : va_S (va_A [] s.heap.size) s.heap s.heap [] := va_S.rf
  have hA : ∀ q, s.heap.size ≤ q → va_A [] s.heap.size q := fun q h => Or.inr h
  have hl : lv_has ls 2 [(0, .ref mm), (1, .int i0)] := hl
  refine lv_iload_n hx hb dX11_fault_0 rfl (lv_at hl 1 rfl) ?_
  refine lv_if_ne (tgt := 11) hx hb dX11_fault_1 (by decide) (fun c1 => ?_) (fun c1 => ?_)
  · refine lv_iload_n hx hb dX11_fault_11 rfl (lv_at hl 1 rfl) ?_
    refine lv_iconst (v := 1) hx hb dX11_fault_12 (by decide) ?_
    refine lv_icmp_ne (tgt := 23) hx hb dX11_fault_13 (by decide) (fun c13 => ?_) (fun c13 => ?_)
    · refine lv_iconst (v := (-1)) hx hb dX11_fault_23 (by decide) ?_
      exact ro_iret hx hb hr hlocks hS (rfl) hQ dX11_fault_24
    · refine lv_aload_n hx hb dX11_fault_16 rfl (lv_at hl 0 rfl) ?_
      refine va_get (D := D) (ci := 11) (v := .int (-1)) (C := RX11) (T := TX11) (N := 47) hx hb hts (by decide +kernel) hown hK.1 hP 0 rfl rfl 8 (by decide) (hts (.fieldLink RX11 24 "JugglingHallModel" "faultPlace" "I") (by decide +kernel)) (fun _ h9 => h9) hf_faultPlace dX11_fault_17 ?_
      refine lv_goto (tgt := 24) hx hb dX11_fault_20 (by decide) ?_
      exact ro_iret hx hb hr hlocks hS (rfl) hQ dX11_fault_24
  · refine lv_aload_n hx hb dX11_fault_4 rfl (lv_at hl 0 rfl) ?_
    refine va_get (D := D) (ci := 11) (v := .int (-1)) (C := RX11) (T := TX11) (N := 47) hx hb hts (by decide +kernel) hown hK.1 hP 0 rfl rfl 7 (by decide) (hts (.fieldLink RX11 20 "JugglingHallModel" "fault" "I") (by decide +kernel)) (fun _ h9 => h9) hf_fault dX11_fault_5 ?_
    refine lv_goto (tgt := 24) hx hb dX11_fault_8 (by decide) ?_
    exact ro_iret hx hb hr hlocks hS (rfl) hQ dX11_fault_24
set_option maxRecDepth 100000 in
set_option maxHeartbeats 4000000 in
theorem c_mabout (l : Launch) (D : va_G) (cI cR cM : ClassId) (sz : Nat) {jn : Nat} (i0 : Int32) (mm : Nat) (fs : List Value) (hf_jugglers : fs[0]? = some (.int (nI jn))) (hf_time : fs[3]? = some (.int 0)) (hf_looked : fs[4]? = some (.int 0)) (hf_taped : fs[6]? = some (.int 0)) (hf_scored : fs[42]? = some (.int 0)) : Met l yX11_about wsX11_about ({ frames := 2, cells := 0, slots := 0, locals := 47 }) (P0 D cI cR cM [.ref mm, .int i0] sz [(mm, .inr (11, fs))]) (QE (some (.int (abI jn i0))) sz) 0 0 (va_A [] sz) := by
  refine go (cc := cX11_about) (maxL := 4) (ret := (some .int)) (by decide) rfl (Nat.le_of_ble_eq_true rfl) ?_
  intro p e s m below meth c ls args Q hQ hsz hx hb hr hml hts hown hlocks hnm hP hK hD hl
  subst hsz
  have hS : va_S (va_A [] s.heap.size) s.heap s.heap [] := va_S.rf
  have hA : ∀ q, s.heap.size ≤ q → va_A [] s.heap.size q := fun q h => Or.inr h
  have hl : lv_has ls 4 [(0, .ref mm), (1, .int i0)] := hl
  refine lv_iconst (v := 0) hx hb dX11_about_0 (by decide) ?_
  refine lv_istore_n (lv' := [(2, .int 0), (0, .ref mm), (1, .int i0)]) hx hb dX11_about_1 rfl hl (by decide) rfl (fun ls hl => ?_)
  refine lv_iload_n hx hb dX11_about_2 rfl (lv_at hl 2 rfl) ?_
  rcases Classical.em (i0 = 0) with e0 | e0
  · refine lv_tableIn (tgt := 40) hx hb dX11_about_3 (by rw [e0]; decide) (by rw [e0]; decide) (by rw [e0]; rfl) (by decide) ?_
    refine lv_aload_n hx hb dX11_about_40 rfl (lv_at hl 1 rfl) ?_
    refine va_get (D := D) (ci := 11) (v := .int (nI jn)) (C := RX11) (T := TX11) (N := 47) hx hb hts (by decide +kernel) hown hK.1 hP 0 rfl rfl 0 (by decide) (hts (.fieldLink RX11 93 "JugglingHallModel" "jugglers" "I") (by decide +kernel)) (fun _ h9 => h9) hf_jugglers dX11_about_41 ?_
    exact ro_iret hx hb hr hlocks hS (by unfold abI; rw [if_pos e0]) hQ dX11_about_44
  · rcases Classical.em (i0 = 1) with e1 | e1
    · refine lv_tableIn (tgt := 45) hx hb dX11_about_3 (by rw [e1]; decide) (by rw [e1]; decide) (by rw [e1]; rfl) (by decide) ?_
      refine lv_aload_n hx hb dX11_about_45 rfl (lv_at hl 1 rfl) ?_
      refine va_get (D := D) (ci := 11) (v := .int 0) (C := RX11) (T := TX11) (N := 47) hx hb hts (by decide +kernel) hown hK.1 hP 0 rfl rfl 3 (by decide) (hts (.fieldLink RX11 185 "JugglingHallModel" "time" "I") (by decide +kernel)) (fun _ h9 => h9) hf_time dX11_about_46 ?_
      exact ro_iret hx hb hr hlocks hS (by unfold abI; rw [if_neg e0, if_pos e1]) hQ dX11_about_49
    · rcases Classical.em (i0 = 2) with e2 | e2
      · refine lv_tableIn (tgt := 50) hx hb dX11_about_3 (by rw [e2]; decide) (by rw [e2]; decide) (by rw [e2]; rfl) (by decide) ?_
        refine lv_aload_n hx hb dX11_about_50 rfl (lv_at hl 1 rfl) ?_
        refine va_get (D := D) (ci := 11) (v := .int 0) (C := RX11) (T := TX11) (N := 47) hx hb hts (by decide +kernel) hown hK.1 hP 0 rfl rfl 4 (by decide) (hts (.fieldLink RX11 104 "JugglingHallModel" "looked" "I") (by decide +kernel)) (fun _ h9 => h9) hf_looked dX11_about_51 ?_
        exact ro_iret hx hb hr hlocks hS (by unfold abI; rw [if_neg e0, if_neg e1, if_pos e2]) hQ dX11_about_54
      · rcases Classical.em (i0 = 3) with e3 | e3
        · refine lv_tableIn (tgt := 55) hx hb dX11_about_3 (by rw [e3]; decide) (by rw [e3]; decide) (by rw [e3]; rfl) (by decide) ?_
          refine lv_aload_n hx hb dX11_about_55 rfl (lv_at hl 1 rfl) ?_
          refine va_get (D := D) (ci := 11) (v := .int 0) (C := RX11) (T := TX11) (N := 47) hx hb hts (by decide +kernel) hown hK.1 hP 0 rfl rfl 6 (by decide) (hts (.fieldLink RX11 110 "JugglingHallModel" "taped" "I") (by decide +kernel)) (fun _ h9 => h9) hf_taped dX11_about_56 ?_
          exact ro_iret hx hb hr hlocks hS (by unfold abI; rw [if_neg e0, if_neg e1, if_neg e2, if_pos e3]) hQ dX11_about_59
        · rcases Classical.em (i0 = 4) with e4 | e4
          · refine lv_tableIn (tgt := 60) hx hb dX11_about_3 (by rw [e4]; decide) (by rw [e4]; decide) (by rw [e4]; rfl) (by decide) ?_
            refine lv_aload_n hx hb dX11_about_60 rfl (lv_at hl 1 rfl) ?_
            refine va_get (D := D) (ci := 11) (v := .int 0) (C := RX11) (T := TX11) (N := 47) hx hb hts (by decide +kernel) hown hK.1 hP 0 rfl rfl 42 (by decide) (hts (.fieldLink RX11 310 "JugglingHallModel" "scored" "I") (by decide +kernel)) (fun _ h9 => h9) hf_scored dX11_about_61 ?_
            exact ro_iret hx hb hr hlocks hS (by unfold abI; rw [if_neg e0, if_neg e1, if_neg e2, if_neg e3, if_pos e4]) hQ dX11_about_64
          · rcases Classical.em (i0 = 5) with e5 | e5
            · refine lv_tableIn (tgt := 65) hx hb dX11_about_3 (by rw [e5]; decide) (by rw [e5]; decide) (by rw [e5]; rfl) (by decide) ?_
              refine lv_iconst (v := 0) hx hb dX11_about_65 (by decide) ?_
              refine lv_istore_n (lv' := [(3, .int 0), (2, .int 0), (0, .ref mm), (1, .int i0)]) hx hb dX11_about_66 rfl hl (by decide) rfl (fun ls hl => ?_)
              refine lv_iload_n hx hb dX11_about_67 rfl (lv_at hl 0 rfl) ?_
              refine lv_bipush (v := 8) hx hb dX11_about_68 (by decide) ?_
              refine lv_icmp_ge (tgt := 95) hx hb dX11_about_70 (by decide) (fun c70 => absurd c70 (by decide)) (fun c70 => ?_)
              refine lv_iload_n hx hb dX11_about_73 rfl (lv_at hl 1 rfl) ?_
              refine lv_aload_n hx hb dX11_about_74 rfl (lv_at hl 2 rfl) ?_
              refine lv_iload_n hx hb dX11_about_75 rfl (lv_at hl 0 rfl) ?_
              have hPc := hP.sub (ws' := [(mm, .inr (11, fs))]) [0] rfl
              have hDc := hD.sub (ws' := [(mm, .inr (11, fs))]) [0] (by decide) rfl
              refine ro (va_runV (As := [.int 0]) (rest := [.int 0]) ⟨hx, hb, hml, hown, hts⟩ (c_rowOf l D cI cR cM _ 0 mm fs hf_looked) (cwV 1 hts gX11_about_X11_rowOf rfl rfl rfl (by decide +kernel) ⟨Nat.le_of_ble_eq_true rfl, Nat.le_of_ble_eq_true rfl⟩) (pre_V hK hPc hDc 0 11 rfl rfl) rfl rfl hl.1 rfl (lv_room (Nat.le_of_ble_eq_true rfl)) dX11_about_76 ⟨Nat.le_of_ble_eq_true rfl, Nat.le_of_ble_eq_true rfl⟩) hS hA hP (fun H locs hP hS => ?_)
              refine lv_if_lt (tgt := 86) hx hb dX11_about_79 (by decide) (fun c79 => ?_) (fun c79 => absurd (by decide) c79)
              refine lv_iconst (v := 0) hx hb dX11_about_86 (by decide) ?_
              refine lv_iadd hx hb dX11_about_87 ?_
              refine lv_eqi (y := 0) (by decide) ?_
              refine lv_istore_n (lv' := [(2, .int 0), (3, .int 0), (0, .ref mm), (1, .int i0)]) hx hb dX11_about_88 rfl hl (by decide) rfl (fun ls hl => ?_)
              refine lv_iinc (v := 1) (lv' := [(3, .int 1), (2, .int 0), (0, .ref mm), (1, .int i0)]) hx hb dX11_about_89 hl (k := 1) rfl (by decide) (by decide) rfl (fun ls hl => ?_)
              refine lv_goto (tgt := 67) hx hb dX11_about_92 (by decide) ?_
              refine lv_iload_n hx hb dX11_about_67 rfl (lv_at hl 0 rfl) ?_
              refine lv_bipush (v := 8) hx hb dX11_about_68 (by decide) ?_
              refine lv_icmp_ge (tgt := 95) hx hb dX11_about_70 (by decide) (fun c70 => absurd c70 (by decide)) (fun c70 => ?_)
              refine lv_iload_n hx hb dX11_about_73 rfl (lv_at hl 1 rfl) ?_
              refine lv_aload_n hx hb dX11_about_74 rfl (lv_at hl 2 rfl) ?_
              refine lv_iload_n hx hb dX11_about_75 rfl (lv_at hl 0 rfl) ?_
              have hPc := hP.sub (ws' := [(mm, .inr (11, fs))]) [0] rfl
              have hDc := hD.sub (ws' := [(mm, .inr (11, fs))]) [0] (by decide) rfl
              refine ro (va_runV (As := [.int 1]) (rest := [.int 0]) ⟨hx, hb, hml, hown, hts⟩ (c_rowOf l D cI cR cM _ 1 mm fs hf_looked) (cwV 1 hts gX11_about_X11_rowOf rfl rfl rfl (by decide +kernel) ⟨Nat.le_of_ble_eq_true rfl, Nat.le_of_ble_eq_true rfl⟩) (pre_V hK hPc hDc 0 11 rfl rfl) rfl rfl hl.1 rfl (lv_room (Nat.le_of_ble_eq_true rfl)) dX11_about_76 ⟨Nat.le_of_ble_eq_true rfl, Nat.le_of_ble_eq_true rfl⟩) hS hA hP (fun H locs hP hS => ?_)
              refine lv_if_lt (tgt := 86) hx hb dX11_about_79 (by decide) (fun c79 => ?_) (fun c79 => absurd (by decide) c79)
              refine lv_iconst (v := 0) hx hb dX11_about_86 (by decide) ?_
              refine lv_iadd hx hb dX11_about_87 ?_
              refine lv_eqi (y := 0) (by decide) ?_
              refine lv_istore_n (lv' := [(2, .int 0), (3, .int 1), (0, .ref mm), (1, .int i0)]) hx hb dX11_about_88 rfl hl (by decide) rfl (fun ls hl => ?_)
              refine lv_iinc (v := 2) (lv' := [(3, .int 2), (2, .int 0), (0, .ref mm), (1, .int i0)]) hx hb dX11_about_89 hl (k := 1) rfl (by decide) (by decide) rfl (fun ls hl => ?_)
              refine lv_goto (tgt := 67) hx hb dX11_about_92 (by decide) ?_
              refine lv_iload_n hx hb dX11_about_67 rfl (lv_at hl 0 rfl) ?_
              refine lv_bipush (v := 8) hx hb dX11_about_68 (by decide) ?_
              refine lv_icmp_ge (tgt := 95) hx hb dX11_about_70 (by decide) (fun c70 => absurd c70 (by decide)) (fun c70 => ?_)
              refine lv_iload_n hx hb dX11_about_73 rfl (lv_at hl 1 rfl) ?_
              refine lv_aload_n hx hb dX11_about_74 rfl (lv_at hl 2 rfl) ?_
              refine lv_iload_n hx hb dX11_about_75 rfl (lv_at hl 0 rfl) ?_
              have hPc := hP.sub (ws' := [(mm, .inr (11, fs))]) [0] rfl
              have hDc := hD.sub (ws' := [(mm, .inr (11, fs))]) [0] (by decide) rfl
              refine ro (va_runV (As := [.int 2]) (rest := [.int 0]) ⟨hx, hb, hml, hown, hts⟩ (c_rowOf l D cI cR cM _ 2 mm fs hf_looked) (cwV 1 hts gX11_about_X11_rowOf rfl rfl rfl (by decide +kernel) ⟨Nat.le_of_ble_eq_true rfl, Nat.le_of_ble_eq_true rfl⟩) (pre_V hK hPc hDc 0 11 rfl rfl) rfl rfl hl.1 rfl (lv_room (Nat.le_of_ble_eq_true rfl)) dX11_about_76 ⟨Nat.le_of_ble_eq_true rfl, Nat.le_of_ble_eq_true rfl⟩) hS hA hP (fun H locs hP hS => ?_)
              refine lv_if_lt (tgt := 86) hx hb dX11_about_79 (by decide) (fun c79 => ?_) (fun c79 => absurd (by decide) c79)
              refine lv_iconst (v := 0) hx hb dX11_about_86 (by decide) ?_
              refine lv_iadd hx hb dX11_about_87 ?_
              refine lv_eqi (y := 0) (by decide) ?_
              refine lv_istore_n (lv' := [(2, .int 0), (3, .int 2), (0, .ref mm), (1, .int i0)]) hx hb dX11_about_88 rfl hl (by decide) rfl (fun ls hl => ?_)
              refine lv_iinc (v := 3) (lv' := [(3, .int 3), (2, .int 0), (0, .ref mm), (1, .int i0)]) hx hb dX11_about_89 hl (k := 1) rfl (by decide) (by decide) rfl (fun ls hl => ?_)
              refine lv_goto (tgt := 67) hx hb dX11_about_92 (by decide) ?_
              refine lv_iload_n hx hb dX11_about_67 rfl (lv_at hl 0 rfl) ?_
              refine lv_bipush (v := 8) hx hb dX11_about_68 (by decide) ?_
              refine lv_icmp_ge (tgt := 95) hx hb dX11_about_70 (by decide) (fun c70 => absurd c70 (by decide)) (fun c70 => ?_)
              refine lv_iload_n hx hb dX11_about_73 rfl (lv_at hl 1 rfl) ?_
              refine lv_aload_n hx hb dX11_about_74 rfl (lv_at hl 2 rfl) ?_
              refine lv_iload_n hx hb dX11_about_75 rfl (lv_at hl 0 rfl) ?_
              have hPc := hP.sub (ws' := [(mm, .inr (11, fs))]) [0] rfl
              have hDc := hD.sub (ws' := [(mm, .inr (11, fs))]) [0] (by decide) rfl
              refine ro (va_runV (As := [.int 3]) (rest := [.int 0]) ⟨hx, hb, hml, hown, hts⟩ (c_rowOf l D cI cR cM _ 3 mm fs hf_looked) (cwV 1 hts gX11_about_X11_rowOf rfl rfl rfl (by decide +kernel) ⟨Nat.le_of_ble_eq_true rfl, Nat.le_of_ble_eq_true rfl⟩) (pre_V hK hPc hDc 0 11 rfl rfl) rfl rfl hl.1 rfl (lv_room (Nat.le_of_ble_eq_true rfl)) dX11_about_76 ⟨Nat.le_of_ble_eq_true rfl, Nat.le_of_ble_eq_true rfl⟩) hS hA hP (fun H locs hP hS => ?_)
              refine lv_if_lt (tgt := 86) hx hb dX11_about_79 (by decide) (fun c79 => ?_) (fun c79 => absurd (by decide) c79)
              refine lv_iconst (v := 0) hx hb dX11_about_86 (by decide) ?_
              refine lv_iadd hx hb dX11_about_87 ?_
              refine lv_eqi (y := 0) (by decide) ?_
              refine lv_istore_n (lv' := [(2, .int 0), (3, .int 3), (0, .ref mm), (1, .int i0)]) hx hb dX11_about_88 rfl hl (by decide) rfl (fun ls hl => ?_)
              refine lv_iinc (v := 4) (lv' := [(3, .int 4), (2, .int 0), (0, .ref mm), (1, .int i0)]) hx hb dX11_about_89 hl (k := 1) rfl (by decide) (by decide) rfl (fun ls hl => ?_)
              refine lv_goto (tgt := 67) hx hb dX11_about_92 (by decide) ?_
              refine lv_iload_n hx hb dX11_about_67 rfl (lv_at hl 0 rfl) ?_
              refine lv_bipush (v := 8) hx hb dX11_about_68 (by decide) ?_
              refine lv_icmp_ge (tgt := 95) hx hb dX11_about_70 (by decide) (fun c70 => absurd c70 (by decide)) (fun c70 => ?_)
              refine lv_iload_n hx hb dX11_about_73 rfl (lv_at hl 1 rfl) ?_
              refine lv_aload_n hx hb dX11_about_74 rfl (lv_at hl 2 rfl) ?_
              refine lv_iload_n hx hb dX11_about_75 rfl (lv_at hl 0 rfl) ?_
              have hPc := hP.sub (ws' := [(mm, .inr (11, fs))]) [0] rfl
              have hDc := hD.sub (ws' := [(mm, .inr (11, fs))]) [0] (by decide) rfl
              refine ro (va_runV (As := [.int 4]) (rest := [.int 0]) ⟨hx, hb, hml, hown, hts⟩ (c_rowOf l D cI cR cM _ 4 mm fs hf_looked) (cwV 1 hts gX11_about_X11_rowOf rfl rfl rfl (by decide +kernel) ⟨Nat.le_of_ble_eq_true rfl, Nat.le_of_ble_eq_true rfl⟩) (pre_V hK hPc hDc 0 11 rfl rfl) rfl rfl hl.1 rfl (lv_room (Nat.le_of_ble_eq_true rfl)) dX11_about_76 ⟨Nat.le_of_ble_eq_true rfl, Nat.le_of_ble_eq_true rfl⟩) hS hA hP (fun H locs hP hS => ?_)
              refine lv_if_lt (tgt := 86) hx hb dX11_about_79 (by decide) (fun c79 => ?_) (fun c79 => absurd (by decide) c79)
              refine lv_iconst (v := 0) hx hb dX11_about_86 (by decide) ?_
              refine lv_iadd hx hb dX11_about_87 ?_
              refine lv_eqi (y := 0) (by decide) ?_
              refine lv_istore_n (lv' := [(2, .int 0), (3, .int 4), (0, .ref mm), (1, .int i0)]) hx hb dX11_about_88 rfl hl (by decide) rfl (fun ls hl => ?_)
              refine lv_iinc (v := 5) (lv' := [(3, .int 5), (2, .int 0), (0, .ref mm), (1, .int i0)]) hx hb dX11_about_89 hl (k := 1) rfl (by decide) (by decide) rfl (fun ls hl => ?_)
              refine lv_goto (tgt := 67) hx hb dX11_about_92 (by decide) ?_
              refine lv_iload_n hx hb dX11_about_67 rfl (lv_at hl 0 rfl) ?_
              refine lv_bipush (v := 8) hx hb dX11_about_68 (by decide) ?_
              refine lv_icmp_ge (tgt := 95) hx hb dX11_about_70 (by decide) (fun c70 => absurd c70 (by decide)) (fun c70 => ?_)
              refine lv_iload_n hx hb dX11_about_73 rfl (lv_at hl 1 rfl) ?_
              refine lv_aload_n hx hb dX11_about_74 rfl (lv_at hl 2 rfl) ?_
              refine lv_iload_n hx hb dX11_about_75 rfl (lv_at hl 0 rfl) ?_
              have hPc := hP.sub (ws' := [(mm, .inr (11, fs))]) [0] rfl
              have hDc := hD.sub (ws' := [(mm, .inr (11, fs))]) [0] (by decide) rfl
              refine ro (va_runV (As := [.int 5]) (rest := [.int 0]) ⟨hx, hb, hml, hown, hts⟩ (c_rowOf l D cI cR cM _ 5 mm fs hf_looked) (cwV 1 hts gX11_about_X11_rowOf rfl rfl rfl (by decide +kernel) ⟨Nat.le_of_ble_eq_true rfl, Nat.le_of_ble_eq_true rfl⟩) (pre_V hK hPc hDc 0 11 rfl rfl) rfl rfl hl.1 rfl (lv_room (Nat.le_of_ble_eq_true rfl)) dX11_about_76 ⟨Nat.le_of_ble_eq_true rfl, Nat.le_of_ble_eq_true rfl⟩) hS hA hP (fun H locs hP hS => ?_)
              refine lv_if_lt (tgt := 86) hx hb dX11_about_79 (by decide) (fun c79 => ?_) (fun c79 => absurd (by decide) c79)
              refine lv_iconst (v := 0) hx hb dX11_about_86 (by decide) ?_
              refine lv_iadd hx hb dX11_about_87 ?_
              refine lv_eqi (y := 0) (by decide) ?_
              refine lv_istore_n (lv' := [(2, .int 0), (3, .int 5), (0, .ref mm), (1, .int i0)]) hx hb dX11_about_88 rfl hl (by decide) rfl (fun ls hl => ?_)
              refine lv_iinc (v := 6) (lv' := [(3, .int 6), (2, .int 0), (0, .ref mm), (1, .int i0)]) hx hb dX11_about_89 hl (k := 1) rfl (by decide) (by decide) rfl (fun ls hl => ?_)
              refine lv_goto (tgt := 67) hx hb dX11_about_92 (by decide) ?_
              refine lv_iload_n hx hb dX11_about_67 rfl (lv_at hl 0 rfl) ?_
              refine lv_bipush (v := 8) hx hb dX11_about_68 (by decide) ?_
              refine lv_icmp_ge (tgt := 95) hx hb dX11_about_70 (by decide) (fun c70 => absurd c70 (by decide)) (fun c70 => ?_)
              refine lv_iload_n hx hb dX11_about_73 rfl (lv_at hl 1 rfl) ?_
              refine lv_aload_n hx hb dX11_about_74 rfl (lv_at hl 2 rfl) ?_
              refine lv_iload_n hx hb dX11_about_75 rfl (lv_at hl 0 rfl) ?_
              have hPc := hP.sub (ws' := [(mm, .inr (11, fs))]) [0] rfl
              have hDc := hD.sub (ws' := [(mm, .inr (11, fs))]) [0] (by decide) rfl
              refine ro (va_runV (As := [.int 6]) (rest := [.int 0]) ⟨hx, hb, hml, hown, hts⟩ (c_rowOf l D cI cR cM _ 6 mm fs hf_looked) (cwV 1 hts gX11_about_X11_rowOf rfl rfl rfl (by decide +kernel) ⟨Nat.le_of_ble_eq_true rfl, Nat.le_of_ble_eq_true rfl⟩) (pre_V hK hPc hDc 0 11 rfl rfl) rfl rfl hl.1 rfl (lv_room (Nat.le_of_ble_eq_true rfl)) dX11_about_76 ⟨Nat.le_of_ble_eq_true rfl, Nat.le_of_ble_eq_true rfl⟩) hS hA hP (fun H locs hP hS => ?_)
              refine lv_if_lt (tgt := 86) hx hb dX11_about_79 (by decide) (fun c79 => ?_) (fun c79 => absurd (by decide) c79)
              refine lv_iconst (v := 0) hx hb dX11_about_86 (by decide) ?_
              refine lv_iadd hx hb dX11_about_87 ?_
              refine lv_eqi (y := 0) (by decide) ?_
              refine lv_istore_n (lv' := [(2, .int 0), (3, .int 6), (0, .ref mm), (1, .int i0)]) hx hb dX11_about_88 rfl hl (by decide) rfl (fun ls hl => ?_)
              refine lv_iinc (v := 7) (lv' := [(3, .int 7), (2, .int 0), (0, .ref mm), (1, .int i0)]) hx hb dX11_about_89 hl (k := 1) rfl (by decide) (by decide) rfl (fun ls hl => ?_)
              refine lv_goto (tgt := 67) hx hb dX11_about_92 (by decide) ?_
              refine lv_iload_n hx hb dX11_about_67 rfl (lv_at hl 0 rfl) ?_
              refine lv_bipush (v := 8) hx hb dX11_about_68 (by decide) ?_
              refine lv_icmp_ge (tgt := 95) hx hb dX11_about_70 (by decide) (fun c70 => absurd c70 (by decide)) (fun c70 => ?_)
              refine lv_iload_n hx hb dX11_about_73 rfl (lv_at hl 1 rfl) ?_
              refine lv_aload_n hx hb dX11_about_74 rfl (lv_at hl 2 rfl) ?_
              refine lv_iload_n hx hb dX11_about_75 rfl (lv_at hl 0 rfl) ?_
              have hPc := hP.sub (ws' := [(mm, .inr (11, fs))]) [0] rfl
              have hDc := hD.sub (ws' := [(mm, .inr (11, fs))]) [0] (by decide) rfl
              refine ro (va_runV (As := [.int 7]) (rest := [.int 0]) ⟨hx, hb, hml, hown, hts⟩ (c_rowOf l D cI cR cM _ 7 mm fs hf_looked) (cwV 1 hts gX11_about_X11_rowOf rfl rfl rfl (by decide +kernel) ⟨Nat.le_of_ble_eq_true rfl, Nat.le_of_ble_eq_true rfl⟩) (pre_V hK hPc hDc 0 11 rfl rfl) rfl rfl hl.1 rfl (lv_room (Nat.le_of_ble_eq_true rfl)) dX11_about_76 ⟨Nat.le_of_ble_eq_true rfl, Nat.le_of_ble_eq_true rfl⟩) hS hA hP (fun H locs hP hS => ?_)
              refine lv_if_lt (tgt := 86) hx hb dX11_about_79 (by decide) (fun c79 => ?_) (fun c79 => absurd (by decide) c79)
              refine lv_iconst (v := 0) hx hb dX11_about_86 (by decide) ?_
              refine lv_iadd hx hb dX11_about_87 ?_
              refine lv_eqi (y := 0) (by decide) ?_
              refine lv_istore_n (lv' := [(2, .int 0), (3, .int 7), (0, .ref mm), (1, .int i0)]) hx hb dX11_about_88 rfl hl (by decide) rfl (fun ls hl => ?_)
              refine lv_iinc (v := 8) (lv' := [(3, .int 8), (2, .int 0), (0, .ref mm), (1, .int i0)]) hx hb dX11_about_89 hl (k := 1) rfl (by decide) (by decide) rfl (fun ls hl => ?_)
              refine lv_goto (tgt := 67) hx hb dX11_about_92 (by decide) ?_
              refine lv_iload_n hx hb dX11_about_67 rfl (lv_at hl 0 rfl) ?_
              refine lv_bipush (v := 8) hx hb dX11_about_68 (by decide) ?_
              refine lv_icmp_ge (tgt := 95) hx hb dX11_about_70 (by decide) (fun c70 => ?_) (fun c70 => absurd (by decide) c70)
              refine lv_iload_n hx hb dX11_about_95 rfl (lv_at hl 1 rfl) ?_
              exact ro_iret hx hb hr hlocks hS (by unfold abI; rw [if_neg e0, if_neg e1, if_neg e2, if_neg e3, if_neg e4, if_pos e5]) hQ dX11_about_96
            · refine lv_tableOut (tgt := 97) hx hb dX11_about_3 (jx_out6 e0 e1 e2 e3 e4 e5) (by decide) ?_
              refine lv_iconst (v := (-1)) hx hb dX11_about_97 (by decide) ?_
              exact ro_iret hx hb hr hlocks hS (by unfold abI; rw [if_neg e0, if_neg e1, if_neg e2, if_neg e3, if_neg e4, if_neg e5]) hQ dX11_about_98
