theorem dX0_isFull_0 : decode cX0_isFull 0 = .ok (.aload_n 0, 1) := by decide +kernel
theorem dX0_isFull_1 : decode cX0_isFull 1 = .ok (.getfield 23, 3) := by decide +kernel
theorem dX0_isFull_4 : decode cX0_isFull 4 = .ok (.bipush 60, 2) := by decide +kernel
theorem dX0_isFull_6 : decode cX0_isFull 6 = .ok (.if_icmp .lt 7, 3) := by decide +kernel
theorem dX0_isFull_13 : decode cX0_isFull 13 = .ok (.iconst 0, 1) := by decide +kernel
theorem dX0_isFull_14 : decode cX0_isFull 14 = .ok (.ireturn, 1) := by decide +kernel
theorem dX0_rowSeen_0 : decode cX0_rowSeen 0 = .ok (.aload_n 0, 1) := by decide +kernel
theorem dX0_rowSeen_1 : decode cX0_rowSeen 1 = .ok (.aload_n 0, 1) := by decide +kernel
theorem dX0_rowSeen_2 : decode cX0_rowSeen 2 = .ok (.getfield 31, 3) := by decide +kernel
theorem dX0_rowSeen_5 : decode cX0_rowSeen 5 = .ok (.iload_n 1, 1) := by decide +kernel
theorem dX0_rowSeen_6 : decode cX0_rowSeen 6 = .ok (.invokevirtual 34, 3) := by decide +kernel
theorem dX0_rowSeen_9 : decode cX0_rowSeen 9 = .ok (.areturn, 1) := by decide +kernel
theorem dX0_marksSeen_0 : decode cX0_marksSeen 0 = .ok (.aload_n 0, 1) := by decide +kernel
theorem dX0_marksSeen_1 : decode cX0_marksSeen 1 = .ok (.getfield 19, 3) := by decide +kernel
theorem dX0_marksSeen_4 : decode cX0_marksSeen 4 = .ok (.aload_n 0, 1) := by decide +kernel
theorem dX0_marksSeen_5 : decode cX0_marksSeen 5 = .ok (.getfield 31, 3) := by decide +kernel
theorem dX0_marksSeen_8 : decode cX0_marksSeen 8 = .ok (.aaload, 1) := by decide +kernel
theorem dX0_marksSeen_9 : decode cX0_marksSeen 9 = .ok (.areturn, 1) := by decide +kernel
theorem dX0_lettersSeen_0 : decode cX0_lettersSeen 0 = .ok (.iconst 0, 1) := by decide +kernel
theorem dX0_lettersSeen_1 : decode cX0_lettersSeen 1 = .ok (.istore_n 1, 1) := by decide +kernel
theorem dX0_lettersSeen_2 : decode cX0_lettersSeen 2 = .ok (.iconst 0, 1) := by decide +kernel
theorem dX0_lettersSeen_3 : decode cX0_lettersSeen 3 = .ok (.istore_n 2, 1) := by decide +kernel
theorem dX0_lettersSeen_4 : decode cX0_lettersSeen 4 = .ok (.iload_n 2, 1) := by decide +kernel
theorem dX0_lettersSeen_5 : decode cX0_lettersSeen 5 = .ok (.bipush 8, 2) := by decide +kernel
theorem dX0_lettersSeen_7 : decode cX0_lettersSeen 7 = .ok (.if_icmp .ge 20, 3) := by decide +kernel
theorem dX0_lettersSeen_10 : decode cX0_lettersSeen 10 = .ok (.aload_n 0, 1) := by decide +kernel
theorem dX0_lettersSeen_11 : decode cX0_lettersSeen 11 = .ok (.iload_n 2, 1) := by decide +kernel
theorem dX0_lettersSeen_12 : decode cX0_lettersSeen 12 = .ok (.invokevirtual 38, 3) := by decide +kernel
theorem dX0_lettersSeen_15 : decode cX0_lettersSeen 15 = .ok (.ifnull 6, 3) := by decide +kernel
theorem dX0_lettersSeen_21 : decode cX0_lettersSeen 21 = .ok (.iinc 2 1, 3) := by decide +kernel
theorem dX0_lettersSeen_24 : decode cX0_lettersSeen 24 = .ok (.goto (-20), 3) := by decide +kernel
theorem dX0_lettersSeen_27 : decode cX0_lettersSeen 27 = .ok (.iload_n 1, 1) := by decide +kernel
theorem dX0_lettersSeen_28 : decode cX0_lettersSeen 28 = .ok (.ireturn, 1) := by decide +kernel
theorem dX0_rowAt_0 : decode cX0_rowAt 0 = .ok (.iload_n 2, 1) := by decide +kernel
theorem dX0_rowAt_1 : decode cX0_rowAt 1 = .ok (.ifCond .lt 9, 3) := by decide +kernel
theorem dX0_rowAt_4 : decode cX0_rowAt 4 = .ok (.iload_n 2, 1) := by decide +kernel
theorem dX0_rowAt_5 : decode cX0_rowAt 5 = .ok (.bipush 8, 2) := by decide +kernel
theorem dX0_rowAt_7 : decode cX0_rowAt 7 = .ok (.if_icmp .lt 7, 3) := by decide +kernel
theorem dX0_rowAt_10 : decode cX0_rowAt 10 = .ok (.aconst_null, 1) := by decide +kernel
theorem dX0_rowAt_11 : decode cX0_rowAt 11 = .ok (.goto 14, 3) := by decide +kernel
theorem dX0_rowAt_14 : decode cX0_rowAt 14 = .ok (.aload_n 0, 1) := by decide +kernel
theorem dX0_rowAt_15 : decode cX0_rowAt 15 = .ok (.getfield 11, 3) := by decide +kernel
theorem dX0_rowAt_18 : decode cX0_rowAt 18 = .ok (.iload_n 1, 1) := by decide +kernel
theorem dX0_rowAt_19 : decode cX0_rowAt 19 = .ok (.bipush 8, 2) := by decide +kernel
theorem dX0_rowAt_21 : decode cX0_rowAt 21 = .ok (.imul, 1) := by decide +kernel
theorem dX0_rowAt_22 : decode cX0_rowAt 22 = .ok (.iload_n 2, 1) := by decide +kernel
theorem dX0_rowAt_23 : decode cX0_rowAt 23 = .ok (.iadd, 1) := by decide +kernel
theorem dX0_rowAt_24 : decode cX0_rowAt 24 = .ok (.aaload, 1) := by decide +kernel
theorem dX0_rowAt_25 : decode cX0_rowAt 25 = .ok (.areturn, 1) := by decide +kernel
theorem dX1_lead_0 : decode cX1_lead 0 = .ok (.aload_n 1, 1) := by decide +kernel
theorem dX1_lead_1 : decode cX1_lead 1 = .ok (.ifnull 12, 3) := by decide +kernel
theorem dX1_lead_13 : decode cX1_lead 13 = .ok (.iconst 0, 1) := by decide +kernel
theorem dX1_lead_14 : decode cX1_lead 14 = .ok (.ireturn, 1) := by decide +kernel
theorem dX7_hasRoom_0 : decode cX7_hasRoom 0 = .ok (.aload_n 0, 1) := by decide +kernel
theorem dX7_hasRoom_1 : decode cX7_hasRoom 1 = .ok (.getfield 15, 3) := by decide +kernel
theorem dX7_hasRoom_4 : decode cX7_hasRoom 4 = .ok (.iload_n 1, 1) := by decide +kernel
theorem dX7_hasRoom_5 : decode cX7_hasRoom 5 = .ok (.iadd, 1) := by decide +kernel
theorem dX7_hasRoom_6 : decode cX7_hasRoom 6 = .ok (.aload_n 0, 1) := by decide +kernel
theorem dX7_hasRoom_7 : decode cX7_hasRoom 7 = .ok (.getfield 9, 3) := by decide +kernel
theorem dX7_hasRoom_10 : decode cX7_hasRoom 10 = .ok (.arraylength, 1) := by decide +kernel
theorem dX7_hasRoom_11 : decode cX7_hasRoom 11 = .ok (.if_icmp .gt 7, 3) := by decide +kernel
theorem dX7_hasRoom_14 : decode cX7_hasRoom 14 = .ok (.iconst 1, 1) := by decide +kernel
theorem dX7_hasRoom_15 : decode cX7_hasRoom 15 = .ok (.goto 4, 3) := by decide +kernel
theorem dX7_hasRoom_19 : decode cX7_hasRoom 19 = .ok (.ireturn, 1) := by decide +kernel
theorem dX7_take_0 : decode cX7_take 0 = .ok (.bipush 24, 2) := by decide +kernel
theorem dX7_take_2 : decode cX7_take 2 = .ok (.istore_n 2, 1) := by decide +kernel
theorem dX7_take_3 : decode cX7_take 3 = .ok (.iload_n 2, 1) := by decide +kernel
theorem dX7_take_4 : decode cX7_take 4 = .ok (.ifCond .lt 47, 3) := by decide +kernel
theorem dX7_take_7 : decode cX7_take 7 = .ok (.aload_n 0, 1) := by decide +kernel
theorem dX7_take_8 : decode cX7_take 8 = .ok (.getfield 15, 3) := by decide +kernel
theorem dX7_take_11 : decode cX7_take 11 = .ok (.aload_n 0, 1) := by decide +kernel
theorem dX7_take_12 : decode cX7_take 12 = .ok (.getfield 9, 3) := by decide +kernel
theorem dX7_take_15 : decode cX7_take 15 = .ok (.arraylength, 1) := by decide +kernel
theorem dX7_take_16 : decode cX7_take 16 = .ok (.if_icmp .ge 35, 3) := by decide +kernel
theorem dX7_take_19 : decode cX7_take 19 = .ok (.aload_n 0, 1) := by decide +kernel
theorem dX7_take_20 : decode cX7_take 20 = .ok (.getfield 9, 3) := by decide +kernel
theorem dX7_take_23 : decode cX7_take 23 = .ok (.aload_n 0, 1) := by decide +kernel
theorem dX7_take_24 : decode cX7_take 24 = .ok (.getfield 15, 3) := by decide +kernel
theorem dX7_take_27 : decode cX7_take 27 = .ok (.iload_n 1, 1) := by decide +kernel
theorem dX7_take_28 : decode cX7_take 28 = .ok (.iload_n 2, 1) := by decide +kernel
theorem dX7_take_29 : decode cX7_take 29 = .ok (.iushr, 1) := by decide +kernel
theorem dX7_take_30 : decode cX7_take 30 = .ok (.sipush 255, 3) := by decide +kernel
theorem dX7_take_33 : decode cX7_take 33 = .ok (.iand, 1) := by decide +kernel
theorem dX7_take_34 : decode cX7_take 34 = .ok (.iastore, 1) := by decide +kernel
theorem dX7_take_35 : decode cX7_take 35 = .ok (.aload_n 0, 1) := by decide +kernel
theorem dX7_take_36 : decode cX7_take 36 = .ok (.dup, 1) := by decide +kernel
theorem dX7_take_37 : decode cX7_take 37 = .ok (.getfield 15, 3) := by decide +kernel
theorem dX7_take_40 : decode cX7_take 40 = .ok (.iconst 1, 1) := by decide +kernel
theorem dX7_take_41 : decode cX7_take 41 = .ok (.iadd, 1) := by decide +kernel
theorem dX7_take_42 : decode cX7_take 42 = .ok (.putfield 15, 3) := by decide +kernel
theorem dX7_take_45 : decode cX7_take 45 = .ok (.iinc 2 (-8), 3) := by decide +kernel
theorem dX7_take_48 : decode cX7_take 48 = .ok (.goto (-45), 3) := by decide +kernel
theorem dX7_take_51 : decode cX7_take 51 = .ok (.return_, 1) := by decide +kernel
theorem dX10_feed_0 : decode cX10_feed 0 = .ok (.aload_n 0, 1) := by decide +kernel
theorem dX10_feed_1 : decode cX10_feed 1 = .ok (.getfield 25, 3) := by decide +kernel
theorem dX10_feed_4 : decode cX10_feed 4 = .ok (.bipush 20, 2) := by decide +kernel
theorem dX10_feed_6 : decode cX10_feed 6 = .ok (.invokevirtual 78, 3) := by decide +kernel
theorem dX10_feed_9 : decode cX10_feed 9 = .ok (.ifCond .ne 5, 3) := by decide +kernel
theorem dX10_feed_14 : decode cX10_feed 14 = .ok (.aload_n 0, 1) := by decide +kernel
theorem dX10_feed_15 : decode cX10_feed 15 = .ok (.getfield 25, 3) := by decide +kernel
theorem dX10_feed_18 : decode cX10_feed 18 = .ok (.iload_n 1, 1) := by decide +kernel
theorem dX10_feed_19 : decode cX10_feed 19 = .ok (.invokevirtual 82, 3) := by decide +kernel
theorem dX10_feed_22 : decode cX10_feed 22 = .ok (.aload_n 0, 1) := by decide +kernel
theorem dX10_feed_23 : decode cX10_feed 23 = .ok (.getfield 25, 3) := by decide +kernel
theorem dX10_feed_26 : decode cX10_feed 26 = .ok (.iload_n 2, 1) := by decide +kernel
theorem dX10_feed_27 : decode cX10_feed 27 = .ok (.invokevirtual 82, 3) := by decide +kernel
theorem dX10_feed_30 : decode cX10_feed 30 = .ok (.aload_n 0, 1) := by decide +kernel
theorem dX10_feed_31 : decode cX10_feed 31 = .ok (.getfield 25, 3) := by decide +kernel
theorem dX10_feed_34 : decode cX10_feed 34 = .ok (.iload_n 3, 1) := by decide +kernel
theorem dX10_feed_35 : decode cX10_feed 35 = .ok (.invokevirtual 82, 3) := by decide +kernel
theorem dX10_feed_38 : decode cX10_feed 38 = .ok (.aload_n 0, 1) := by decide +kernel
theorem dX10_feed_39 : decode cX10_feed 39 = .ok (.getfield 25, 3) := by decide +kernel
theorem dX10_feed_42 : decode cX10_feed 42 = .ok (.iload 4, 2) := by decide +kernel
theorem dX10_feed_44 : decode cX10_feed 44 = .ok (.invokevirtual 82, 3) := by decide +kernel
theorem dX10_feed_47 : decode cX10_feed 47 = .ok (.aload_n 0, 1) := by decide +kernel
theorem dX10_feed_48 : decode cX10_feed 48 = .ok (.getfield 25, 3) := by decide +kernel
theorem dX10_feed_51 : decode cX10_feed 51 = .ok (.iload 5, 2) := by decide +kernel
theorem dX10_feed_53 : decode cX10_feed 53 = .ok (.invokevirtual 82, 3) := by decide +kernel
theorem dX10_feed_56 : decode cX10_feed 56 = .ok (.aload_n 0, 1) := by decide +kernel
theorem dX10_feed_57 : decode cX10_feed 57 = .ok (.getfield 25, 3) := by decide +kernel
theorem dX10_feed_60 : decode cX10_feed 60 = .ok (.getfield 86, 3) := by decide +kernel
theorem dX10_feed_63 : decode cX10_feed 63 = .ok (.ireturn, 1) := by decide +kernel
theorem dX10_end_0 : decode cX10_end 0 = .ok (.iload_n 1, 1) := by decide +kernel
theorem dX10_end_1 : decode cX10_end 1 = .ok (.ifCond .lt 14, 3) := by decide +kernel
theorem dX10_end_4 : decode cX10_end 4 = .ok (.iload_n 1, 1) := by decide +kernel
theorem dX10_end_5 : decode cX10_end 5 = .ok (.aload_n 0, 1) := by decide +kernel
theorem dX10_end_6 : decode cX10_end 6 = .ok (.getfield 25, 3) := by decide +kernel
theorem dX10_end_9 : decode cX10_end 9 = .ok (.getfield 86, 3) := by decide +kernel
theorem dX10_end_12 : decode cX10_end 12 = .ok (.if_icmp .le 5, 3) := by decide +kernel
theorem dX10_end_15 : decode cX10_end 15 = .ok (.iconst (-1), 1) := by decide +kernel
theorem dX10_end_16 : decode cX10_end 16 = .ok (.ireturn, 1) := by decide +kernel
theorem dX10_end_17 : decode cX10_end 17 = .ok (.aload_n 0, 1) := by decide +kernel
theorem dX10_end_18 : decode cX10_end 18 = .ok (.getfield 25, 3) := by decide +kernel
theorem dX10_end_21 : decode cX10_end 21 = .ok (.iload_n 1, 1) := by decide +kernel
theorem dX10_end_22 : decode cX10_end 22 = .ok (.putfield 86, 3) := by decide +kernel
theorem dX10_end_25 : decode cX10_end 25 = .ok (.iload_n 1, 1) := by decide +kernel
theorem dX10_end_26 : decode cX10_end 26 = .ok (.ireturn, 1) := by decide +kernel
theorem dX10_fault_0 : decode cX10_fault 0 = .ok (.iload_n 1, 1) := by decide +kernel
theorem dX10_fault_1 : decode cX10_fault 1 = .ok (.ifCond .ne 11, 3) := by decide +kernel
theorem dX10_fault_4 : decode cX10_fault 4 = .ok (.aload_n 0, 1) := by decide +kernel
theorem dX10_fault_5 : decode cX10_fault 5 = .ok (.getfield 46, 3) := by decide +kernel
theorem dX10_fault_8 : decode cX10_fault 8 = .ok (.getfield 102, 3) := by decide +kernel
theorem dX10_fault_11 : decode cX10_fault 11 = .ok (.ireturn, 1) := by decide +kernel
theorem dX10_fault_12 : decode cX10_fault 12 = .ok (.iload_n 1, 1) := by decide +kernel
theorem dX10_fault_13 : decode cX10_fault 13 = .ok (.iconst 1, 1) := by decide +kernel
theorem dX10_fault_14 : decode cX10_fault 14 = .ok (.if_icmp .ne 13, 3) := by decide +kernel
theorem dX10_fault_17 : decode cX10_fault 17 = .ok (.aload_n 0, 1) := by decide +kernel
theorem dX10_fault_18 : decode cX10_fault 18 = .ok (.getfield 46, 3) := by decide +kernel
theorem dX10_fault_21 : decode cX10_fault 21 = .ok (.getfield 105, 3) := by decide +kernel
theorem dX10_fault_24 : decode cX10_fault 24 = .ok (.goto 4, 3) := by decide +kernel
theorem dX10_fault_27 : decode cX10_fault 27 = .ok (.iconst (-1), 1) := by decide +kernel
theorem dX10_fault_28 : decode cX10_fault 28 = .ok (.ireturn, 1) := by decide +kernel
theorem dX10_look_0 : decode cX10_look 0 = .ok (.iload_n 1, 1) := by decide +kernel
theorem dX10_look_1 : decode cX10_look 1 = .ok (.ifCond .lt 14, 3) := by decide +kernel
theorem dX10_look_4 : decode cX10_look 4 = .ok (.iload_n 1, 1) := by decide +kernel
theorem dX10_look_5 : decode cX10_look 5 = .ok (.aload_n 0, 1) := by decide +kernel
theorem dX10_look_6 : decode cX10_look 6 = .ok (.getfield 32, 3) := by decide +kernel
theorem dX10_look_9 : decode cX10_look 9 = .ok (.getfield 99, 3) := by decide +kernel
theorem dX10_look_12 : decode cX10_look 12 = .ok (.if_icmp .le 5, 3) := by decide +kernel
theorem dX10_look_15 : decode cX10_look 15 = .ok (.iconst 0, 1) := by decide +kernel
theorem dX10_look_16 : decode cX10_look 16 = .ok (.ireturn, 1) := by decide +kernel
theorem dX10_look_17 : decode cX10_look 17 = .ok (.aload_n 0, 1) := by decide +kernel
theorem dX10_look_18 : decode cX10_look 18 = .ok (.getfield 32, 3) := by decide +kernel
theorem dX10_look_21 : decode cX10_look 21 = .ok (.iload_n 1, 1) := by decide +kernel
theorem dX10_look_22 : decode cX10_look 22 = .ok (.putfield 108, 3) := by decide +kernel
theorem dX10_look_25 : decode cX10_look 25 = .ok (.iconst 1, 1) := by decide +kernel
theorem dX10_look_26 : decode cX10_look 26 = .ok (.ireturn, 1) := by decide +kernel
theorem dX10_beats_0 : decode cX10_beats 0 = .ok (.aload_n 0, 1) := by decide +kernel
theorem dX10_beats_1 : decode cX10_beats 1 = .ok (.getfield 32, 3) := by decide +kernel
theorem dX10_beats_4 : decode cX10_beats 4 = .ok (.iload_n 1, 1) := by decide +kernel
theorem dX10_beats_5 : decode cX10_beats 5 = .ok (.invokevirtual 111, 3) := by decide +kernel
theorem dX10_beats_8 : decode cX10_beats 8 = .ok (.astore_n 2, 1) := by decide +kernel
theorem dX10_beats_9 : decode cX10_beats 9 = .ok (.aload_n 2, 1) := by decide +kernel
theorem dX10_beats_10 : decode cX10_beats 10 = .ok (.ifnonnull 7, 3) := by decide +kernel
theorem dX10_beats_13 : decode cX10_beats 13 = .ok (.iconst (-1), 1) := by decide +kernel
theorem dX10_beats_14 : decode cX10_beats 14 = .ok (.goto 7, 3) := by decide +kernel
theorem dX10_beats_21 : decode cX10_beats 21 = .ok (.ireturn, 1) := by decide +kernel
theorem dX10_thrown_0 : decode cX10_thrown 0 = .ok (.aload_n 0, 1) := by decide +kernel
theorem dX10_thrown_1 : decode cX10_thrown 1 = .ok (.getfield 32, 3) := by decide +kernel
theorem dX10_thrown_4 : decode cX10_thrown 4 = .ok (.iload_n 1, 1) := by decide +kernel
theorem dX10_thrown_5 : decode cX10_thrown 5 = .ok (.invokevirtual 111, 3) := by decide +kernel
theorem dX10_thrown_8 : decode cX10_thrown 8 = .ok (.astore 6, 2) := by decide +kernel
theorem dX10_thrown_10 : decode cX10_thrown 10 = .ok (.aload 6, 2) := by decide +kernel
theorem dX10_thrown_12 : decode cX10_thrown 12 = .ok (.ifnonnull 7, 3) := by decide +kernel
theorem dX10_thrown_15 : decode cX10_thrown 15 = .ok (.iconst (-1), 1) := by decide +kernel
theorem dX10_thrown_16 : decode cX10_thrown 16 = .ok (.goto 12, 3) := by decide +kernel
theorem dX10_thrown_28 : decode cX10_thrown 28 = .ok (.istore 7, 2) := by decide +kernel
theorem dX10_thrown_30 : decode cX10_thrown 30 = .ok (.iload 7, 2) := by decide +kernel
theorem dX10_thrown_32 : decode cX10_thrown 32 = .ok (.iconst (-1), 1) := by decide +kernel
theorem dX10_thrown_33 : decode cX10_thrown 33 = .ok (.if_icmp .ne 5, 3) := by decide +kernel
theorem dX10_thrown_36 : decode cX10_thrown 36 = .ok (.iconst (-1), 1) := by decide +kernel
theorem dX10_thrown_37 : decode cX10_thrown 37 = .ok (.ireturn, 1) := by decide +kernel
theorem dX10_good_0 : decode cX10_good 0 = .ok (.aload_n 0, 1) := by decide +kernel
theorem dX10_good_1 : decode cX10_good 1 = .ok (.getfield 32, 3) := by decide +kernel
theorem dX10_good_4 : decode cX10_good 4 = .ok (.iload_n 1, 1) := by decide +kernel
theorem dX10_good_5 : decode cX10_good 5 = .ok (.invokevirtual 111, 3) := by decide +kernel
theorem dX10_good_8 : decode cX10_good 8 = .ok (.astore_n 3, 1) := by decide +kernel
theorem dX10_good_9 : decode cX10_good 9 = .ok (.aload_n 3, 1) := by decide +kernel
theorem dX10_good_10 : decode cX10_good 10 = .ok (.ifnonnull 5, 3) := by decide +kernel
theorem dX10_good_13 : decode cX10_good 13 = .ok (.iconst (-1), 1) := by decide +kernel
theorem dX10_good_14 : decode cX10_good 14 = .ok (.ireturn, 1) := by decide +kernel
theorem dX10_cycles_0 : decode cX10_cycles 0 = .ok (.aload_n 0, 1) := by decide +kernel
theorem dX10_cycles_1 : decode cX10_cycles 1 = .ok (.getfield 53, 3) := by decide +kernel
theorem dX10_cycles_4 : decode cX10_cycles 4 = .ok (.aload_n 0, 1) := by decide +kernel
theorem dX10_cycles_5 : decode cX10_cycles 5 = .ok (.getfield 32, 3) := by decide +kernel
theorem dX10_cycles_8 : decode cX10_cycles 8 = .ok (.iload_n 1, 1) := by decide +kernel
theorem dX10_cycles_9 : decode cX10_cycles 9 = .ok (.invokevirtual 111, 3) := by decide +kernel
theorem dX10_cycles_12 : decode cX10_cycles 12 = .ok (.invokevirtual 149, 3) := by decide +kernel
theorem dX10_cycles_15 : decode cX10_cycles 15 = .ok (.ifCond .eq 13, 3) := by decide +kernel
theorem dX10_cycles_28 : decode cX10_cycles 28 = .ok (.iconst (-1), 1) := by decide +kernel
theorem dX10_cycles_29 : decode cX10_cycles 29 = .ok (.ireturn, 1) := by decide +kernel
theorem dX10_cycle_0 : decode cX10_cycle 0 = .ok (.aload_n 0, 1) := by decide +kernel
theorem dX10_cycle_1 : decode cX10_cycle 1 = .ok (.getfield 32, 3) := by decide +kernel
theorem dX10_cycle_4 : decode cX10_cycle 4 = .ok (.iload_n 1, 1) := by decide +kernel
theorem dX10_cycle_5 : decode cX10_cycle 5 = .ok (.invokevirtual 111, 3) := by decide +kernel
theorem dX10_cycle_8 : decode cX10_cycle 8 = .ok (.astore 4, 2) := by decide +kernel
theorem dX10_cycle_10 : decode cX10_cycle 10 = .ok (.aload 4, 2) := by decide +kernel
theorem dX10_cycle_12 : decode cX10_cycle 12 = .ok (.ifnull 30, 3) := by decide +kernel
theorem dX10_cycle_42 : decode cX10_cycle 42 = .ok (.iconst (-1), 1) := by decide +kernel
theorem dX10_cycle_43 : decode cX10_cycle 43 = .ok (.ireturn, 1) := by decide +kernel
theorem dX10_cycleOf_0 : decode cX10_cycleOf 0 = .ok (.aload_n 0, 1) := by decide +kernel
theorem dX10_cycleOf_1 : decode cX10_cycleOf 1 = .ok (.getfield 32, 3) := by decide +kernel
theorem dX10_cycleOf_4 : decode cX10_cycleOf 4 = .ok (.iload_n 1, 1) := by decide +kernel
theorem dX10_cycleOf_5 : decode cX10_cycleOf 5 = .ok (.invokevirtual 111, 3) := by decide +kernel
theorem dX10_cycleOf_8 : decode cX10_cycleOf 8 = .ok (.astore 5, 2) := by decide +kernel
theorem dX10_cycleOf_10 : decode cX10_cycleOf 10 = .ok (.aload 5, 2) := by decide +kernel
theorem dX10_cycleOf_12 : decode cX10_cycleOf 12 = .ok (.ifnull 15, 3) := by decide +kernel
theorem dX10_cycleOf_27 : decode cX10_cycleOf 27 = .ok (.iconst (-1), 1) := by decide +kernel
theorem dX10_cycleOf_28 : decode cX10_cycleOf 28 = .ok (.ireturn, 1) := by decide +kernel
theorem dX10_caught_0 : decode cX10_caught 0 = .ok (.aload_n 0, 1) := by decide +kernel
theorem dX10_caught_1 : decode cX10_caught 1 = .ok (.getfield 32, 3) := by decide +kernel
theorem dX10_caught_4 : decode cX10_caught 4 = .ok (.iload_n 1, 1) := by decide +kernel
theorem dX10_caught_5 : decode cX10_caught 5 = .ok (.invokevirtual 111, 3) := by decide +kernel
theorem dX10_caught_8 : decode cX10_caught 8 = .ok (.astore 6, 2) := by decide +kernel
theorem dX10_caught_10 : decode cX10_caught 10 = .ok (.aload 6, 2) := by decide +kernel
theorem dX10_caught_12 : decode cX10_caught 12 = .ok (.ifnull 26, 3) := by decide +kernel
theorem dX10_caught_38 : decode cX10_caught 38 = .ok (.iconst (-1), 1) := by decide +kernel
theorem dX10_caught_39 : decode cX10_caught 39 = .ok (.ireturn, 1) := by decide +kernel
theorem dX10_state_0 : decode cX10_state 0 = .ok (.aload_n 0, 1) := by decide +kernel
theorem dX10_state_1 : decode cX10_state 1 = .ok (.getfield 32, 3) := by decide +kernel
theorem dX10_state_4 : decode cX10_state 4 = .ok (.iload_n 1, 1) := by decide +kernel
theorem dX10_state_5 : decode cX10_state 5 = .ok (.invokevirtual 111, 3) := by decide +kernel
theorem dX10_state_8 : decode cX10_state 8 = .ok (.astore_n 3, 1) := by decide +kernel
theorem dX10_state_9 : decode cX10_state 9 = .ok (.aload_n 0, 1) := by decide +kernel
theorem dX10_state_10 : decode cX10_state 10 = .ok (.aload_n 3, 1) := by decide +kernel
theorem dX10_state_11 : decode cX10_state 11 = .ok (.invokevirtual 184, 3) := by decide +kernel
theorem dX10_state_14 : decode cX10_state 14 = .ok (.ifCond .eq 15, 3) := by decide +kernel
theorem dX10_state_29 : decode cX10_state 29 = .ok (.iconst (-1), 1) := by decide +kernel
theorem dX10_state_30 : decode cX10_state 30 = .ok (.ireturn, 1) := by decide +kernel
theorem dX10_clear_0 : decode cX10_clear 0 = .ok (.aload_n 0, 1) := by decide +kernel
theorem dX10_clear_1 : decode cX10_clear 1 = .ok (.getfield 67, 3) := by decide +kernel
theorem dX10_clear_4 : decode cX10_clear 4 = .ok (.getfield 200, 3) := by decide +kernel
theorem dX10_clear_7 : decode cX10_clear 7 = .ok (.istore_n 1, 1) := by decide +kernel
theorem dX10_clear_8 : decode cX10_clear 8 = .ok (.aload_n 0, 1) := by decide +kernel
theorem dX10_clear_9 : decode cX10_clear 9 = .ok (.getfield 67, 3) := by decide +kernel
theorem dX10_clear_12 : decode cX10_clear 12 = .ok (.iconst 0, 1) := by decide +kernel
theorem dX10_clear_13 : decode cX10_clear 13 = .ok (.putfield 200, 3) := by decide +kernel
theorem dX10_clear_16 : decode cX10_clear 16 = .ok (.iload_n 1, 1) := by decide +kernel
theorem dX10_clear_17 : decode cX10_clear 17 = .ok (.ireturn, 1) := by decide +kernel
theorem dX10_add_0 : decode cX10_add 0 = .ok (.aload_n 0, 1) := by decide +kernel
theorem dX10_add_1 : decode cX10_add 1 = .ok (.getfield 32, 3) := by decide +kernel
theorem dX10_add_4 : decode cX10_add 4 = .ok (.iload_n 1, 1) := by decide +kernel
theorem dX10_add_5 : decode cX10_add 5 = .ok (.invokevirtual 111, 3) := by decide +kernel
theorem dX10_add_8 : decode cX10_add 8 = .ok (.astore_n 3, 1) := by decide +kernel
theorem dX10_add_9 : decode cX10_add 9 = .ok (.aload_n 0, 1) := by decide +kernel
theorem dX10_add_10 : decode cX10_add 10 = .ok (.aload_n 3, 1) := by decide +kernel
theorem dX10_add_11 : decode cX10_add 11 = .ok (.invokevirtual 184, 3) := by decide +kernel
theorem dX10_add_14 : decode cX10_add 14 = .ok (.ifCond .eq 14, 3) := by decide +kernel
theorem dX10_add_28 : decode cX10_add 28 = .ok (.iconst (-1), 1) := by decide +kernel
theorem dX10_add_29 : decode cX10_add 29 = .ok (.ireturn, 1) := by decide +kernel
theorem dX10_score_0 : decode cX10_score 0 = .ok (.iload_n 1, 1) := by decide +kernel
theorem dX10_score_1 : decode cX10_score 1 = .ok (.ifCond .lt 14, 3) := by decide +kernel
theorem dX10_score_4 : decode cX10_score 4 = .ok (.iload_n 1, 1) := by decide +kernel
theorem dX10_score_5 : decode cX10_score 5 = .ok (.aload_n 0, 1) := by decide +kernel
theorem dX10_score_6 : decode cX10_score 6 = .ok (.getfield 67, 3) := by decide +kernel
theorem dX10_score_9 : decode cX10_score 9 = .ok (.getfield 200, 3) := by decide +kernel
theorem dX10_score_12 : decode cX10_score 12 = .ok (.if_icmp .lt 5, 3) := by decide +kernel
theorem dX10_score_15 : decode cX10_score 15 = .ok (.iconst (-1), 1) := by decide +kernel
theorem dX10_score_16 : decode cX10_score 16 = .ok (.ireturn, 1) := by decide +kernel
theorem dX10_seen_0 : decode cX10_seen 0 = .ok (.aload_n 0, 1) := by decide +kernel
theorem dX10_seen_1 : decode cX10_seen 1 = .ok (.getfield 32, 3) := by decide +kernel
theorem dX10_seen_4 : decode cX10_seen 4 = .ok (.invokevirtual 217, 3) := by decide +kernel
theorem dX10_seen_7 : decode cX10_seen 7 = .ok (.astore_n 2, 1) := by decide +kernel
theorem dX10_seen_8 : decode cX10_seen 8 = .ok (.aload_n 2, 1) := by decide +kernel
theorem dX10_seen_9 : decode cX10_seen 9 = .ok (.ifnonnull 7, 3) := by decide +kernel
theorem dX10_seen_12 : decode cX10_seen 12 = .ok (.iconst 0, 1) := by decide +kernel
theorem dX10_seen_13 : decode cX10_seen 13 = .ok (.goto 7, 3) := by decide +kernel
theorem dX10_seen_20 : decode cX10_seen 20 = .ok (.istore_n 3, 1) := by decide +kernel
theorem dX10_seen_21 : decode cX10_seen 21 = .ok (.iload_n 1, 1) := by decide +kernel
theorem dX10_seen_22 : decode cX10_seen 22 = .ok (.ifCond .ne 5, 3) := by decide +kernel
theorem dX10_seen_25 : decode cX10_seen 25 = .ok (.iload_n 3, 1) := by decide +kernel
theorem dX10_seen_26 : decode cX10_seen 26 = .ok (.ireturn, 1) := by decide +kernel
theorem dX10_seen_27 : decode cX10_seen 27 = .ok (.iload_n 1, 1) := by decide +kernel
theorem dX10_seen_28 : decode cX10_seen 28 = .ok (.bipush 10, 2) := by decide +kernel
theorem dX10_seen_30 : decode cX10_seen 30 = .ok (.if_icmp .lt 11, 3) := by decide +kernel
theorem dX10_seen_33 : decode cX10_seen 33 = .ok (.iload_n 1, 1) := by decide +kernel
theorem dX10_seen_34 : decode cX10_seen 34 = .ok (.bipush 10, 2) := by decide +kernel
theorem dX10_seen_36 : decode cX10_seen 36 = .ok (.isub, 1) := by decide +kernel
theorem dX10_seen_37 : decode cX10_seen 37 = .ok (.iload_n 3, 1) := by decide +kernel
theorem dX10_seen_38 : decode cX10_seen 38 = .ok (.if_icmp .lt 7, 3) := by decide +kernel
theorem dX10_seen_41 : decode cX10_seen 41 = .ok (.iconst (-1), 1) := by decide +kernel
theorem dX10_seen_42 : decode cX10_seen 42 = .ok (.goto 12, 3) := by decide +kernel
theorem dX10_seen_54 : decode cX10_seen 54 = .ok (.ireturn, 1) := by decide +kernel
theorem dX10_whole_0 : decode cX10_whole 0 = .ok (.aload_n 0, 1) := by decide +kernel
theorem dX10_whole_1 : decode cX10_whole 1 = .ok (.getfield 32, 3) := by decide +kernel
theorem dX10_whole_4 : decode cX10_whole 4 = .ok (.invokevirtual 217, 3) := by decide +kernel
theorem dX10_whole_7 : decode cX10_whole 7 = .ok (.astore_n 3, 1) := by decide +kernel
theorem dX10_whole_8 : decode cX10_whole 8 = .ok (.aload_n 3, 1) := by decide +kernel
theorem dX10_whole_9 : decode cX10_whole 9 = .ok (.ifnull 13, 3) := by decide +kernel
theorem dX10_whole_22 : decode cX10_whole 22 = .ok (.iconst (-1), 1) := by decide +kernel
theorem dX10_whole_23 : decode cX10_whole 23 = .ok (.ireturn, 1) := by decide +kernel
theorem dX10_drop_0 : decode cX10_drop 0 = .ok (.aload_n 0, 1) := by decide +kernel
theorem dX10_drop_1 : decode cX10_drop 1 = .ok (.getfield 32, 3) := by decide +kernel
theorem dX10_drop_4 : decode cX10_drop 4 = .ok (.iload_n 1, 1) := by decide +kernel
theorem dX10_drop_5 : decode cX10_drop 5 = .ok (.invokevirtual 111, 3) := by decide +kernel
theorem dX10_drop_8 : decode cX10_drop 8 = .ok (.astore 4, 2) := by decide +kernel
theorem dX10_drop_10 : decode cX10_drop 10 = .ok (.iload_n 3, 1) := by decide +kernel
theorem dX10_drop_11 : decode cX10_drop 11 = .ok (.ifCond .lt 36, 3) := by decide +kernel
theorem dX10_drop_14 : decode cX10_drop 14 = .ok (.iload_n 3, 1) := by decide +kernel
theorem dX10_drop_15 : decode cX10_drop 15 = .ok (.bipush 8, 2) := by decide +kernel
theorem dX10_drop_17 : decode cX10_drop 17 = .ok (.if_icmp .ge 30, 3) := by decide +kernel
theorem dX10_drop_20 : decode cX10_drop 20 = .ok (.aload_n 0, 1) := by decide +kernel
theorem dX10_drop_21 : decode cX10_drop 21 = .ok (.getfield 32, 3) := by decide +kernel
theorem dX10_drop_24 : decode cX10_drop 24 = .ok (.invokevirtual 89, 3) := by decide +kernel
theorem dX10_drop_27 : decode cX10_drop 27 = .ok (.ifCond .ne 20, 3) := by decide +kernel
theorem dX10_drop_30 : decode cX10_drop 30 = .ok (.aload 4, 2) := by decide +kernel
theorem dX10_drop_32 : decode cX10_drop 32 = .ok (.ifnull 15, 3) := by decide +kernel
theorem dX10_drop_47 : decode cX10_drop 47 = .ok (.iconst (-1), 1) := by decide +kernel
theorem dX10_drop_48 : decode cX10_drop 48 = .ok (.ireturn, 1) := by decide +kernel
theorem dX10_turned_0 : decode cX10_turned 0 = .ok (.aload_n 0, 1) := by decide +kernel
theorem dX10_turned_1 : decode cX10_turned 1 = .ok (.getfield 32, 3) := by decide +kernel
theorem dX10_turned_4 : decode cX10_turned 4 = .ok (.iload_n 1, 1) := by decide +kernel
theorem dX10_turned_5 : decode cX10_turned 5 = .ok (.invokevirtual 111, 3) := by decide +kernel
theorem dX10_turned_8 : decode cX10_turned 8 = .ok (.astore_n 3, 1) := by decide +kernel
theorem dX10_turned_9 : decode cX10_turned 9 = .ok (.aload_n 0, 1) := by decide +kernel
theorem dX10_turned_10 : decode cX10_turned 10 = .ok (.getfield 32, 3) := by decide +kernel
theorem dX10_turned_13 : decode cX10_turned 13 = .ok (.iload_n 2, 1) := by decide +kernel
theorem dX10_turned_14 : decode cX10_turned 14 = .ok (.invokevirtual 111, 3) := by decide +kernel
theorem dX10_turned_17 : decode cX10_turned 17 = .ok (.astore 4, 2) := by decide +kernel
theorem dX10_turned_19 : decode cX10_turned 19 = .ok (.aload_n 3, 1) := by decide +kernel
theorem dX10_turned_20 : decode cX10_turned 20 = .ok (.ifnull 20, 3) := by decide +kernel
theorem dX10_turned_40 : decode cX10_turned 40 = .ok (.iconst (-1), 1) := by decide +kernel
theorem dX10_turned_41 : decode cX10_turned 41 = .ok (.ireturn, 1) := by decide +kernel
theorem dX10_about_0 : decode cX10_about 0 = .ok (.iload_n 1, 1) := by decide +kernel
theorem dX10_about_1 : decode cX10_about 1 = .ok (.tableswitch 84 0 5 #[39, 44, 52, 60, 68, 76], 39) := by decide +kernel
theorem dX10_about_40 : decode cX10_about 40 = .ok (.aload_n 0, 1) := by decide +kernel
theorem dX10_about_41 : decode cX10_about 41 = .ok (.getfield 18, 3) := by decide +kernel
theorem dX10_about_44 : decode cX10_about 44 = .ok (.ireturn, 1) := by decide +kernel
theorem dX10_about_45 : decode cX10_about 45 = .ok (.aload_n 0, 1) := by decide +kernel
theorem dX10_about_46 : decode cX10_about 46 = .ok (.getfield 32, 3) := by decide +kernel
theorem dX10_about_49 : decode cX10_about 49 = .ok (.getfield 99, 3) := by decide +kernel
theorem dX10_about_52 : decode cX10_about 52 = .ok (.ireturn, 1) := by decide +kernel
theorem dX10_about_53 : decode cX10_about 53 = .ok (.aload_n 0, 1) := by decide +kernel
theorem dX10_about_54 : decode cX10_about 54 = .ok (.getfield 32, 3) := by decide +kernel
theorem dX10_about_57 : decode cX10_about 57 = .ok (.getfield 108, 3) := by decide +kernel
theorem dX10_about_60 : decode cX10_about 60 = .ok (.ireturn, 1) := by decide +kernel
theorem dX10_about_61 : decode cX10_about 61 = .ok (.aload_n 0, 1) := by decide +kernel
theorem dX10_about_62 : decode cX10_about 62 = .ok (.getfield 25, 3) := by decide +kernel
theorem dX10_about_65 : decode cX10_about 65 = .ok (.getfield 86, 3) := by decide +kernel
theorem dX10_about_68 : decode cX10_about 68 = .ok (.ireturn, 1) := by decide +kernel
theorem dX10_about_69 : decode cX10_about 69 = .ok (.aload_n 0, 1) := by decide +kernel
theorem dX10_about_70 : decode cX10_about 70 = .ok (.getfield 67, 3) := by decide +kernel
theorem dX10_about_73 : decode cX10_about 73 = .ok (.getfield 200, 3) := by decide +kernel
theorem dX10_about_76 : decode cX10_about 76 = .ok (.ireturn, 1) := by decide +kernel
theorem dX10_about_77 : decode cX10_about 77 = .ok (.aload_n 0, 1) := by decide +kernel
theorem dX10_about_78 : decode cX10_about 78 = .ok (.getfield 32, 3) := by decide +kernel
theorem dX10_about_81 : decode cX10_about 81 = .ok (.invokevirtual 245, 3) := by decide +kernel
theorem dX10_about_84 : decode cX10_about 84 = .ok (.ireturn, 1) := by decide +kernel
theorem dX10_about_85 : decode cX10_about 85 = .ok (.iconst (-1), 1) := by decide +kernel
theorem dX10_about_86 : decode cX10_about 86 = .ok (.ireturn, 1) := by decide +kernel
theorem dX10_isPlainAndGood_0 : decode cX10_isPlainAndGood 0 = .ok (.aload_n 1, 1) := by decide +kernel
theorem dX10_isPlainAndGood_1 : decode cX10_isPlainAndGood 1 = .ok (.ifnull 26, 3) := by decide +kernel
theorem dX10_isPlainAndGood_27 : decode cX10_isPlainAndGood 27 = .ok (.iconst 0, 1) := by decide +kernel
theorem dX10_isPlainAndGood_28 : decode cX10_isPlainAndGood 28 = .ok (.ireturn, 1) := by decide +kernel
set_option maxRecDepth 20000 in
theorem ggX0_rowSeen_X0_rowAt : GoodIn wsX0_rowSeen wsX0_rowAt := goodIn_r _ [6, 7, 8, 9, 10, 11] (by decide +kernel) (by decide +kernel)
set_option maxRecDepth 20000 in
theorem gX0_rowSeen_X0_rowAt : GoodIn wsX0_rowSeen (wsV RX0 34 RX0 yX0_rowAt wsX0_rowAt) := goodIn_app (goodIn_of _ (by decide +kernel)) ggX0_rowSeen_X0_rowAt
set_option maxRecDepth 20000 in
theorem ggX0_lettersSeen_X0_rowSeen : GoodIn wsX0_lettersSeen wsX0_rowSeen := goodIn_r _ [5, 6, 7, 8, 9, 4, 10, 11, 12, 13, 14, 15] (by decide +kernel) (by decide +kernel)
set_option maxRecDepth 20000 in
theorem gX0_lettersSeen_X0_rowSeen : GoodIn wsX0_lettersSeen (wsV RX0 38 RX0 yX0_rowSeen wsX0_rowSeen) := goodIn_app (goodIn_of _ (by decide +kernel)) ggX0_lettersSeen_X0_rowSeen
set_option maxRecDepth 20000 in
theorem ggX10_feed_X7_hasRoom : GoodIn wsX10_feed wsX7_hasRoom := goodIn_r _ [6, 7, 8, 21, 22] (by decide +kernel) (by decide +kernel)
set_option maxRecDepth 20000 in
theorem gX10_feed_X7_hasRoom : GoodIn wsX10_feed (wsV RX10 78 RX7 yX7_hasRoom wsX7_hasRoom) := goodIn_app (goodIn_of _ (by decide +kernel)) ggX10_feed_X7_hasRoom
set_option maxRecDepth 20000 in
theorem ggX10_feed_X7_take : GoodIn wsX10_feed wsX7_take := goodIn_r _ [12, 7, 8, 21, 22] (by decide +kernel) (by decide +kernel)
set_option maxRecDepth 20000 in
theorem gX10_feed_X7_take : GoodIn wsX10_feed (wsV RX10 82 RX7 yX7_take wsX7_take) := goodIn_app (goodIn_of _ (by decide +kernel)) ggX10_feed_X7_take
set_option maxRecDepth 20000 in
theorem ggX10_beats_X0_rowSeen : GoodIn wsX10_beats wsX0_rowSeen := goodIn_r _ [6, 7, 8, 9, 10, 5, 11, 12, 25, 26, 27, 28] (by decide +kernel) (by decide +kernel)
set_option maxRecDepth 20000 in
theorem gX10_beats_X0_rowSeen : GoodIn wsX10_beats (wsV RX10 111 RX0 yX0_rowSeen wsX0_rowSeen) := goodIn_app (goodIn_of _ (by decide +kernel)) ggX10_beats_X0_rowSeen
set_option maxRecDepth 20000 in
theorem ggX10_thrown_X0_rowSeen : GoodIn wsX10_thrown wsX0_rowSeen := goodIn_r _ [6, 7, 8, 9, 10, 5, 11, 12, 42, 43, 44, 45] (by decide +kernel) (by decide +kernel)
set_option maxRecDepth 20000 in
theorem gX10_thrown_X0_rowSeen : GoodIn wsX10_thrown (wsV RX10 111 RX0 yX0_rowSeen wsX0_rowSeen) := goodIn_app (goodIn_of _ (by decide +kernel)) ggX10_thrown_X0_rowSeen
set_option maxRecDepth 20000 in
theorem ggX10_good_X0_rowSeen : GoodIn wsX10_good wsX0_rowSeen := goodIn_r _ [7, 8, 9, 10, 11, 6, 12, 13, 91, 92, 93, 94] (by decide +kernel) (by decide +kernel)
set_option maxRecDepth 20000 in
theorem gX10_good_X0_rowSeen : GoodIn wsX10_good (wsV RX10 111 RX0 yX0_rowSeen wsX0_rowSeen) := goodIn_app (goodIn_of _ (by decide +kernel)) ggX10_good_X0_rowSeen
set_option maxRecDepth 20000 in
theorem ggX10_cycles_X0_rowSeen : GoodIn wsX10_cycles wsX0_rowSeen := goodIn_r _ [7, 8, 9, 10, 11, 6, 12, 13, 105, 106, 107, 108] (by decide +kernel) (by decide +kernel)
set_option maxRecDepth 20000 in
theorem gX10_cycles_X0_rowSeen : GoodIn wsX10_cycles (wsV RX10 111 RX0 yX0_rowSeen wsX0_rowSeen) := goodIn_app (goodIn_of _ (by decide +kernel)) ggX10_cycles_X0_rowSeen
set_option maxRecDepth 20000 in
theorem ggX10_cycles_X1_lead : GoodIn wsX10_cycles wsX1_lead := goodIn_r _ [18, 19, 20, 21, 22, 23, 24, 25, 17, 26, 27, 28, 29, 30, 31, 32, 33, 34, 35, 36, 37, 38, 39, 40, 41, 42, 43, 44, 45, 46, 47, 48, 49, 50, 51, 52, 53, 54, 55, 56, 57, 58, 59, 60, 61, 62, 63, 64, 65, 66, 67, 68, 69, 70, 71, 72, 73, 74, 75, 76, 77, 78, 79, 80, 81, 82, 83, 84, 85, 86, 87, 88, 97, 98, 99, 100, 101, 102, 103, 104, 109, 110, 111, 112] (by decide +kernel) (by decide +kernel)
set_option maxRecDepth 20000 in
theorem gX10_cycles_X1_lead : GoodIn wsX10_cycles (wsV RX10 149 RX1 yX1_lead wsX1_lead) := goodIn_app (goodIn_of _ (by decide +kernel)) ggX10_cycles_X1_lead
set_option maxRecDepth 20000 in
theorem ggX10_cycle_X0_rowSeen : GoodIn wsX10_cycle wsX0_rowSeen := goodIn_r _ [7, 8, 9, 10, 11, 6, 12, 13, 118, 119, 120, 121] (by decide +kernel) (by decide +kernel)
set_option maxRecDepth 20000 in
theorem gX10_cycle_X0_rowSeen : GoodIn wsX10_cycle (wsV RX10 111 RX0 yX0_rowSeen wsX0_rowSeen) := goodIn_app (goodIn_of _ (by decide +kernel)) ggX10_cycle_X0_rowSeen
set_option maxRecDepth 20000 in
theorem ggX10_cycleOf_X0_rowSeen : GoodIn wsX10_cycleOf wsX0_rowSeen := goodIn_r _ [7, 8, 9, 10, 11, 6, 12, 13, 109, 110, 111, 112] (by decide +kernel) (by decide +kernel)
set_option maxRecDepth 20000 in
theorem gX10_cycleOf_X0_rowSeen : GoodIn wsX10_cycleOf (wsV RX10 111 RX0 yX0_rowSeen wsX0_rowSeen) := goodIn_app (goodIn_of _ (by decide +kernel)) ggX10_cycleOf_X0_rowSeen
set_option maxRecDepth 20000 in
theorem ggX10_caught_X0_rowSeen : GoodIn wsX10_caught wsX0_rowSeen := goodIn_r _ [7, 8, 9, 10, 11, 6, 12, 13, 129, 130, 131, 132] (by decide +kernel) (by decide +kernel)
set_option maxRecDepth 20000 in
theorem gX10_caught_X0_rowSeen : GoodIn wsX10_caught (wsV RX10 111 RX0 yX0_rowSeen wsX0_rowSeen) := goodIn_app (goodIn_of _ (by decide +kernel)) ggX10_caught_X0_rowSeen
set_option maxRecDepth 20000 in
theorem ggX10_state_X0_rowSeen : GoodIn wsX10_state wsX0_rowSeen := goodIn_r _ [6, 7, 8, 9, 10, 5, 11, 12, 96, 97, 98, 99] (by decide +kernel) (by decide +kernel)
set_option maxRecDepth 20000 in
theorem gX10_state_X0_rowSeen : GoodIn wsX10_state (wsV RX10 111 RX0 yX0_rowSeen wsX0_rowSeen) := goodIn_app (goodIn_of _ (by decide +kernel)) ggX10_state_X0_rowSeen
set_option maxRecDepth 20000 in
theorem ggX10_state_X10_isPlainAndGood : GoodIn wsX10_state wsX10_isPlainAndGood := goodIn_r _ [17, 18, 19, 20, 21, 22, 23, 24, 25, 26, 27, 28, 29, 30, 31, 32, 33, 34, 35, 36, 37, 38, 39, 40, 41, 42, 43, 44, 45, 46, 47, 48, 49, 50, 51, 52, 53, 54, 55, 56, 57, 58, 59, 60, 61, 62, 63, 64, 65, 66, 67, 68, 69, 70, 71, 72, 73, 84, 85, 86, 87, 88, 89, 90, 91, 92, 93, 94, 95, 100, 101, 102, 103, 104, 105, 106, 107] (by decide +kernel) (by decide +kernel)
set_option maxRecDepth 20000 in
theorem gX10_state_X10_isPlainAndGood : GoodIn wsX10_state (wsV RX10 184 RX10 yX10_isPlainAndGood wsX10_isPlainAndGood) := goodIn_app (goodIn_of _ (by decide +kernel)) ggX10_state_X10_isPlainAndGood
set_option maxRecDepth 20000 in
theorem ggX10_add_X0_rowSeen : GoodIn wsX10_add wsX0_rowSeen := goodIn_r _ [8, 9, 10, 11, 12, 7, 13, 14, 152, 153, 154, 155] (by decide +kernel) (by decide +kernel)
set_option maxRecDepth 20000 in
theorem gX10_add_X0_rowSeen : GoodIn wsX10_add (wsV RX10 111 RX0 yX0_rowSeen wsX0_rowSeen) := goodIn_app (goodIn_of _ (by decide +kernel)) ggX10_add_X0_rowSeen
set_option maxRecDepth 20000 in
theorem ggX10_add_X10_isPlainAndGood : GoodIn wsX10_add wsX10_isPlainAndGood := goodIn_r _ [19, 20, 21, 22, 23, 24, 25, 26, 27, 28, 29, 30, 31, 32, 33, 34, 35, 36, 37, 38, 39, 40, 41, 42, 43, 44, 45, 46, 47, 48, 49, 50, 51, 52, 53, 54, 55, 56, 57, 58, 59, 60, 61, 62, 63, 64, 65, 66, 67, 68, 69, 70, 71, 72, 73, 74, 75, 132, 133, 134, 135, 136, 137, 138, 139, 144, 145, 146, 147, 156, 157, 158, 159, 160, 161, 162, 163] (by decide +kernel) (by decide +kernel)
set_option maxRecDepth 20000 in
theorem gX10_add_X10_isPlainAndGood : GoodIn wsX10_add (wsV RX10 184 RX10 yX10_isPlainAndGood wsX10_isPlainAndGood) := goodIn_app (goodIn_of _ (by decide +kernel)) ggX10_add_X10_isPlainAndGood
set_option maxRecDepth 20000 in
theorem ggX10_seen_X0_marksSeen : GoodIn wsX10_seen wsX0_marksSeen := goodIn_r _ [6, 7, 8, 19, 20, 21, 22] (by decide +kernel) (by decide +kernel)
set_option maxRecDepth 20000 in
theorem gX10_seen_X0_marksSeen : GoodIn wsX10_seen (wsV RX10 217 RX0 yX0_marksSeen wsX0_marksSeen) := goodIn_app (goodIn_of _ (by decide +kernel)) ggX10_seen_X0_marksSeen
set_option maxRecDepth 20000 in
theorem ggX10_whole_X0_marksSeen : GoodIn wsX10_whole wsX0_marksSeen := goodIn_r _ [7, 8, 9, 62, 63, 64, 65] (by decide +kernel) (by decide +kernel)
set_option maxRecDepth 20000 in
theorem gX10_whole_X0_marksSeen : GoodIn wsX10_whole (wsV RX10 217 RX0 yX0_marksSeen wsX0_marksSeen) := goodIn_app (goodIn_of _ (by decide +kernel)) ggX10_whole_X0_marksSeen
set_option maxRecDepth 20000 in
theorem ggX10_drop_X0_rowSeen : GoodIn wsX10_drop wsX0_rowSeen := goodIn_r _ [7, 8, 9, 10, 11, 6, 12, 13, 152, 153, 154, 155] (by decide +kernel) (by decide +kernel)
set_option maxRecDepth 20000 in
theorem gX10_drop_X0_rowSeen : GoodIn wsX10_drop (wsV RX10 111 RX0 yX0_rowSeen wsX0_rowSeen) := goodIn_app (goodIn_of _ (by decide +kernel)) ggX10_drop_X0_rowSeen
set_option maxRecDepth 20000 in
theorem ggX10_drop_X0_isFull : GoodIn wsX10_drop wsX0_isFull := goodIn_r _ [17, 18, 152, 153, 154, 155] (by decide +kernel) (by decide +kernel)
set_option maxRecDepth 20000 in
theorem gX10_drop_X0_isFull : GoodIn wsX10_drop (wsV RX10 89 RX0 yX0_isFull wsX0_isFull) := goodIn_app (goodIn_of _ (by decide +kernel)) ggX10_drop_X0_isFull
set_option maxRecDepth 20000 in
theorem ggX10_turned_X0_rowSeen : GoodIn wsX10_turned wsX0_rowSeen := goodIn_r _ [6, 7, 8, 9, 10, 5, 11, 12, 53, 54, 55, 56] (by decide +kernel) (by decide +kernel)
set_option maxRecDepth 20000 in
theorem gX10_turned_X0_rowSeen : GoodIn wsX10_turned (wsV RX10 111 RX0 yX0_rowSeen wsX0_rowSeen) := goodIn_app (goodIn_of _ (by decide +kernel)) ggX10_turned_X0_rowSeen
set_option maxRecDepth 20000 in
theorem ggX10_about_X0_lettersSeen : GoodIn wsX10_about wsX0_lettersSeen := goodIn_r _ [9, 10, 11, 12, 8, 13, 14, 15, 16, 17, 18, 19, 28, 29, 30, 31] (by decide +kernel) (by decide +kernel)
set_option maxRecDepth 20000 in
theorem gX10_about_X0_lettersSeen : GoodIn wsX10_about (wsV RX10 245 RX0 yX0_lettersSeen wsX0_lettersSeen) := goodIn_app (goodIn_of _ (by decide +kernel)) ggX10_about_X0_lettersSeen
theorem jx_lt10 {x : Int32} (h : x - 10 < 0) : x < 10 := by
  by_cases q0 : x < 10
  · exact q0
  · exfalso
    have q := Int32.not_lt.mp q0
    have h0 : ¬ x < 0 := fun z => absurd (Int32.lt_of_lt_of_le z (by decide : (0 : Int32) ≤ 10)) (Int32.not_lt.mpr q)
    obtain ⟨j, hj, e⟩ := nI_of h0
    subst e
    have : 10 ≤ j := Nat.le_of_not_lt fun z => absurd q (nI_ge (b := 10) z (by decide))
    rw [show nI j - 10 = nI (j - 10) from pk_sub (b := 10) this] at h
    exact nI_pos (by omega) h
set_option maxRecDepth 100000 in
set_option maxHeartbeats 4000000 in
theorem c_rowAt (l : Launch) (D : va_G) (cI cR cM : ClassId) (sz : Nat) (lt : Int32) (bk br bm : Nat) : Met l yX0_rowAt wsX0_rowAt ({ frames := 0, cells := 0, slots := 0, locals := 0 }) (P0 D cI cR cM [.ref bk, .int 0, .int lt] sz [(bk, .inr (0, [.ref br, .ref bm, .int 0, .int 0])), (br, .inl (cR, 488, .inr (.inr (.inr (.inr (fun _ => none))))))]) (QE (some .null) sz) 0 0 (va_A [] sz) := by
  refine go (cc := cX0_rowAt) (maxL := 3) (ret := (some (.object "JugglingHall$Row"))) (by decide) rfl (Nat.le_of_ble_eq_true rfl) ?_
  intro p e s m below meth c ls args Q hQ hsz hx hb hr hml hts hown hlocks hnm hP hK hD hl
  subst hsz
  have hS : va_S (va_A [] s.heap.size) s.heap s.heap [] := va_S.rf
  have hA : ∀ q, s.heap.size ≤ q → va_A [] s.heap.size q := fun q h => Or.inr h
  have hl : lv_has ls 3 [(0, .ref bk), (1, .int 0), (2, .int lt)] := hl
  refine lv_iload_n hx hb dX0_rowAt_0 rfl (lv_at hl 2 rfl) ?_
  refine lv_if_lt (tgt := 10) hx hb dX0_rowAt_1 (by decide) (fun c1 => ?_) (fun c1 => ?_)
  · refine lv_null hx hb dX0_rowAt_10 ?_
    refine lv_goto (tgt := 25) hx hb dX0_rowAt_11 (by decide) ?_
    exact ro_nret hx hb hr (Or.inl ⟨_, rfl⟩) hlocks hS hQ dX0_rowAt_25
  · refine lv_iload_n hx hb dX0_rowAt_4 rfl (lv_at hl 2 rfl) ?_
    refine lv_bipush (v := 8) hx hb dX0_rowAt_5 (by decide) ?_
    refine lv_icmp_lt (tgt := 14) hx hb dX0_rowAt_7 (by decide) (fun c7 => ?_) (fun c7 => ?_)
    · obtain ⟨j9, hj9, rfl, -⟩ := pk_mu (L := 8) c1 (fun q => absurd c7 (Int32.not_lt.mpr q)) (by decide)
      refine lv_aload_n hx hb dX0_rowAt_14 rfl (lv_at hl 0 rfl) ?_
      refine va_get (D := D) (ci := 0) (v := .ref br) (C := RX0) (T := TX0) (N := 4) hx hb hts (by decide +kernel) hown hK.1 hP 0 rfl rfl 0 (by decide) (hts (.fieldLink RX0 11 "JugglingHall$Book" "rows" "[LJugglingHall$Row;") (by decide +kernel)) (fun _ h9 => h9) rfl dX0_rowAt_15 ?_
      refine lv_iload_n hx hb dX0_rowAt_18 rfl (lv_at hl 1 rfl) ?_
      refine lv_bipush (v := 8) hx hb dX0_rowAt_19 (by decide) ?_
      refine lv_imul hx hb dX0_rowAt_21 ?_
      refine lv_eqi (y := nI 0) (rfl) ?_
      refine lv_iload_n hx hb dX0_rowAt_22 rfl (lv_at hl 2 rfl) ?_
      refine lv_iadd hx hb dX0_rowAt_23 ?_
      refine lv_eqi (y := nI j9) (by rw [nI_add, Nat.zero_add]) ?_
      refine aald_n (k := j9) (v := .null) hx hb hK.1 hP 1 1 rfl rfl (by omega) (by decide) (rfl) dX0_rowAt_24 ?_
      exact ro_nret hx hb hr (Or.inl ⟨_, rfl⟩) hlocks hS hQ dX0_rowAt_25
    · refine lv_null hx hb dX0_rowAt_10 ?_
      refine lv_goto (tgt := 25) hx hb dX0_rowAt_11 (by decide) ?_
      exact ro_nret hx hb hr (Or.inl ⟨_, rfl⟩) hlocks hS hQ dX0_rowAt_25
set_option maxRecDepth 100000 in
set_option maxHeartbeats 4000000 in
theorem c_rowSeen (l : Launch) (D : va_G) (cI cR cM : ClassId) (sz : Nat) (lt : Int32) (bk br bm : Nat) : Met l yX0_rowSeen wsX0_rowSeen ({ frames := 1, cells := 0, slots := 0, locals := 22 }) (P0 D cI cR cM [.ref bk, .int lt] sz [(bk, .inr (0, [.ref br, .ref bm, .int 0, .int 0])), (br, .inl (cR, 488, .inr (.inr (.inr (.inr (fun _ => none))))))]) (QE (some .null) sz) 0 0 (va_A [] sz) := by
  refine go (cc := cX0_rowSeen) (maxL := 2) (ret := (some (.object "JugglingHall$Row"))) (by decide) rfl (Nat.le_of_ble_eq_true rfl) ?_
  intro p e s m below meth c ls args Q hQ hsz hx hb hr hml hts hown hlocks hnm hP hK hD hl
  subst hsz
  have hS : va_S (va_A [] s.heap.size) s.heap s.heap [] := va_S.rf
  have hA : ∀ q, s.heap.size ≤ q → va_A [] s.heap.size q := fun q h => Or.inr h
  have hl : lv_has ls 2 [(0, .ref bk), (1, .int lt)] := hl
  refine lv_aload_n hx hb dX0_rowSeen_0 rfl (lv_at hl 0 rfl) ?_
  refine lv_aload_n hx hb dX0_rowSeen_1 rfl (lv_at hl 0 rfl) ?_
  refine va_get (D := D) (ci := 0) (v := .int 0) (C := RX0) (T := TX0) (N := 4) hx hb hts (by decide +kernel) hown hK.1 hP 0 rfl rfl 3 (by decide) (hts (.fieldLink RX0 31 "JugglingHall$Book" "lookTime" "I") (by decide +kernel)) (fun _ h9 => h9) rfl dX0_rowSeen_2 ?_
  refine lv_iload_n hx hb dX0_rowSeen_5 rfl (lv_at hl 1 rfl) ?_
  have hPc := hP.sub (ws' := [(bk, .inr (0, [.ref br, .ref bm, .int 0, .int 0])), (br, .inl (cR, 488, .inr (.inr (.inr (.inr (fun _ => none))))))]) [0, 1] rfl
  have hDc := hD.sub (ws' := [(bk, .inr (0, [.ref br, .ref bm, .int 0, .int 0])), (br, .inl (cR, 488, .inr (.inr (.inr (.inr (fun _ => none))))))]) [0, 1] (by decide) rfl
  refine ro (va_runV (As := [.int 0, .int lt]) (rest := []) ⟨hx, hb, hml, hown, hts⟩ (c_rowAt l D cI cR cM _ lt bk br bm) (cwV 2 hts gX0_rowSeen_X0_rowAt rfl rfl rfl (by decide +kernel) ⟨Nat.le_of_ble_eq_true rfl, Nat.le_of_ble_eq_true rfl⟩) (pre_V hK hPc hDc 0 0 rfl rfl) rfl rfl hl.1 rfl (lv_room (Nat.le_of_ble_eq_true rfl)) dX0_rowSeen_6 ⟨Nat.le_of_ble_eq_true rfl, Nat.le_of_ble_eq_true rfl⟩) hS hA hP (fun H locs hP hS => ?_)
  exact ro_nret hx hb hr (Or.inl ⟨_, rfl⟩) hlocks hS hQ dX0_rowSeen_9
set_option maxRecDepth 100000 in
set_option maxHeartbeats 4000000 in
theorem c_marksSeen (l : Launch) (D : va_G) (cI cR cM : ClassId) (sz : Nat) (bk br bm : Nat) : Met l yX0_marksSeen wsX0_marksSeen ({ frames := 0, cells := 0, slots := 0, locals := 0 }) (P0 D cI cR cM [.ref bk] sz [(bk, .inr (0, [.ref br, .ref bm, .int 0, .int 0])), (bm, .inl (cM, 61, .inr (.inr (.inr (.inr (fun _ => none))))))]) (QE (some .null) sz) 0 0 (va_A [] sz) := by
  refine go (cc := cX0_marksSeen) (maxL := 1) (ret := (some (.object "JugglingHall$Marks"))) (by decide) rfl (Nat.le_of_ble_eq_true rfl) ?_
  intro p e s m below meth c ls args Q hQ hsz hx hb hr hml hts hown hlocks hnm hP hK hD hl
  subst hsz
  have hS : va_S (va_A [] s.heap.size) s.heap s.heap [] := va_S.rf
  have hA : ∀ q, s.heap.size ≤ q → va_A [] s.heap.size q := fun q h => Or.inr h
  have hl : lv_has ls 1 [(0, .ref bk)] := hl
  refine lv_aload_n hx hb dX0_marksSeen_0 rfl (lv_at hl 0 rfl) ?_
  refine va_get (D := D) (ci := 0) (v := .ref bm) (C := RX0) (T := TX0) (N := 4) hx hb hts (by decide +kernel) hown hK.1 hP 0 rfl rfl 1 (by decide) (hts (.fieldLink RX0 19 "JugglingHall$Book" "marks" "[LJugglingHall$Marks;") (by decide +kernel)) (fun _ h9 => h9) rfl dX0_marksSeen_1 ?_
  refine lv_aload_n hx hb dX0_marksSeen_4 rfl (lv_at hl 0 rfl) ?_
  refine va_get (D := D) (ci := 0) (v := .int 0) (C := RX0) (T := TX0) (N := 4) hx hb hts (by decide +kernel) hown hK.1 hP 0 rfl rfl 3 (by decide) (hts (.fieldLink RX0 31 "JugglingHall$Book" "lookTime" "I") (by decide +kernel)) (fun _ h9 => h9) rfl dX0_marksSeen_5 ?_
  refine lv_eqi (y := nI 0) (rfl) ?_
  refine aald_n (k := 0) (v := .null) hx hb hK.1 hP 1 2 rfl rfl (by decide) (by decide) (rfl) dX0_marksSeen_8 ?_
  exact ro_nret hx hb hr (Or.inl ⟨_, rfl⟩) hlocks hS hQ dX0_marksSeen_9
set_option maxRecDepth 100000 in
set_option maxHeartbeats 4000000 in
theorem c_isFull (l : Launch) (D : va_G) (cI cR cM : ClassId) (sz : Nat) (bk br bm : Nat) : Met l yX0_isFull wsX0_isFull ({ frames := 0, cells := 0, slots := 0, locals := 0 }) (P0 D cI cR cM [.ref bk] sz [(bk, .inr (0, [.ref br, .ref bm, .int 0, .int 0]))]) (QE (some (.int 0)) sz) 0 0 (va_A [] sz) := by
  refine go (cc := cX0_isFull) (maxL := 1) (ret := (some .boolean)) (by decide) rfl (Nat.le_of_ble_eq_true rfl) ?_
  intro p e s m below meth c ls args Q hQ hsz hx hb hr hml hts hown hlocks hnm hP hK hD hl
  subst hsz
  have hS : va_S (va_A [] s.heap.size) s.heap s.heap [] := va_S.rf
  have hA : ∀ q, s.heap.size ≤ q → va_A [] s.heap.size q := fun q h => Or.inr h
  have hl : lv_has ls 1 [(0, .ref bk)] := hl
  refine lv_aload_n hx hb dX0_isFull_0 rfl (lv_at hl 0 rfl) ?_
  refine va_get (D := D) (ci := 0) (v := .int 0) (C := RX0) (T := TX0) (N := 4) hx hb hts (by decide +kernel) hown hK.1 hP 0 rfl rfl 2 (by decide) (hts (.fieldLink RX0 23 "JugglingHall$Book" "time" "I") (by decide +kernel)) (fun _ h9 => h9) rfl dX0_isFull_1 ?_
  refine lv_bipush (v := 60) hx hb dX0_isFull_4 (by decide) ?_
  refine lv_icmp_lt (tgt := 13) hx hb dX0_isFull_6 (by decide) (fun c6 => ?_) (fun c6 => absurd (by decide) c6)
  refine lv_iconst (v := 0) hx hb dX0_isFull_13 (by decide) ?_
  exact ro_zret hx hb hr hlocks hS (by decide) (rfl) hQ dX0_isFull_14
set_option maxRecDepth 100000 in
set_option maxHeartbeats 4000000 in
theorem c_lead (l : Launch) (D : va_G) (cI cR cM : ClassId) (sz : Nat) (ct : Nat) (y0 y1 y2 y3 y4 y5 y6 y7 : Value) : Met l yX1_lead wsX1_lead ({ frames := 0, cells := 0, slots := 0, locals := 0 }) (P0 D cI cR cM [.ref ct, .null] sz [(ct, .inr (1, [y0, y1, y2, y3, y4, y5, y6, y7]))]) (QE (some (.int 0)) sz) 0 0 (va_A [] sz) := by
  refine go (cc := cX1_lead) (maxL := 3) (ret := (some .boolean)) (by decide) rfl (Nat.le_of_ble_eq_true rfl) ?_
  intro p e s m below meth c ls args Q hQ hsz hx hb hr hml hts hown hlocks hnm hP hK hD hl
  subst hsz
  have hS : va_S (va_A [] s.heap.size) s.heap s.heap [] := va_S.rf
  have hA : ∀ q, s.heap.size ≤ q → va_A [] s.heap.size q := fun q h => Or.inr h
  have hl : lv_has ls 3 [(0, .ref ct), (1, .null)] := hl
  refine lv_aload_nN hx hb dX1_lead_0 rfl (lv_at hl 1 rfl) ?_
  refine lv_ifnullN (tgt := 13) hx hb dX1_lead_1 (by decide) ?_
  refine lv_iconst (v := 0) hx hb dX1_lead_13 (by decide) ?_
  exact ro_zret hx hb hr hlocks hS (by decide) (rfl) hQ dX1_lead_14
set_option maxRecDepth 100000 in
set_option maxHeartbeats 4000000 in
theorem c_beats (l : Launch) (D : va_G) (cI cR cM : ClassId) (sz : Nat) (i0 : Int32) (hh : Nat) (x0 x1 x3 x4 x5 x6 x7 : Value) (bk br bm : Nat) : Met l yX10_beats wsX10_beats ({ frames := 2, cells := 0, slots := 0, locals := 43 }) (P0 D cI cR cM [.ref hh, .int i0] sz [(hh, .inr (10, [x0, x1, .ref bk, x3, x4, x5, x6, x7])), (bk, .inr (0, [.ref br, .ref bm, .int 0, .int 0])), (br, .inl (cR, 488, .inr (.inr (.inr (.inr (fun _ => none))))))]) (QE (some (.int (-1))) sz) 0 0 (va_A [] sz) := by
  refine go (cc := cX10_beats) (maxL := 3) (ret := (some .int)) (by decide) rfl (Nat.le_of_ble_eq_true rfl) ?_
  intro p e s m below meth c ls args Q hQ hsz hx hb hr hml hts hown hlocks hnm hP hK hD hl
  subst hsz
  have hS : va_S (va_A [] s.heap.size) s.heap s.heap [] := va_S.rf
  have hA : ∀ q, s.heap.size ≤ q → va_A [] s.heap.size q := fun q h => Or.inr h
  have hl : lv_has ls 3 [(0, .ref hh), (1, .int i0)] := hl
  refine lv_aload_n hx hb dX10_beats_0 rfl (lv_at hl 0 rfl) ?_
  refine va_get (D := D) (ci := 10) (v := .ref bk) (C := RX10) (T := TX10) (N := 8) hx hb hts (by decide +kernel) hown hK.1 hP 0 rfl rfl 2 (by decide) (hts (.fieldLink RX10 32 "JugglingHall" "book" "LJugglingHall$Book;") (by decide +kernel)) (fun _ h9 => h9) rfl dX10_beats_1 ?_
  refine lv_iload_n hx hb dX10_beats_4 rfl (lv_at hl 1 rfl) ?_
  have hPc := hP.sub (ws' := [(bk, .inr (0, [.ref br, .ref bm, .int 0, .int 0])), (br, .inl (cR, 488, .inr (.inr (.inr (.inr (fun _ => none))))))]) [1, 2] rfl
  have hDc := hD.sub (ws' := [(bk, .inr (0, [.ref br, .ref bm, .int 0, .int 0])), (br, .inl (cR, 488, .inr (.inr (.inr (.inr (fun _ => none))))))]) [1, 2] (by decide) rfl
  refine ro (va_runV (As := [.int i0]) (rest := []) ⟨hx, hb, hml, hown, hts⟩ (c_rowSeen l D cI cR cM _ i0 bk br bm) (cwV 1 hts gX10_beats_X0_rowSeen rfl rfl rfl (by decide +kernel) ⟨Nat.le_of_ble_eq_true rfl, Nat.le_of_ble_eq_true rfl⟩) (pre_V hK hPc hDc 0 0 rfl rfl) rfl rfl hl.1 rfl (lv_room (Nat.le_of_ble_eq_true rfl)) dX10_beats_5 ⟨Nat.le_of_ble_eq_true rfl, Nat.le_of_ble_eq_true rfl⟩) hS hA hP (fun H locs hP hS => ?_)
  refine lv_astore_nN (lv' := [(2, .null), (0, .ref hh), (1, .int i0)]) hx hb dX10_beats_8 rfl hl (by decide) rfl (fun ls hl => ?_)
  refine lv_aload_nN hx hb dX10_beats_9 rfl (lv_at hl 0 rfl) ?_
  refine lv_ifnonnullN hx hb dX10_beats_10 ?_
  refine lv_iconst (v := (-1)) hx hb dX10_beats_13 (by decide) ?_
  refine lv_goto (tgt := 21) hx hb dX10_beats_14 (by decide) ?_
  exact ro_iret hx hb hr hlocks hS (rfl) hQ dX10_beats_21
set_option maxRecDepth 100000 in
set_option maxHeartbeats 4000000 in
theorem c_thrown (l : Launch) (D : va_G) (cI cR cM : ClassId) (sz : Nat) (i0 i1 i2 i3 i4 : Int32) (hh : Nat) (x0 x1 x3 x4 x5 x6 x7 : Value) (bk br bm : Nat) : Met l yX10_thrown wsX10_thrown ({ frames := 2, cells := 0, slots := 0, locals := 43 }) (P0 D cI cR cM [.ref hh, .int i0, .int i1, .int i2, .int i3, .int i4] sz [(hh, .inr (10, [x0, x1, .ref bk, x3, x4, x5, x6, x7])), (bk, .inr (0, [.ref br, .ref bm, .int 0, .int 0])), (br, .inl (cR, 488, .inr (.inr (.inr (.inr (fun _ => none))))))]) (QE (some (.int (-1))) sz) 0 0 (va_A [] sz) := by
  refine go (cc := cX10_thrown) (maxL := 8) (ret := (some .int)) (by decide) rfl (Nat.le_of_ble_eq_true rfl) ?_
  intro p e s m below meth c ls args Q hQ hsz hx hb hr hml hts hown hlocks hnm hP hK hD hl
  subst hsz
  have hS : va_S (va_A [] s.heap.size) s.heap s.heap [] := va_S.rf
  have hA : ∀ q, s.heap.size ≤ q → va_A [] s.heap.size q := fun q h => Or.inr h
  have hl : lv_has ls 8 [(0, .ref hh), (1, .int i0), (2, .int i1), (3, .int i2), (4, .int i3), (5, .int i4)] := hl
  refine lv_aload_n hx hb dX10_thrown_0 rfl (lv_at hl 0 rfl) ?_
  refine va_get (D := D) (ci := 10) (v := .ref bk) (C := RX10) (T := TX10) (N := 8) hx hb hts (by decide +kernel) hown hK.1 hP 0 rfl rfl 2 (by decide) (hts (.fieldLink RX10 32 "JugglingHall" "book" "LJugglingHall$Book;") (by decide +kernel)) (fun _ h9 => h9) rfl dX10_thrown_1 ?_
  refine lv_iload_n hx hb dX10_thrown_4 rfl (lv_at hl 1 rfl) ?_
  have hPc := hP.sub (ws' := [(bk, .inr (0, [.ref br, .ref bm, .int 0, .int 0])), (br, .inl (cR, 488, .inr (.inr (.inr (.inr (fun _ => none))))))]) [1, 2] rfl
  have hDc := hD.sub (ws' := [(bk, .inr (0, [.ref br, .ref bm, .int 0, .int 0])), (br, .inl (cR, 488, .inr (.inr (.inr (.inr (fun _ => none))))))]) [1, 2] (by decide) rfl
  refine ro (va_runV (As := [.int i0]) (rest := []) ⟨hx, hb, hml, hown, hts⟩ (c_rowSeen l D cI cR cM _ i0 bk br bm) (cwV 1 hts gX10_thrown_X0_rowSeen rfl rfl rfl (by decide +kernel) ⟨Nat.le_of_ble_eq_true rfl, Nat.le_of_ble_eq_true rfl⟩) (pre_V hK hPc hDc 0 0 rfl rfl) rfl rfl hl.1 rfl (lv_room (Nat.le_of_ble_eq_true rfl)) dX10_thrown_5 ⟨Nat.le_of_ble_eq_true rfl, Nat.le_of_ble_eq_true rfl⟩) hS hA hP (fun H locs hP hS => ?_)
  refine lv_astoreN (lv' := [(6, .null), (0, .ref hh), (1, .int i0), (2, .int i1), (3, .int i2), (4, .int i3), (5, .int i4)]) hx hb dX10_thrown_8 hl (by decide) rfl (fun ls hl => ?_)
  refine lv_aloadN hx hb dX10_thrown_10 (lv_at hl 0 rfl) ?_
  refine lv_ifnonnullN hx hb dX10_thrown_12 ?_
  refine lv_iconst (v := (-1)) hx hb dX10_thrown_15 (by decide) ?_
  refine lv_goto (tgt := 28) hx hb dX10_thrown_16 (by decide) ?_
  refine lv_istore (lv' := [(7, .int (-1)), (6, .null), (0, .ref hh), (1, .int i0), (2, .int i1), (3, .int i2), (4, .int i3), (5, .int i4)]) hx hb dX10_thrown_28 hl (by decide) rfl (fun ls hl => ?_)
  refine lv_iload hx hb dX10_thrown_30 (lv_at hl 0 rfl) ?_
  refine lv_iconst (v := (-1)) hx hb dX10_thrown_32 (by decide) ?_
  refine lv_icmp_ne (tgt := 38) hx hb dX10_thrown_33 (by decide) (fun c33 => absurd (by decide) c33) (fun c33 => ?_)
  refine lv_iconst (v := (-1)) hx hb dX10_thrown_36 (by decide) ?_
  exact ro_iret hx hb hr hlocks hS (rfl) hQ dX10_thrown_37
set_option maxRecDepth 100000 in
set_option maxHeartbeats 4000000 in
theorem c_good (l : Launch) (D : va_G) (cI cR cM : ClassId) (sz : Nat) (i0 i1 : Int32) (hh : Nat) (x0 x1 x3 x4 x5 x6 x7 : Value) (bk br bm : Nat) : Met l yX10_good wsX10_good ({ frames := 2, cells := 0, slots := 0, locals := 43 }) (P0 D cI cR cM [.ref hh, .int i0, .int i1] sz [(hh, .inr (10, [x0, x1, .ref bk, x3, x4, x5, x6, x7])), (bk, .inr (0, [.ref br, .ref bm, .int 0, .int 0])), (br, .inl (cR, 488, .inr (.inr (.inr (.inr (fun _ => none))))))]) (QE (some (.int (-1))) sz) 0 0 (va_A [] sz) := by
  refine go (cc := cX10_good) (maxL := 5) (ret := (some .int)) (by decide) rfl (Nat.le_of_ble_eq_true rfl) ?_
  intro p e s m below meth c ls args Q hQ hsz hx hb hr hml hts hown hlocks hnm hP hK hD hl
  subst hsz
  have hS : va_S (va_A [] s.heap.size) s.heap s.heap [] := va_S.rf
  have hA : ∀ q, s.heap.size ≤ q → va_A [] s.heap.size q := fun q h => Or.inr h
  have hl : lv_has ls 5 [(0, .ref hh), (1, .int i0), (2, .int i1)] := hl
  refine lv_aload_n hx hb dX10_good_0 rfl (lv_at hl 0 rfl) ?_
  refine va_get (D := D) (ci := 10) (v := .ref bk) (C := RX10) (T := TX10) (N := 8) hx hb hts (by decide +kernel) hown hK.1 hP 0 rfl rfl 2 (by decide) (hts (.fieldLink RX10 32 "JugglingHall" "book" "LJugglingHall$Book;") (by decide +kernel)) (fun _ h9 => h9) rfl dX10_good_1 ?_
  refine lv_iload_n hx hb dX10_good_4 rfl (lv_at hl 1 rfl) ?_
  have hPc := hP.sub (ws' := [(bk, .inr (0, [.ref br, .ref bm, .int 0, .int 0])), (br, .inl (cR, 488, .inr (.inr (.inr (.inr (fun _ => none))))))]) [1, 2] rfl
  have hDc := hD.sub (ws' := [(bk, .inr (0, [.ref br, .ref bm, .int 0, .int 0])), (br, .inl (cR, 488, .inr (.inr (.inr (.inr (fun _ => none))))))]) [1, 2] (by decide) rfl
  refine ro (va_runV (As := [.int i0]) (rest := []) ⟨hx, hb, hml, hown, hts⟩ (c_rowSeen l D cI cR cM _ i0 bk br bm) (cwV 1 hts gX10_good_X0_rowSeen rfl rfl rfl (by decide +kernel) ⟨Nat.le_of_ble_eq_true rfl, Nat.le_of_ble_eq_true rfl⟩) (pre_V hK hPc hDc 0 0 rfl rfl) rfl rfl hl.1 rfl (lv_room (Nat.le_of_ble_eq_true rfl)) dX10_good_5 ⟨Nat.le_of_ble_eq_true rfl, Nat.le_of_ble_eq_true rfl⟩) hS hA hP (fun H locs hP hS => ?_)
  refine lv_astore_nN (lv' := [(3, .null), (0, .ref hh), (1, .int i0), (2, .int i1)]) hx hb dX10_good_8 rfl hl (by decide) rfl (fun ls hl => ?_)
  refine lv_aload_nN hx hb dX10_good_9 rfl (lv_at hl 0 rfl) ?_
  refine lv_ifnonnullN hx hb dX10_good_10 ?_
  refine lv_iconst (v := (-1)) hx hb dX10_good_13 (by decide) ?_
  exact ro_iret hx hb hr hlocks hS (rfl) hQ dX10_good_14
set_option maxRecDepth 100000 in
set_option maxHeartbeats 4000000 in
theorem c_cycles (l : Launch) (D : va_G) (cI cR cM : ClassId) (sz : Nat) (i0 : Int32) (hh : Nat) (x0 x1 x3 x5 x6 x7 : Value) (bk br bm ct : Nat) (y0 y1 y2 y3 y4 y5 y6 y7 : Value) : Met l yX10_cycles wsX10_cycles ({ frames := 2, cells := 0, slots := 0, locals := 43 }) (P0 D cI cR cM [.ref hh, .int i0] sz [(hh, .inr (10, [x0, x1, .ref bk, x3, .ref ct, x5, x6, x7])), (bk, .inr (0, [.ref br, .ref bm, .int 0, .int 0])), (br, .inl (cR, 488, .inr (.inr (.inr (.inr (fun _ => none)))))), (ct, .inr (1, [y0, y1, y2, y3, y4, y5, y6, y7]))]) (QE (some (.int (-1))) sz) 0 0 (va_A [] sz) := by
  refine go (cc := cX10_cycles) (maxL := 2) (ret := (some .int)) (by decide) rfl (Nat.le_of_ble_eq_true rfl) ?_
  intro p e s m below meth c ls args Q hQ hsz hx hb hr hml hts hown hlocks hnm hP hK hD hl
  subst hsz
  have hS : va_S (va_A [] s.heap.size) s.heap s.heap [] := va_S.rf
  have hA : ∀ q, s.heap.size ≤ q → va_A [] s.heap.size q := fun q h => Or.inr h
  have hl : lv_has ls 2 [(0, .ref hh), (1, .int i0)] := hl
  refine lv_aload_n hx hb dX10_cycles_0 rfl (lv_at hl 0 rfl) ?_
  refine va_get (D := D) (ci := 10) (v := .ref ct) (C := RX10) (T := TX10) (N := 8) hx hb hts (by decide +kernel) hown hK.1 hP 0 rfl rfl 4 (by decide) (hts (.fieldLink RX10 53 "JugglingHall" "catches" "LJugglingHall$Catches;") (by decide +kernel)) (fun _ h9 => h9) rfl dX10_cycles_1 ?_
  refine lv_aload_n hx hb dX10_cycles_4 rfl (lv_at hl 0 rfl) ?_
  refine va_get (D := D) (ci := 10) (v := .ref bk) (C := RX10) (T := TX10) (N := 8) hx hb hts (by decide +kernel) hown hK.1 hP 0 rfl rfl 2 (by decide) (hts (.fieldLink RX10 32 "JugglingHall" "book" "LJugglingHall$Book;") (by decide +kernel)) (fun _ h9 => h9) rfl dX10_cycles_5 ?_
  refine lv_iload_n hx hb dX10_cycles_8 rfl (lv_at hl 1 rfl) ?_
  have hPc := hP.sub (ws' := [(bk, .inr (0, [.ref br, .ref bm, .int 0, .int 0])), (br, .inl (cR, 488, .inr (.inr (.inr (.inr (fun _ => none))))))]) [1, 2] rfl
  have hDc := hD.sub (ws' := [(bk, .inr (0, [.ref br, .ref bm, .int 0, .int 0])), (br, .inl (cR, 488, .inr (.inr (.inr (.inr (fun _ => none))))))]) [1, 2] (by decide) rfl
  refine ro (va_runV (As := [.int i0]) (rest := [.ref ct]) ⟨hx, hb, hml, hown, hts⟩ (c_rowSeen l D cI cR cM _ i0 bk br bm) (cwV 1 hts gX10_cycles_X0_rowSeen rfl rfl rfl (by decide +kernel) ⟨Nat.le_of_ble_eq_true rfl, Nat.le_of_ble_eq_true rfl⟩) (pre_V hK hPc hDc 0 0 rfl rfl) rfl rfl hl.1 rfl (lv_room (Nat.le_of_ble_eq_true rfl)) dX10_cycles_9 ⟨Nat.le_of_ble_eq_true rfl, Nat.le_of_ble_eq_true rfl⟩) hS hA hP (fun H locs hP hS => ?_)
  have hPc := hP.sub (ws' := [(ct, .inr (1, [y0, y1, y2, y3, y4, y5, y6, y7]))]) [3] rfl
  have hDc := hD.sub (ws' := [(ct, .inr (1, [y0, y1, y2, y3, y4, y5, y6, y7]))]) [3] (by decide) rfl
  refine ro (va_runV (As := [.null]) (rest := []) ⟨hx, hb, hml, hown, hts⟩ (c_lead l D cI cR cM _ ct y0 y1 y2 y3 y4 y5 y6 y7) (cwV 1 hts gX10_cycles_X1_lead rfl rfl rfl (by decide +kernel) ⟨Nat.le_of_ble_eq_true rfl, Nat.le_of_ble_eq_true rfl⟩) (pre_V hK hPc hDc 0 1 rfl rfl) rfl rfl hl.1 rfl (lv_room (Nat.le_of_ble_eq_true rfl)) dX10_cycles_12 ⟨Nat.le_of_ble_eq_true rfl, Nat.le_of_ble_eq_true rfl⟩) hS hA hP (fun H locs hP hS => ?_)
  refine lv_if_eq (tgt := 28) hx hb dX10_cycles_15 (by decide) (fun c15 => ?_) (fun c15 => absurd (by decide) c15)
  refine lv_iconst (v := (-1)) hx hb dX10_cycles_28 (by decide) ?_
  exact ro_iret hx hb hr hlocks hS (rfl) hQ dX10_cycles_29
set_option maxRecDepth 100000 in
set_option maxHeartbeats 4000000 in
theorem c_cycle (l : Launch) (D : va_G) (cI cR cM : ClassId) (sz : Nat) (i0 i1 i2 : Int32) (hh : Nat) (x0 x1 x3 x4 x5 x6 x7 : Value) (bk br bm : Nat) : Met l yX10_cycle wsX10_cycle ({ frames := 2, cells := 0, slots := 0, locals := 43 }) (P0 D cI cR cM [.ref hh, .int i0, .int i1, .int i2] sz [(hh, .inr (10, [x0, x1, .ref bk, x3, x4, x5, x6, x7])), (bk, .inr (0, [.ref br, .ref bm, .int 0, .int 0])), (br, .inl (cR, 488, .inr (.inr (.inr (.inr (fun _ => none))))))]) (QE (some (.int (-1))) sz) 0 0 (va_A [] sz) := by
  refine go (cc := cX10_cycle) (maxL := 6) (ret := (some .int)) (by decide) rfl (Nat.le_of_ble_eq_true rfl) ?_
  intro p e s m below meth c ls args Q hQ hsz hx hb hr hml hts hown hlocks hnm hP hK hD hl
  subst hsz
  have hS : va_S (va_A [] s.heap.size) s.heap s.heap [] := va_S.rf
  have hA : ∀ q, s.heap.size ≤ q → va_A [] s.heap.size q := fun q h => Or.inr h
  have hl : lv_has ls 6 [(0, .ref hh), (1, .int i0), (2, .int i1), (3, .int i2)] := hl
  refine lv_aload_n hx hb dX10_cycle_0 rfl (lv_at hl 0 rfl) ?_
  refine va_get (D := D) (ci := 10) (v := .ref bk) (C := RX10) (T := TX10) (N := 8) hx hb hts (by decide +kernel) hown hK.1 hP 0 rfl rfl 2 (by decide) (hts (.fieldLink RX10 32 "JugglingHall" "book" "LJugglingHall$Book;") (by decide +kernel)) (fun _ h9 => h9) rfl dX10_cycle_1 ?_
  refine lv_iload_n hx hb dX10_cycle_4 rfl (lv_at hl 1 rfl) ?_
  have hPc := hP.sub (ws' := [(bk, .inr (0, [.ref br, .ref bm, .int 0, .int 0])), (br, .inl (cR, 488, .inr (.inr (.inr (.inr (fun _ => none))))))]) [1, 2] rfl
  have hDc := hD.sub (ws' := [(bk, .inr (0, [.ref br, .ref bm, .int 0, .int 0])), (br, .inl (cR, 488, .inr (.inr (.inr (.inr (fun _ => none))))))]) [1, 2] (by decide) rfl
  refine ro (va_runV (As := [.int i0]) (rest := []) ⟨hx, hb, hml, hown, hts⟩ (c_rowSeen l D cI cR cM _ i0 bk br bm) (cwV 1 hts gX10_cycle_X0_rowSeen rfl rfl rfl (by decide +kernel) ⟨Nat.le_of_ble_eq_true rfl, Nat.le_of_ble_eq_true rfl⟩) (pre_V hK hPc hDc 0 0 rfl rfl) rfl rfl hl.1 rfl (lv_room (Nat.le_of_ble_eq_true rfl)) dX10_cycle_5 ⟨Nat.le_of_ble_eq_true rfl, Nat.le_of_ble_eq_true rfl⟩) hS hA hP (fun H locs hP hS => ?_)
  refine lv_astoreN (lv' := [(4, .null), (0, .ref hh), (1, .int i0), (2, .int i1), (3, .int i2)]) hx hb dX10_cycle_8 hl (by decide) rfl (fun ls hl => ?_)
  refine lv_aloadN hx hb dX10_cycle_10 (lv_at hl 0 rfl) ?_
  refine lv_ifnullN (tgt := 42) hx hb dX10_cycle_12 (by decide) ?_
  refine lv_iconst (v := (-1)) hx hb dX10_cycle_42 (by decide) ?_
  exact ro_iret hx hb hr hlocks hS (rfl) hQ dX10_cycle_43
set_option maxRecDepth 100000 in
set_option maxHeartbeats 4000000 in
theorem c_cycleOf (l : Launch) (D : va_G) (cI cR cM : ClassId) (sz : Nat) (i0 i1 i2 i3 : Int32) (hh : Nat) (x0 x1 x3 x4 x5 x6 x7 : Value) (bk br bm : Nat) : Met l yX10_cycleOf wsX10_cycleOf ({ frames := 2, cells := 0, slots := 0, locals := 43 }) (P0 D cI cR cM [.ref hh, .int i0, .int i1, .int i2, .int i3] sz [(hh, .inr (10, [x0, x1, .ref bk, x3, x4, x5, x6, x7])), (bk, .inr (0, [.ref br, .ref bm, .int 0, .int 0])), (br, .inl (cR, 488, .inr (.inr (.inr (.inr (fun _ => none))))))]) (QE (some (.int (-1))) sz) 0 0 (va_A [] sz) := by
  refine go (cc := cX10_cycleOf) (maxL := 7) (ret := (some .int)) (by decide) rfl (Nat.le_of_ble_eq_true rfl) ?_
  intro p e s m below meth c ls args Q hQ hsz hx hb hr hml hts hown hlocks hnm hP hK hD hl
  subst hsz
  have hS : va_S (va_A [] s.heap.size) s.heap s.heap [] := va_S.rf
  have hA : ∀ q, s.heap.size ≤ q → va_A [] s.heap.size q := fun q h => Or.inr h
  have hl : lv_has ls 7 [(0, .ref hh), (1, .int i0), (2, .int i1), (3, .int i2), (4, .int i3)] := hl
  refine lv_aload_n hx hb dX10_cycleOf_0 rfl (lv_at hl 0 rfl) ?_
  refine va_get (D := D) (ci := 10) (v := .ref bk) (C := RX10) (T := TX10) (N := 8) hx hb hts (by decide +kernel) hown hK.1 hP 0 rfl rfl 2 (by decide) (hts (.fieldLink RX10 32 "JugglingHall" "book" "LJugglingHall$Book;") (by decide +kernel)) (fun _ h9 => h9) rfl dX10_cycleOf_1 ?_
  refine lv_iload_n hx hb dX10_cycleOf_4 rfl (lv_at hl 1 rfl) ?_
  have hPc := hP.sub (ws' := [(bk, .inr (0, [.ref br, .ref bm, .int 0, .int 0])), (br, .inl (cR, 488, .inr (.inr (.inr (.inr (fun _ => none))))))]) [1, 2] rfl
  have hDc := hD.sub (ws' := [(bk, .inr (0, [.ref br, .ref bm, .int 0, .int 0])), (br, .inl (cR, 488, .inr (.inr (.inr (.inr (fun _ => none))))))]) [1, 2] (by decide) rfl
  refine ro (va_runV (As := [.int i0]) (rest := []) ⟨hx, hb, hml, hown, hts⟩ (c_rowSeen l D cI cR cM _ i0 bk br bm) (cwV 1 hts gX10_cycleOf_X0_rowSeen rfl rfl rfl (by decide +kernel) ⟨Nat.le_of_ble_eq_true rfl, Nat.le_of_ble_eq_true rfl⟩) (pre_V hK hPc hDc 0 0 rfl rfl) rfl rfl hl.1 rfl (lv_room (Nat.le_of_ble_eq_true rfl)) dX10_cycleOf_5 ⟨Nat.le_of_ble_eq_true rfl, Nat.le_of_ble_eq_true rfl⟩) hS hA hP (fun H locs hP hS => ?_)
  refine lv_astoreN (lv' := [(5, .null), (0, .ref hh), (1, .int i0), (2, .int i1), (3, .int i2), (4, .int i3)]) hx hb dX10_cycleOf_8 hl (by decide) rfl (fun ls hl => ?_)
  refine lv_aloadN hx hb dX10_cycleOf_10 (lv_at hl 0 rfl) ?_
  refine lv_ifnullN (tgt := 27) hx hb dX10_cycleOf_12 (by decide) ?_
  refine lv_iconst (v := (-1)) hx hb dX10_cycleOf_27 (by decide) ?_
  exact ro_iret hx hb hr hlocks hS (rfl) hQ dX10_cycleOf_28
set_option maxRecDepth 100000 in
set_option maxHeartbeats 4000000 in
theorem c_caught (l : Launch) (D : va_G) (cI cR cM : ClassId) (sz : Nat) (i0 i1 i2 i3 i4 : Int32) (hh : Nat) (x0 x1 x3 x4 x5 x6 x7 : Value) (bk br bm : Nat) : Met l yX10_caught wsX10_caught ({ frames := 2, cells := 0, slots := 0, locals := 43 }) (P0 D cI cR cM [.ref hh, .int i0, .int i1, .int i2, .int i3, .int i4] sz [(hh, .inr (10, [x0, x1, .ref bk, x3, x4, x5, x6, x7])), (bk, .inr (0, [.ref br, .ref bm, .int 0, .int 0])), (br, .inl (cR, 488, .inr (.inr (.inr (.inr (fun _ => none))))))]) (QE (some (.int (-1))) sz) 0 0 (va_A [] sz) := by
  refine go (cc := cX10_caught) (maxL := 10) (ret := (some .int)) (by decide) rfl (Nat.le_of_ble_eq_true rfl) ?_
  intro p e s m below meth c ls args Q hQ hsz hx hb hr hml hts hown hlocks hnm hP hK hD hl
  subst hsz
  have hS : va_S (va_A [] s.heap.size) s.heap s.heap [] := va_S.rf
  have hA : ∀ q, s.heap.size ≤ q → va_A [] s.heap.size q := fun q h => Or.inr h
  have hl : lv_has ls 10 [(0, .ref hh), (1, .int i0), (2, .int i1), (3, .int i2), (4, .int i3), (5, .int i4)] := hl
  refine lv_aload_n hx hb dX10_caught_0 rfl (lv_at hl 0 rfl) ?_
  refine va_get (D := D) (ci := 10) (v := .ref bk) (C := RX10) (T := TX10) (N := 8) hx hb hts (by decide +kernel) hown hK.1 hP 0 rfl rfl 2 (by decide) (hts (.fieldLink RX10 32 "JugglingHall" "book" "LJugglingHall$Book;") (by decide +kernel)) (fun _ h9 => h9) rfl dX10_caught_1 ?_
  refine lv_iload_n hx hb dX10_caught_4 rfl (lv_at hl 1 rfl) ?_
  have hPc := hP.sub (ws' := [(bk, .inr (0, [.ref br, .ref bm, .int 0, .int 0])), (br, .inl (cR, 488, .inr (.inr (.inr (.inr (fun _ => none))))))]) [1, 2] rfl
  have hDc := hD.sub (ws' := [(bk, .inr (0, [.ref br, .ref bm, .int 0, .int 0])), (br, .inl (cR, 488, .inr (.inr (.inr (.inr (fun _ => none))))))]) [1, 2] (by decide) rfl
  refine ro (va_runV (As := [.int i0]) (rest := []) ⟨hx, hb, hml, hown, hts⟩ (c_rowSeen l D cI cR cM _ i0 bk br bm) (cwV 1 hts gX10_caught_X0_rowSeen rfl rfl rfl (by decide +kernel) ⟨Nat.le_of_ble_eq_true rfl, Nat.le_of_ble_eq_true rfl⟩) (pre_V hK hPc hDc 0 0 rfl rfl) rfl rfl hl.1 rfl (lv_room (Nat.le_of_ble_eq_true rfl)) dX10_caught_5 ⟨Nat.le_of_ble_eq_true rfl, Nat.le_of_ble_eq_true rfl⟩) hS hA hP (fun H locs hP hS => ?_)
  refine lv_astoreN (lv' := [(6, .null), (0, .ref hh), (1, .int i0), (2, .int i1), (3, .int i2), (4, .int i3), (5, .int i4)]) hx hb dX10_caught_8 hl (by decide) rfl (fun ls hl => ?_)
  refine lv_aloadN hx hb dX10_caught_10 (lv_at hl 0 rfl) ?_
  refine lv_ifnullN (tgt := 38) hx hb dX10_caught_12 (by decide) ?_
  refine lv_iconst (v := (-1)) hx hb dX10_caught_38 (by decide) ?_
  exact ro_iret hx hb hr hlocks hS (rfl) hQ dX10_caught_39
set_option maxRecDepth 100000 in
set_option maxHeartbeats 4000000 in
theorem c_plain (l : Launch) (D : va_G) (cI cR cM : ClassId) (sz : Nat) (hh : Nat) (x0 x1 x2 x3 x4 x5 x6 x7 : Value) : Met l yX10_isPlainAndGood wsX10_isPlainAndGood ({ frames := 0, cells := 0, slots := 0, locals := 0 }) (P0 D cI cR cM [.ref hh, .null] sz [(hh, .inr (10, [x0, x1, x2, x3, x4, x5, x6, x7]))]) (QE (some (.int 0)) sz) 0 0 (va_A [] sz) := by
  refine go (cc := cX10_isPlainAndGood) (maxL := 2) (ret := (some .boolean)) (by decide) rfl (Nat.le_of_ble_eq_true rfl) ?_
  intro p e s m below meth c ls args Q hQ hsz hx hb hr hml hts hown hlocks hnm hP hK hD hl
  subst hsz
  have hS : va_S (va_A [] s.heap.size) s.heap s.heap [] := va_S.rf
  have hA : ∀ q, s.heap.size ≤ q → va_A [] s.heap.size q := fun q h => Or.inr h
  have hl : lv_has ls 2 [(0, .ref hh), (1, .null)] := hl
  refine lv_aload_nN hx hb dX10_isPlainAndGood_0 rfl (lv_at hl 1 rfl) ?_
  refine lv_ifnullN (tgt := 27) hx hb dX10_isPlainAndGood_1 (by decide) ?_
  refine lv_iconst (v := 0) hx hb dX10_isPlainAndGood_27 (by decide) ?_
  exact ro_zret hx hb hr hlocks hS (by decide) (rfl) hQ dX10_isPlainAndGood_28
set_option maxRecDepth 100000 in
set_option maxHeartbeats 4000000 in
theorem c_state (l : Launch) (D : va_G) (cI cR cM : ClassId) (sz : Nat) (i0 i1 : Int32) (hh : Nat) (x0 x1 x3 x4 x5 x6 x7 : Value) (bk br bm : Nat) : Met l yX10_state wsX10_state ({ frames := 2, cells := 0, slots := 0, locals := 43 }) (P0 D cI cR cM [.ref hh, .int i0, .int i1] sz [(hh, .inr (10, [x0, x1, .ref bk, x3, x4, x5, x6, x7])), (bk, .inr (0, [.ref br, .ref bm, .int 0, .int 0])), (br, .inl (cR, 488, .inr (.inr (.inr (.inr (fun _ => none))))))]) (QE (some (.int (-1))) sz) 0 0 (va_A [] sz) := by
  refine go (cc := cX10_state) (maxL := 4) (ret := (some .int)) (by decide) rfl (Nat.le_of_ble_eq_true rfl) ?_
  intro p e s m below meth c ls args Q hQ hsz hx hb hr hml hts hown hlocks hnm hP hK hD hl
  subst hsz
  have hS : va_S (va_A [] s.heap.size) s.heap s.heap [] := va_S.rf
  have hA : ∀ q, s.heap.size ≤ q → va_A [] s.heap.size q := fun q h => Or.inr h
  have hl : lv_has ls 4 [(0, .ref hh), (1, .int i0), (2, .int i1)] := hl
  refine lv_aload_n hx hb dX10_state_0 rfl (lv_at hl 0 rfl) ?_
  refine va_get (D := D) (ci := 10) (v := .ref bk) (C := RX10) (T := TX10) (N := 8) hx hb hts (by decide +kernel) hown hK.1 hP 0 rfl rfl 2 (by decide) (hts (.fieldLink RX10 32 "JugglingHall" "book" "LJugglingHall$Book;") (by decide +kernel)) (fun _ h9 => h9) rfl dX10_state_1 ?_
  refine lv_iload_n hx hb dX10_state_4 rfl (lv_at hl 1 rfl) ?_
  have hPc := hP.sub (ws' := [(bk, .inr (0, [.ref br, .ref bm, .int 0, .int 0])), (br, .inl (cR, 488, .inr (.inr (.inr (.inr (fun _ => none))))))]) [1, 2] rfl
  have hDc := hD.sub (ws' := [(bk, .inr (0, [.ref br, .ref bm, .int 0, .int 0])), (br, .inl (cR, 488, .inr (.inr (.inr (.inr (fun _ => none))))))]) [1, 2] (by decide) rfl
  refine ro (va_runV (As := [.int i0]) (rest := []) ⟨hx, hb, hml, hown, hts⟩ (c_rowSeen l D cI cR cM _ i0 bk br bm) (cwV 1 hts gX10_state_X0_rowSeen rfl rfl rfl (by decide +kernel) ⟨Nat.le_of_ble_eq_true rfl, Nat.le_of_ble_eq_true rfl⟩) (pre_V hK hPc hDc 0 0 rfl rfl) rfl rfl hl.1 rfl (lv_room (Nat.le_of_ble_eq_true rfl)) dX10_state_5 ⟨Nat.le_of_ble_eq_true rfl, Nat.le_of_ble_eq_true rfl⟩) hS hA hP (fun H locs hP hS => ?_)
  refine lv_astore_nN (lv' := [(3, .null), (0, .ref hh), (1, .int i0), (2, .int i1)]) hx hb dX10_state_8 rfl hl (by decide) rfl (fun ls hl => ?_)
  refine lv_aload_n hx hb dX10_state_9 rfl (lv_at hl 1 rfl) ?_
  refine lv_aload_nN hx hb dX10_state_10 rfl (lv_at hl 0 rfl) ?_
  have hPc := hP.sub (ws' := [(hh, .inr (10, [x0, x1, .ref bk, x3, x4, x5, x6, x7]))]) [0] rfl
  have hDc := hD.sub (ws' := [(hh, .inr (10, [x0, x1, .ref bk, x3, x4, x5, x6, x7]))]) [0] (by decide) rfl
  refine ro (va_runV (As := [.null]) (rest := []) ⟨hx, hb, hml, hown, hts⟩ (c_plain l D cI cR cM _ hh x0 x1 (.ref bk) x3 x4 x5 x6 x7) (cwV 1 hts gX10_state_X10_isPlainAndGood rfl rfl rfl (by decide +kernel) ⟨Nat.le_of_ble_eq_true rfl, Nat.le_of_ble_eq_true rfl⟩) (pre_V hK hPc hDc 0 10 rfl rfl) rfl rfl hl.1 rfl (lv_room (Nat.le_of_ble_eq_true rfl)) dX10_state_11 ⟨Nat.le_of_ble_eq_true rfl, Nat.le_of_ble_eq_true rfl⟩) hS hA hP (fun H locs hP hS => ?_)
  refine lv_if_eq (tgt := 29) hx hb dX10_state_14 (by decide) (fun c14 => ?_) (fun c14 => absurd (by decide) c14)
  refine lv_iconst (v := (-1)) hx hb dX10_state_29 (by decide) ?_
  exact ro_iret hx hb hr hlocks hS (rfl) hQ dX10_state_30
set_option maxRecDepth 100000 in
set_option maxHeartbeats 4000000 in
theorem c_add (l : Launch) (D : va_G) (cI cR cM : ClassId) (sz : Nat) (i0 i1 : Int32) (hh : Nat) (x0 x1 x3 x4 x5 x6 x7 : Value) (bk br bm : Nat) : Met l yX10_add wsX10_add ({ frames := 2, cells := 0, slots := 0, locals := 43 }) (P0 D cI cR cM [.ref hh, .int i0, .int i1] sz [(hh, .inr (10, [x0, x1, .ref bk, x3, x4, x5, x6, x7])), (bk, .inr (0, [.ref br, .ref bm, .int 0, .int 0])), (br, .inl (cR, 488, .inr (.inr (.inr (.inr (fun _ => none))))))]) (QE (some (.int (-1))) sz) 0 0 (va_A [] sz) := by
  refine go (cc := cX10_add) (maxL := 7) (ret := (some .int)) (by decide) rfl (Nat.le_of_ble_eq_true rfl) ?_
  intro p e s m below meth c ls args Q hQ hsz hx hb hr hml hts hown hlocks hnm hP hK hD hl
  subst hsz
  have hS : va_S (va_A [] s.heap.size) s.heap s.heap [] := va_S.rf
  have hA : ∀ q, s.heap.size ≤ q → va_A [] s.heap.size q := fun q h => Or.inr h
  have hl : lv_has ls 7 [(0, .ref hh), (1, .int i0), (2, .int i1)] := hl
  refine lv_aload_n hx hb dX10_add_0 rfl (lv_at hl 0 rfl) ?_
  refine va_get (D := D) (ci := 10) (v := .ref bk) (C := RX10) (T := TX10) (N := 8) hx hb hts (by decide +kernel) hown hK.1 hP 0 rfl rfl 2 (by decide) (hts (.fieldLink RX10 32 "JugglingHall" "book" "LJugglingHall$Book;") (by decide +kernel)) (fun _ h9 => h9) rfl dX10_add_1 ?_
  refine lv_iload_n hx hb dX10_add_4 rfl (lv_at hl 1 rfl) ?_
  have hPc := hP.sub (ws' := [(bk, .inr (0, [.ref br, .ref bm, .int 0, .int 0])), (br, .inl (cR, 488, .inr (.inr (.inr (.inr (fun _ => none))))))]) [1, 2] rfl
  have hDc := hD.sub (ws' := [(bk, .inr (0, [.ref br, .ref bm, .int 0, .int 0])), (br, .inl (cR, 488, .inr (.inr (.inr (.inr (fun _ => none))))))]) [1, 2] (by decide) rfl
  refine ro (va_runV (As := [.int i0]) (rest := []) ⟨hx, hb, hml, hown, hts⟩ (c_rowSeen l D cI cR cM _ i0 bk br bm) (cwV 1 hts gX10_add_X0_rowSeen rfl rfl rfl (by decide +kernel) ⟨Nat.le_of_ble_eq_true rfl, Nat.le_of_ble_eq_true rfl⟩) (pre_V hK hPc hDc 0 0 rfl rfl) rfl rfl hl.1 rfl (lv_room (Nat.le_of_ble_eq_true rfl)) dX10_add_5 ⟨Nat.le_of_ble_eq_true rfl, Nat.le_of_ble_eq_true rfl⟩) hS hA hP (fun H locs hP hS => ?_)
  refine lv_astore_nN (lv' := [(3, .null), (0, .ref hh), (1, .int i0), (2, .int i1)]) hx hb dX10_add_8 rfl hl (by decide) rfl (fun ls hl => ?_)
  refine lv_aload_n hx hb dX10_add_9 rfl (lv_at hl 1 rfl) ?_
  refine lv_aload_nN hx hb dX10_add_10 rfl (lv_at hl 0 rfl) ?_
  have hPc := hP.sub (ws' := [(hh, .inr (10, [x0, x1, .ref bk, x3, x4, x5, x6, x7]))]) [0] rfl
  have hDc := hD.sub (ws' := [(hh, .inr (10, [x0, x1, .ref bk, x3, x4, x5, x6, x7]))]) [0] (by decide) rfl
  refine ro (va_runV (As := [.null]) (rest := []) ⟨hx, hb, hml, hown, hts⟩ (c_plain l D cI cR cM _ hh x0 x1 (.ref bk) x3 x4 x5 x6 x7) (cwV 1 hts gX10_add_X10_isPlainAndGood rfl rfl rfl (by decide +kernel) ⟨Nat.le_of_ble_eq_true rfl, Nat.le_of_ble_eq_true rfl⟩) (pre_V hK hPc hDc 0 10 rfl rfl) rfl rfl hl.1 rfl (lv_room (Nat.le_of_ble_eq_true rfl)) dX10_add_11 ⟨Nat.le_of_ble_eq_true rfl, Nat.le_of_ble_eq_true rfl⟩) hS hA hP (fun H locs hP hS => ?_)
  refine lv_if_eq (tgt := 28) hx hb dX10_add_14 (by decide) (fun c14 => ?_) (fun c14 => absurd (by decide) c14)
  refine lv_iconst (v := (-1)) hx hb dX10_add_28 (by decide) ?_
  exact ro_iret hx hb hr hlocks hS (rfl) hQ dX10_add_29
set_option maxRecDepth 100000 in
set_option maxHeartbeats 4000000 in
theorem c_drop (l : Launch) (D : va_G) (cI cR cM : ClassId) (sz : Nat) (i0 i1 i2 : Int32) (hh : Nat) (x0 x1 x3 x4 x5 x6 x7 : Value) (bk br bm : Nat) : Met l yX10_drop wsX10_drop ({ frames := 2, cells := 0, slots := 0, locals := 43 }) (P0 D cI cR cM [.ref hh, .int i0, .int i1, .int i2] sz [(hh, .inr (10, [x0, x1, .ref bk, x3, x4, x5, x6, x7])), (bk, .inr (0, [.ref br, .ref bm, .int 0, .int 0])), (br, .inl (cR, 488, .inr (.inr (.inr (.inr (fun _ => none))))))]) (QE (some (.int (-1))) sz) 0 0 (va_A [] sz) := by
  refine go (cc := cX10_drop) (maxL := 6) (ret := (some .int)) (by decide) rfl (Nat.le_of_ble_eq_true rfl) ?_
  intro p e s m below meth c ls args Q hQ hsz hx hb hr hml hts hown hlocks hnm hP hK hD hl
  subst hsz
  have hS : va_S (va_A [] s.heap.size) s.heap s.heap [] := va_S.rf
  have hA : ∀ q, s.heap.size ≤ q → va_A [] s.heap.size q := fun q h => Or.inr h
  have hl : lv_has ls 6 [(0, .ref hh), (1, .int i0), (2, .int i1), (3, .int i2)] := hl
  refine lv_aload_n hx hb dX10_drop_0 rfl (lv_at hl 0 rfl) ?_
  refine va_get (D := D) (ci := 10) (v := .ref bk) (C := RX10) (T := TX10) (N := 8) hx hb hts (by decide +kernel) hown hK.1 hP 0 rfl rfl 2 (by decide) (hts (.fieldLink RX10 32 "JugglingHall" "book" "LJugglingHall$Book;") (by decide +kernel)) (fun _ h9 => h9) rfl dX10_drop_1 ?_
  refine lv_iload_n hx hb dX10_drop_4 rfl (lv_at hl 1 rfl) ?_
  have hPc := hP.sub (ws' := [(bk, .inr (0, [.ref br, .ref bm, .int 0, .int 0])), (br, .inl (cR, 488, .inr (.inr (.inr (.inr (fun _ => none))))))]) [1, 2] rfl
  have hDc := hD.sub (ws' := [(bk, .inr (0, [.ref br, .ref bm, .int 0, .int 0])), (br, .inl (cR, 488, .inr (.inr (.inr (.inr (fun _ => none))))))]) [1, 2] (by decide) rfl
  refine ro (va_runV (As := [.int i0]) (rest := []) ⟨hx, hb, hml, hown, hts⟩ (c_rowSeen l D cI cR cM _ i0 bk br bm) (cwV 1 hts gX10_drop_X0_rowSeen rfl rfl rfl (by decide +kernel) ⟨Nat.le_of_ble_eq_true rfl, Nat.le_of_ble_eq_true rfl⟩) (pre_V hK hPc hDc 0 0 rfl rfl) rfl rfl hl.1 rfl (lv_room (Nat.le_of_ble_eq_true rfl)) dX10_drop_5 ⟨Nat.le_of_ble_eq_true rfl, Nat.le_of_ble_eq_true rfl⟩) hS hA hP (fun H locs hP hS => ?_)
  refine lv_astoreN (lv' := [(4, .null), (0, .ref hh), (1, .int i0), (2, .int i1), (3, .int i2)]) hx hb dX10_drop_8 hl (by decide) rfl (fun ls hl => ?_)
  refine lv_iload_n hx hb dX10_drop_10 rfl (lv_at hl 4 rfl) ?_
  refine lv_if_lt (tgt := 47) hx hb dX10_drop_11 (by decide) (fun c11 => ?_) (fun c11 => ?_)
  · refine lv_iconst (v := (-1)) hx hb dX10_drop_47 (by decide) ?_
    exact ro_iret hx hb hr hlocks hS (rfl) hQ dX10_drop_48
  · refine lv_iload_n hx hb dX10_drop_14 rfl (lv_at hl 4 rfl) ?_
    refine lv_bipush (v := 8) hx hb dX10_drop_15 (by decide) ?_
    refine lv_icmp_ge (tgt := 47) hx hb dX10_drop_17 (by decide) (fun c17 => ?_) (fun c17 => ?_)
    · refine lv_iconst (v := (-1)) hx hb dX10_drop_47 (by decide) ?_
      exact ro_iret hx hb hr hlocks hS (rfl) hQ dX10_drop_48
    · refine lv_aload_n hx hb dX10_drop_20 rfl (lv_at hl 1 rfl) ?_
      refine va_get (D := D) (ci := 10) (v := .ref bk) (C := RX10) (T := TX10) (N := 8) hx hb hts (by decide +kernel) hown hK.1 hP 0 rfl rfl 2 (by decide) (hts (.fieldLink RX10 32 "JugglingHall" "book" "LJugglingHall$Book;") (by decide +kernel)) (fun _ h9 => h9) rfl dX10_drop_21 ?_
      have hPc := hP.sub (ws' := [(bk, .inr (0, [.ref br, .ref bm, .int 0, .int 0]))]) [1] rfl
      have hDc := hD.sub (ws' := [(bk, .inr (0, [.ref br, .ref bm, .int 0, .int 0]))]) [1] (by decide) rfl
      refine ro (va_runV (As := []) (rest := []) ⟨hx, hb, hml, hown, hts⟩ (c_isFull l D cI cR cM _ bk br bm) (cwV 0 hts gX10_drop_X0_isFull rfl rfl rfl (by decide +kernel) ⟨Nat.le_of_ble_eq_true rfl, Nat.le_of_ble_eq_true rfl⟩) (pre_V hK hPc hDc 0 0 rfl rfl) rfl rfl hl.1 rfl (lv_room (Nat.le_of_ble_eq_true rfl)) dX10_drop_24 ⟨Nat.le_of_ble_eq_true rfl, Nat.le_of_ble_eq_true rfl⟩) hS hA hP (fun H locs hP hS => ?_)
      refine lv_if_ne (tgt := 47) hx hb dX10_drop_27 (by decide) (fun c27 => absurd (by decide) c27) (fun c27 => ?_)
      refine lv_aloadN hx hb dX10_drop_30 (lv_at hl 0 rfl) ?_
      refine lv_ifnullN (tgt := 47) hx hb dX10_drop_32 (by decide) ?_
      refine lv_iconst (v := (-1)) hx hb dX10_drop_47 (by decide) ?_
      exact ro_iret hx hb hr hlocks hS (rfl) hQ dX10_drop_48
set_option maxRecDepth 100000 in
set_option maxHeartbeats 4000000 in
theorem c_turned (l : Launch) (D : va_G) (cI cR cM : ClassId) (sz : Nat) (i0 i1 : Int32) (hh : Nat) (x0 x1 x3 x4 x5 x6 x7 : Value) (bk br bm : Nat) : Met l yX10_turned wsX10_turned ({ frames := 2, cells := 0, slots := 0, locals := 43 }) (P0 D cI cR cM [.ref hh, .int i0, .int i1] sz [(hh, .inr (10, [x0, x1, .ref bk, x3, x4, x5, x6, x7])), (bk, .inr (0, [.ref br, .ref bm, .int 0, .int 0])), (br, .inl (cR, 488, .inr (.inr (.inr (.inr (fun _ => none))))))]) (QE (some (.int (-1))) sz) 0 0 (va_A [] sz) := by
  refine go (cc := cX10_turned) (maxL := 6) (ret := (some .int)) (by decide) rfl (Nat.le_of_ble_eq_true rfl) ?_
  intro p e s m below meth c ls args Q hQ hsz hx hb hr hml hts hown hlocks hnm hP hK hD hl
  subst hsz
  have hS : va_S (va_A [] s.heap.size) s.heap s.heap [] := va_S.rf
  have hA : ∀ q, s.heap.size ≤ q → va_A [] s.heap.size q := fun q h => Or.inr h
  have hl : lv_has ls 6 [(0, .ref hh), (1, .int i0), (2, .int i1)] := hl
  refine lv_aload_n hx hb dX10_turned_0 rfl (lv_at hl 0 rfl) ?_
  refine va_get (D := D) (ci := 10) (v := .ref bk) (C := RX10) (T := TX10) (N := 8) hx hb hts (by decide +kernel) hown hK.1 hP 0 rfl rfl 2 (by decide) (hts (.fieldLink RX10 32 "JugglingHall" "book" "LJugglingHall$Book;") (by decide +kernel)) (fun _ h9 => h9) rfl dX10_turned_1 ?_
  refine lv_iload_n hx hb dX10_turned_4 rfl (lv_at hl 1 rfl) ?_
  have hPc := hP.sub (ws' := [(bk, .inr (0, [.ref br, .ref bm, .int 0, .int 0])), (br, .inl (cR, 488, .inr (.inr (.inr (.inr (fun _ => none))))))]) [1, 2] rfl
  have hDc := hD.sub (ws' := [(bk, .inr (0, [.ref br, .ref bm, .int 0, .int 0])), (br, .inl (cR, 488, .inr (.inr (.inr (.inr (fun _ => none))))))]) [1, 2] (by decide) rfl
  refine ro (va_runV (As := [.int i0]) (rest := []) ⟨hx, hb, hml, hown, hts⟩ (c_rowSeen l D cI cR cM _ i0 bk br bm) (cwV 1 hts gX10_turned_X0_rowSeen rfl rfl rfl (by decide +kernel) ⟨Nat.le_of_ble_eq_true rfl, Nat.le_of_ble_eq_true rfl⟩) (pre_V hK hPc hDc 0 0 rfl rfl) rfl rfl hl.1 rfl (lv_room (Nat.le_of_ble_eq_true rfl)) dX10_turned_5 ⟨Nat.le_of_ble_eq_true rfl, Nat.le_of_ble_eq_true rfl⟩) hS hA hP (fun H locs hP hS => ?_)
  refine lv_astore_nN (lv' := [(3, .null), (0, .ref hh), (1, .int i0), (2, .int i1)]) hx hb dX10_turned_8 rfl hl (by decide) rfl (fun ls hl => ?_)
  refine lv_aload_n hx hb dX10_turned_9 rfl (lv_at hl 1 rfl) ?_
  refine va_get (D := D) (ci := 10) (v := .ref bk) (C := RX10) (T := TX10) (N := 8) hx hb hts (by decide +kernel) hown hK.1 hP 0 rfl rfl 2 (by decide) (hts (.fieldLink RX10 32 "JugglingHall" "book" "LJugglingHall$Book;") (by decide +kernel)) (fun _ h9 => h9) rfl dX10_turned_10 ?_
  refine lv_iload_n hx hb dX10_turned_13 rfl (lv_at hl 3 rfl) ?_
  have hPc := hP.sub (ws' := [(bk, .inr (0, [.ref br, .ref bm, .int 0, .int 0])), (br, .inl (cR, 488, .inr (.inr (.inr (.inr (fun _ => none))))))]) [1, 2] rfl
  have hDc := hD.sub (ws' := [(bk, .inr (0, [.ref br, .ref bm, .int 0, .int 0])), (br, .inl (cR, 488, .inr (.inr (.inr (.inr (fun _ => none))))))]) [1, 2] (by decide) rfl
  refine ro (va_runV (As := [.int i1]) (rest := []) ⟨hx, hb, hml, hown, hts⟩ (c_rowSeen l D cI cR cM _ i1 bk br bm) (cwV 1 hts gX10_turned_X0_rowSeen rfl rfl rfl (by decide +kernel) ⟨Nat.le_of_ble_eq_true rfl, Nat.le_of_ble_eq_true rfl⟩) (pre_V hK hPc hDc 0 0 rfl rfl) rfl rfl hl.1 rfl (lv_room (Nat.le_of_ble_eq_true rfl)) dX10_turned_14 ⟨Nat.le_of_ble_eq_true rfl, Nat.le_of_ble_eq_true rfl⟩) hS hA hP (fun H locs hP hS => ?_)
  refine lv_astoreN (lv' := [(4, .null), (3, .null), (0, .ref hh), (1, .int i0), (2, .int i1)]) hx hb dX10_turned_17 hl (by decide) rfl (fun ls hl => ?_)
  refine lv_aload_nN hx hb dX10_turned_19 rfl (lv_at hl 1 rfl) ?_
  refine lv_ifnullN (tgt := 40) hx hb dX10_turned_20 (by decide) ?_
  refine lv_iconst (v := (-1)) hx hb dX10_turned_40 (by decide) ?_
  exact ro_iret hx hb hr hlocks hS (rfl) hQ dX10_turned_41
set_option maxRecDepth 100000 in
set_option maxHeartbeats 4000000 in
theorem c_seen (l : Launch) (D : va_G) (cI cR cM : ClassId) (sz : Nat) (i0 : Int32) (hh : Nat) (x0 x1 x3 x4 x5 x6 x7 : Value) (bk br bm : Nat) : Met l yX10_seen wsX10_seen ({ frames := 2, cells := 0, slots := 0, locals := 43 }) (P0 D cI cR cM [.ref hh, .int i0] sz [(hh, .inr (10, [x0, x1, .ref bk, x3, x4, x5, x6, x7])), (bk, .inr (0, [.ref br, .ref bm, .int 0, .int 0])), (bm, .inl (cM, 61, .inr (.inr (.inr (.inr (fun _ => none))))))]) (QE (some (.int (if i0 = 0 then 0 else -1))) sz) 0 0 (va_A [] sz) := by
  refine go (cc := cX10_seen) (maxL := 4) (ret := (some .int)) (by decide) rfl (Nat.le_of_ble_eq_true rfl) ?_
  intro p e s m below meth c ls args Q hQ hsz hx hb hr hml hts hown hlocks hnm hP hK hD hl
  subst hsz
  have hS : va_S (va_A [] s.heap.size) s.heap s.heap [] := va_S.rf
  have hA : ∀ q, s.heap.size ≤ q → va_A [] s.heap.size q := fun q h => Or.inr h
  have hl : lv_has ls 4 [(0, .ref hh), (1, .int i0)] := hl
  refine lv_aload_n hx hb dX10_seen_0 rfl (lv_at hl 0 rfl) ?_
  refine va_get (D := D) (ci := 10) (v := .ref bk) (C := RX10) (T := TX10) (N := 8) hx hb hts (by decide +kernel) hown hK.1 hP 0 rfl rfl 2 (by decide) (hts (.fieldLink RX10 32 "JugglingHall" "book" "LJugglingHall$Book;") (by decide +kernel)) (fun _ h9 => h9) rfl dX10_seen_1 ?_
  have hPc := hP.sub (ws' := [(bk, .inr (0, [.ref br, .ref bm, .int 0, .int 0])), (bm, .inl (cM, 61, .inr (.inr (.inr (.inr (fun _ => none))))))]) [1, 2] rfl
  have hDc := hD.sub (ws' := [(bk, .inr (0, [.ref br, .ref bm, .int 0, .int 0])), (bm, .inl (cM, 61, .inr (.inr (.inr (.inr (fun _ => none))))))]) [1, 2] (by decide) rfl
  refine ro (va_runV (As := []) (rest := []) ⟨hx, hb, hml, hown, hts⟩ (c_marksSeen l D cI cR cM _ bk br bm) (cwV 0 hts gX10_seen_X0_marksSeen rfl rfl rfl (by decide +kernel) ⟨Nat.le_of_ble_eq_true rfl, Nat.le_of_ble_eq_true rfl⟩) (pre_V hK hPc hDc 0 0 rfl rfl) rfl rfl hl.1 rfl (lv_room (Nat.le_of_ble_eq_true rfl)) dX10_seen_4 ⟨Nat.le_of_ble_eq_true rfl, Nat.le_of_ble_eq_true rfl⟩) hS hA hP (fun H locs hP hS => ?_)
  refine lv_astore_nN (lv' := [(2, .null), (0, .ref hh), (1, .int i0)]) hx hb dX10_seen_7 rfl hl (by decide) rfl (fun ls hl => ?_)
  refine lv_aload_nN hx hb dX10_seen_8 rfl (lv_at hl 0 rfl) ?_
  refine lv_ifnonnullN hx hb dX10_seen_9 ?_
  refine lv_iconst (v := 0) hx hb dX10_seen_12 (by decide) ?_
  refine lv_goto (tgt := 20) hx hb dX10_seen_13 (by decide) ?_
  refine lv_istore_n (lv' := [(3, .int 0), (2, .null), (0, .ref hh), (1, .int i0)]) hx hb dX10_seen_20 rfl hl (by decide) rfl (fun ls hl => ?_)
  refine lv_iload_n hx hb dX10_seen_21 rfl (lv_at hl 3 rfl) ?_
  refine lv_if_ne (tgt := 27) hx hb dX10_seen_22 (by decide) (fun c22 => ?_) (fun c22 => ?_)
  · refine lv_iload_n hx hb dX10_seen_27 rfl (lv_at hl 3 rfl) ?_
    refine lv_bipush (v := 10) hx hb dX10_seen_28 (by decide) ?_
    refine lv_icmp_lt (tgt := 41) hx hb dX10_seen_30 (by decide) (fun c30 => ?_) (fun c30 => ?_)
    · refine lv_iconst (v := (-1)) hx hb dX10_seen_41 (by decide) ?_
      refine lv_goto (tgt := 54) hx hb dX10_seen_42 (by decide) ?_
      exact ro_iret hx hb hr hlocks hS ((if_neg c22).symm) hQ dX10_seen_54
    · refine lv_iload_n hx hb dX10_seen_33 rfl (lv_at hl 3 rfl) ?_
      refine lv_bipush (v := 10) hx hb dX10_seen_34 (by decide) ?_
      refine lv_isub hx hb dX10_seen_36 ?_
      refine lv_iload_n hx hb dX10_seen_37 rfl (lv_at hl 0 rfl) ?_
      refine lv_icmp_lt (tgt := 45) hx hb dX10_seen_38 (by decide) (fun c38 => ?_) (fun c38 => ?_)
      · exact absurd c38 (fun q => c30 (jx_lt10 q))
      · refine lv_iconst (v := (-1)) hx hb dX10_seen_41 (by decide) ?_
        refine lv_goto (tgt := 54) hx hb dX10_seen_42 (by decide) ?_
        exact ro_iret hx hb hr hlocks hS ((if_neg c22).symm) hQ dX10_seen_54
  · refine lv_iload_n hx hb dX10_seen_25 rfl (lv_at hl 0 rfl) ?_
    exact ro_iret hx hb hr hlocks hS ((if_pos c22).symm) hQ dX10_seen_26
set_option maxRecDepth 100000 in
set_option maxHeartbeats 4000000 in
theorem c_whole (l : Launch) (D : va_G) (cI cR cM : ClassId) (sz : Nat) (i0 i1 : Int32) (hh : Nat) (x0 x1 x3 x4 x5 x6 x7 : Value) (bk br bm : Nat) : Met l yX10_whole wsX10_whole ({ frames := 2, cells := 0, slots := 0, locals := 43 }) (P0 D cI cR cM [.ref hh, .int i0, .int i1] sz [(hh, .inr (10, [x0, x1, .ref bk, x3, x4, x5, x6, x7])), (bk, .inr (0, [.ref br, .ref bm, .int 0, .int 0])), (bm, .inl (cM, 61, .inr (.inr (.inr (.inr (fun _ => none))))))]) (QE (some (.int (-1))) sz) 0 0 (va_A [] sz) := by
  refine go (cc := cX10_whole) (maxL := 5) (ret := (some .int)) (by decide) rfl (Nat.le_of_ble_eq_true rfl) ?_
  intro p e s m below meth c ls args Q hQ hsz hx hb hr hml hts hown hlocks hnm hP hK hD hl
  subst hsz
  have hS : va_S (va_A [] s.heap.size) s.heap s.heap [] := va_S.rf
  have hA : ∀ q, s.heap.size ≤ q → va_A [] s.heap.size q := fun q h => Or.inr h
  have hl : lv_has ls 5 [(0, .ref hh), (1, .int i0), (2, .int i1)] := hl
  refine lv_aload_n hx hb dX10_whole_0 rfl (lv_at hl 0 rfl) ?_
  refine va_get (D := D) (ci := 10) (v := .ref bk) (C := RX10) (T := TX10) (N := 8) hx hb hts (by decide +kernel) hown hK.1 hP 0 rfl rfl 2 (by decide) (hts (.fieldLink RX10 32 "JugglingHall" "book" "LJugglingHall$Book;") (by decide +kernel)) (fun _ h9 => h9) rfl dX10_whole_1 ?_
  have hPc := hP.sub (ws' := [(bk, .inr (0, [.ref br, .ref bm, .int 0, .int 0])), (bm, .inl (cM, 61, .inr (.inr (.inr (.inr (fun _ => none))))))]) [1, 2] rfl
  have hDc := hD.sub (ws' := [(bk, .inr (0, [.ref br, .ref bm, .int 0, .int 0])), (bm, .inl (cM, 61, .inr (.inr (.inr (.inr (fun _ => none))))))]) [1, 2] (by decide) rfl
  refine ro (va_runV (As := []) (rest := []) ⟨hx, hb, hml, hown, hts⟩ (c_marksSeen l D cI cR cM _ bk br bm) (cwV 0 hts gX10_whole_X0_marksSeen rfl rfl rfl (by decide +kernel) ⟨Nat.le_of_ble_eq_true rfl, Nat.le_of_ble_eq_true rfl⟩) (pre_V hK hPc hDc 0 0 rfl rfl) rfl rfl hl.1 rfl (lv_room (Nat.le_of_ble_eq_true rfl)) dX10_whole_4 ⟨Nat.le_of_ble_eq_true rfl, Nat.le_of_ble_eq_true rfl⟩) hS hA hP (fun H locs hP hS => ?_)
  refine lv_astore_nN (lv' := [(3, .null), (0, .ref hh), (1, .int i0), (2, .int i1)]) hx hb dX10_whole_7 rfl hl (by decide) rfl (fun ls hl => ?_)
  refine lv_aload_nN hx hb dX10_whole_8 rfl (lv_at hl 0 rfl) ?_
  refine lv_ifnullN (tgt := 22) hx hb dX10_whole_9 (by decide) ?_
  refine lv_iconst (v := (-1)) hx hb dX10_whole_22 (by decide) ?_
  exact ro_iret hx hb hr hlocks hS (rfl) hQ dX10_whole_23
set_option maxRecDepth 100000 in
set_option maxHeartbeats 4000000 in
theorem c_score (l : Launch) (D : va_G) (cI cR cM : ClassId) (sz : Nat) (i0 i1 : Int32) (hh : Nat) (x0 x1 x2 x3 x4 x5 x7 : Value) (sh : Nat) (y0 y1 y2 : Value) : Met l yX10_score wsX10_score ({ frames := 0, cells := 0, slots := 0, locals := 0 }) (P0 D cI cR cM [.ref hh, .int i0, .int i1] sz [(hh, .inr (10, [x0, x1, x2, x3, x4, x5, .ref sh, x7])), (sh, .inr (6, [y0, y1, .int 0, y2]))]) (QE (some (.int (-1))) sz) 0 0 (va_A [] sz) := by
  refine go (cc := cX10_score) (maxL := 3) (ret := (some .int)) (by decide) rfl (Nat.le_of_ble_eq_true rfl) ?_
  intro p e s m below meth c ls args Q hQ hsz hx hb hr hml hts hown hlocks hnm hP hK hD hl
  subst hsz
  have hS : va_S (va_A [] s.heap.size) s.heap s.heap [] := va_S.rf
  have hA : ∀ q, s.heap.size ≤ q → va_A [] s.heap.size q := fun q h => Or.inr h
  have hl : lv_has ls 3 [(0, .ref hh), (1, .int i0), (2, .int i1)] := hl
  refine lv_iload_n hx hb dX10_score_0 rfl (lv_at hl 1 rfl) ?_
  refine lv_if_lt (tgt := 15) hx hb dX10_score_1 (by decide) (fun c1 => ?_) (fun c1 => ?_)
  · refine lv_iconst (v := (-1)) hx hb dX10_score_15 (by decide) ?_
    exact ro_iret hx hb hr hlocks hS (rfl) hQ dX10_score_16
  · refine lv_iload_n hx hb dX10_score_4 rfl (lv_at hl 1 rfl) ?_
    refine lv_aload_n hx hb dX10_score_5 rfl (lv_at hl 0 rfl) ?_
    refine va_get (D := D) (ci := 10) (v := .ref sh) (C := RX10) (T := TX10) (N := 8) hx hb hts (by decide +kernel) hown hK.1 hP 0 rfl rfl 6 (by decide) (hts (.fieldLink RX10 67 "JugglingHall" "sheet" "LJugglingHall$Sheet;") (by decide +kernel)) (fun _ h9 => h9) rfl dX10_score_6 ?_
    refine va_getN (D := D) (ci := 6) (v := .int 0) (C := RX6) (T := TX6) (N := 4) (host := "JugglingHall") hx hb hts (by decide +kernel) hown hK.1 hP 1 rfl rfl 2 (by decide) (hK.nw (.fieldLinkNest RX10 200 "JugglingHall$Sheet" "length" "I" "JugglingHall") (by decide +kernel) rfl) (fun _ h9 => h9) rfl dX10_score_9 ?_
    refine lv_icmp_lt (tgt := 17) hx hb dX10_score_12 (by decide) (fun c12 => ?_) (fun c12 => ?_)
    · exact absurd c12 c1
    · refine lv_iconst (v := (-1)) hx hb dX10_score_15 (by decide) ?_
      exact ro_iret hx hb hr hlocks hS (rfl) hQ dX10_score_16
set_option maxRecDepth 100000 in
set_option maxHeartbeats 4000000 in
theorem c_clear (l : Launch) (D : va_G) (cI cR cM : ClassId) (sz : Nat) (hh : Nat) (x0 x1 x2 x3 x4 x5 x7 : Value) (sh : Nat) (y0 y1 y2 : Value) : Met l yX10_clear wsX10_clear ({ frames := 0, cells := 0, slots := 0, locals := 0 }) (P0 D cI cR cM [.ref hh] sz [(hh, .inr (10, [x0, x1, x2, x3, x4, x5, .ref sh, x7])), (sh, .inr (6, [y0, y1, .int 0, y2]))]) (QG (S := Unit) (fun _ => some (.int 0)) (fun _ => []) (fun _ => True) D (va_A [(hh, .inr (10, [x0, x1, x2, x3, x4, x5, .ref sh, x7])), (sh, .inr (6, [y0, y1, .int 0, y2]))] sz)) 0 0 (va_A [(hh, .inr (10, [x0, x1, x2, x3, x4, x5, .ref sh, x7])), (sh, .inr (6, [y0, y1, .int 0, y2]))] sz) := by
  refine go (cc := cX10_clear) (maxL := 2) (ret := (some .int)) (by decide) rfl (Nat.le_of_ble_eq_true rfl) ?_
  intro p e s m below meth c ls args Q hQ hsz hx hb hr hml hts hown hlocks hnm hP hK hD hl
  subst hsz
  have hD := hD.self (sz := s.heap.size)
  generalize hAe : va_A [(hh, .inr (10, [x0, x1, x2, x3, x4, x5, .ref sh, x7])), (sh, .inr (6, [y0, y1, .int 0, y2]))] s.heap.size = A at hD hQ
  have hA : ∀ q, s.heap.size ≤ q → A q := fun q h => by rw [← hAe]; exact Or.inr h
  have hS : va_S A s.heap s.heap [] := va_S.rf
  have hl : lv_has ls 2 [(0, .ref hh)] := hl
  refine lv_aload_n hx hb dX10_clear_0 rfl (lv_at hl 0 rfl) ?_
  refine va_get (D := D) (ci := 10) (v := .ref sh) (C := RX10) (T := TX10) (N := 8) hx hb hts (by decide +kernel) hown hK.1 hP 0 rfl rfl 6 (by decide) (hts (.fieldLink RX10 67 "JugglingHall" "sheet" "LJugglingHall$Sheet;") (by decide +kernel)) (fun _ h9 => h9) rfl dX10_clear_1 ?_
  refine va_getN (D := D) (ci := 6) (v := .int 0) (C := RX6) (T := TX6) (N := 4) (host := "JugglingHall") hx hb hts (by decide +kernel) hown hK.1 hP 1 rfl rfl 2 (by decide) (hK.nw (.fieldLinkNest RX10 200 "JugglingHall$Sheet" "length" "I" "JugglingHall") (by decide +kernel) rfl) (fun _ h9 => h9) rfl dX10_clear_4 ?_
  refine lv_istore_n (lv' := [(1, .int 0), (0, .ref hh)]) hx hb dX10_clear_7 rfl hl (by decide) rfl (fun ls hl => ?_)
  refine lv_aload_n hx hb dX10_clear_8 rfl (lv_at hl 1 rfl) ?_
  refine va_get (D := D) (ci := 10) (v := .ref sh) (C := RX10) (T := TX10) (N := 8) hx hb hts (by decide +kernel) hown hK.1 hP 0 rfl rfl 6 (by decide) (hts (.fieldLink RX10 67 "JugglingHall" "sheet" "LJugglingHall$Sheet;") (by decide +kernel)) (fun _ h9 => h9) rfl dX10_clear_9 ?_
  refine lv_iconst (v := 0) hx hb dX10_clear_12 (by decide) ?_
  refine va_putN (D := D) (ci := 6) (v := .int 0) (ty := .int) (C := RX6) (T := TX6) (N := 4) (host := "JugglingHall") hx hb hts (by decide +kernel) tyX6 tyX6_ok nmX6 hown hK.1 hP hD hS 1 rfl rfl 2 (by decide) (hK.nw (.fieldLinkNest RX10 200 "JugglingHall$Sheet" "length" "I" "JugglingHall") (by decide +kernel) rfl) (fun _ h9 => h9) rfl (by decide +kernel) rfl rfl (Nat.le_of_ble_eq_true rfl) dX10_clear_13 (fun H locs hP hD hS => ?_)
  have hP : va_P D vwCl [(hh, .inr (10, [x0, x1, x2, x3, x4, x5, .ref sh, x7])), (sh, .inr (6, [y0, y1, .int 0, y2]))] H := hP
  have hD : va_D A [(hh, .inr (10, [x0, x1, x2, x3, x4, x5, .ref sh, x7])), (sh, .inr (6, [y0, y1, .int 0, y2]))] := hD
  refine lv_iload_n hx hb dX10_clear_16 rfl (lv_at hl 0 rfl) ?_
  exact g_iret (()) hx hb hr hlocks hS rfl (trivial) va_P_nil va_D_nil hQ (Nat.le_of_ble_eq_true rfl) (Nat.le_of_ble_eq_true rfl) dX10_clear_17
def abI (jn : Nat) (w : Int32) : Int32 := if w = 0 then nI jn else if w = 1 then 0 else if w = 2 then 0 else if w = 3 then 0 else if w = 4 then 0 else if w = 5 then 0 else -1
set_option maxRecDepth 100000 in
set_option maxHeartbeats 4000000 in
theorem c_letters (l : Launch) (D : va_G) (cI cR cM : ClassId) (sz : Nat) (bk br bm : Nat) : Met l yX0_lettersSeen wsX0_lettersSeen ({ frames := 2, cells := 0, slots := 0, locals := 43 }) (P0 D cI cR cM [.ref bk] sz [(bk, .inr (0, [.ref br, .ref bm, .int 0, .int 0])), (br, .inl (cR, 488, .inr (.inr (.inr (.inr (fun _ => none))))))]) (QE (some (.int 0)) sz) 0 0 (va_A [] sz) := by
  refine go (cc := cX0_lettersSeen) (maxL := 3) (ret := (some .int)) (by decide) rfl (Nat.le_of_ble_eq_true rfl) ?_
  intro p e s m below meth c ls args Q hQ hsz hx hb hr hml hts hown hlocks hnm hP hK hD hl
  subst hsz
  have hS : va_S (va_A [] s.heap.size) s.heap s.heap [] := va_S.rf
  have hA : ∀ q, s.heap.size ≤ q → va_A [] s.heap.size q := fun q h => Or.inr h
  have hl : lv_has ls 3 [(0, .ref bk)] := hl
  refine lv_iconst (v := 0) hx hb dX0_lettersSeen_0 (by decide) ?_
  refine lv_istore_n (lv' := [(1, .int 0), (0, .ref bk)]) hx hb dX0_lettersSeen_1 rfl hl (by decide) rfl (fun ls hl => ?_)
  refine lv_iconst (v := 0) hx hb dX0_lettersSeen_2 (by decide) ?_
  refine lv_istore_n (lv' := [(2, .int 0), (1, .int 0), (0, .ref bk)]) hx hb dX0_lettersSeen_3 rfl hl (by decide) rfl (fun ls hl => ?_)
  refine lv_iload_n hx hb dX0_lettersSeen_4 rfl (lv_at hl 0 rfl) ?_
  refine lv_bipush (v := 8) hx hb dX0_lettersSeen_5 (by decide) ?_
  refine lv_icmp_ge (tgt := 27) hx hb dX0_lettersSeen_7 (by decide) (fun c7 => absurd c7 (by decide)) (fun c7 => ?_)
  refine lv_aload_n hx hb dX0_lettersSeen_10 rfl (lv_at hl 2 rfl) ?_
  refine lv_iload_n hx hb dX0_lettersSeen_11 rfl (lv_at hl 0 rfl) ?_
  have hPc := hP.sub (ws' := [(bk, .inr (0, [.ref br, .ref bm, .int 0, .int 0])), (br, .inl (cR, 488, .inr (.inr (.inr (.inr (fun _ => none))))))]) [0, 1] rfl
  have hDc := hD.sub (ws' := [(bk, .inr (0, [.ref br, .ref bm, .int 0, .int 0])), (br, .inl (cR, 488, .inr (.inr (.inr (.inr (fun _ => none))))))]) [0, 1] (by decide) rfl
  refine ro (va_runV (As := [.int 0]) (rest := []) ⟨hx, hb, hml, hown, hts⟩ (c_rowSeen l D cI cR cM _ 0 bk br bm) (cwV 1 hts gX0_lettersSeen_X0_rowSeen rfl rfl rfl (by decide +kernel) ⟨Nat.le_of_ble_eq_true rfl, Nat.le_of_ble_eq_true rfl⟩) (pre_V hK hPc hDc 0 0 rfl rfl) rfl rfl hl.1 rfl (lv_room (Nat.le_of_ble_eq_true rfl)) dX0_lettersSeen_12 ⟨Nat.le_of_ble_eq_true rfl, Nat.le_of_ble_eq_true rfl⟩) hS hA hP (fun H locs hP hS => ?_)
  refine lv_ifnullN (tgt := 21) hx hb dX0_lettersSeen_15 (by decide) ?_
  refine lv_iinc (v := 1) (lv' := [(2, .int 1), (1, .int 0), (0, .ref bk)]) hx hb dX0_lettersSeen_21 hl (k := 0) rfl (by decide) (by decide) rfl (fun ls hl => ?_)
  refine lv_goto (tgt := 4) hx hb dX0_lettersSeen_24 (by decide) ?_
  refine lv_iload_n hx hb dX0_lettersSeen_4 rfl (lv_at hl 0 rfl) ?_
  refine lv_bipush (v := 8) hx hb dX0_lettersSeen_5 (by decide) ?_
  refine lv_icmp_ge (tgt := 27) hx hb dX0_lettersSeen_7 (by decide) (fun c7 => absurd c7 (by decide)) (fun c7 => ?_)
  refine lv_aload_n hx hb dX0_lettersSeen_10 rfl (lv_at hl 2 rfl) ?_
  refine lv_iload_n hx hb dX0_lettersSeen_11 rfl (lv_at hl 0 rfl) ?_
  have hPc := hP.sub (ws' := [(bk, .inr (0, [.ref br, .ref bm, .int 0, .int 0])), (br, .inl (cR, 488, .inr (.inr (.inr (.inr (fun _ => none))))))]) [0, 1] rfl
  have hDc := hD.sub (ws' := [(bk, .inr (0, [.ref br, .ref bm, .int 0, .int 0])), (br, .inl (cR, 488, .inr (.inr (.inr (.inr (fun _ => none))))))]) [0, 1] (by decide) rfl
  refine ro (va_runV (As := [.int 1]) (rest := []) ⟨hx, hb, hml, hown, hts⟩ (c_rowSeen l D cI cR cM _ 1 bk br bm) (cwV 1 hts gX0_lettersSeen_X0_rowSeen rfl rfl rfl (by decide +kernel) ⟨Nat.le_of_ble_eq_true rfl, Nat.le_of_ble_eq_true rfl⟩) (pre_V hK hPc hDc 0 0 rfl rfl) rfl rfl hl.1 rfl (lv_room (Nat.le_of_ble_eq_true rfl)) dX0_lettersSeen_12 ⟨Nat.le_of_ble_eq_true rfl, Nat.le_of_ble_eq_true rfl⟩) hS hA hP (fun H locs hP hS => ?_)
  refine lv_ifnullN (tgt := 21) hx hb dX0_lettersSeen_15 (by decide) ?_
  refine lv_iinc (v := 2) (lv' := [(2, .int 2), (1, .int 0), (0, .ref bk)]) hx hb dX0_lettersSeen_21 hl (k := 0) rfl (by decide) (by decide) rfl (fun ls hl => ?_)
  refine lv_goto (tgt := 4) hx hb dX0_lettersSeen_24 (by decide) ?_
  refine lv_iload_n hx hb dX0_lettersSeen_4 rfl (lv_at hl 0 rfl) ?_
  refine lv_bipush (v := 8) hx hb dX0_lettersSeen_5 (by decide) ?_
  refine lv_icmp_ge (tgt := 27) hx hb dX0_lettersSeen_7 (by decide) (fun c7 => absurd c7 (by decide)) (fun c7 => ?_)
  refine lv_aload_n hx hb dX0_lettersSeen_10 rfl (lv_at hl 2 rfl) ?_
  refine lv_iload_n hx hb dX0_lettersSeen_11 rfl (lv_at hl 0 rfl) ?_
  have hPc := hP.sub (ws' := [(bk, .inr (0, [.ref br, .ref bm, .int 0, .int 0])), (br, .inl (cR, 488, .inr (.inr (.inr (.inr (fun _ => none))))))]) [0, 1] rfl
  have hDc := hD.sub (ws' := [(bk, .inr (0, [.ref br, .ref bm, .int 0, .int 0])), (br, .inl (cR, 488, .inr (.inr (.inr (.inr (fun _ => none))))))]) [0, 1] (by decide) rfl
  refine ro (va_runV (As := [.int 2]) (rest := []) ⟨hx, hb, hml, hown, hts⟩ (c_rowSeen l D cI cR cM _ 2 bk br bm) (cwV 1 hts gX0_lettersSeen_X0_rowSeen rfl rfl rfl (by decide +kernel) ⟨Nat.le_of_ble_eq_true rfl, Nat.le_of_ble_eq_true rfl⟩) (pre_V hK hPc hDc 0 0 rfl rfl) rfl rfl hl.1 rfl (lv_room (Nat.le_of_ble_eq_true rfl)) dX0_lettersSeen_12 ⟨Nat.le_of_ble_eq_true rfl, Nat.le_of_ble_eq_true rfl⟩) hS hA hP (fun H locs hP hS => ?_)
  refine lv_ifnullN (tgt := 21) hx hb dX0_lettersSeen_15 (by decide) ?_
  refine lv_iinc (v := 3) (lv' := [(2, .int 3), (1, .int 0), (0, .ref bk)]) hx hb dX0_lettersSeen_21 hl (k := 0) rfl (by decide) (by decide) rfl (fun ls hl => ?_)
  refine lv_goto (tgt := 4) hx hb dX0_lettersSeen_24 (by decide) ?_
  refine lv_iload_n hx hb dX0_lettersSeen_4 rfl (lv_at hl 0 rfl) ?_
  refine lv_bipush (v := 8) hx hb dX0_lettersSeen_5 (by decide) ?_
  refine lv_icmp_ge (tgt := 27) hx hb dX0_lettersSeen_7 (by decide) (fun c7 => absurd c7 (by decide)) (fun c7 => ?_)
  refine lv_aload_n hx hb dX0_lettersSeen_10 rfl (lv_at hl 2 rfl) ?_
  refine lv_iload_n hx hb dX0_lettersSeen_11 rfl (lv_at hl 0 rfl) ?_
  have hPc := hP.sub (ws' := [(bk, .inr (0, [.ref br, .ref bm, .int 0, .int 0])), (br, .inl (cR, 488, .inr (.inr (.inr (.inr (fun _ => none))))))]) [0, 1] rfl
  have hDc := hD.sub (ws' := [(bk, .inr (0, [.ref br, .ref bm, .int 0, .int 0])), (br, .inl (cR, 488, .inr (.inr (.inr (.inr (fun _ => none))))))]) [0, 1] (by decide) rfl
  refine ro (va_runV (As := [.int 3]) (rest := []) ⟨hx, hb, hml, hown, hts⟩ (c_rowSeen l D cI cR cM _ 3 bk br bm) (cwV 1 hts gX0_lettersSeen_X0_rowSeen rfl rfl rfl (by decide +kernel) ⟨Nat.le_of_ble_eq_true rfl, Nat.le_of_ble_eq_true rfl⟩) (pre_V hK hPc hDc 0 0 rfl rfl) rfl rfl hl.1 rfl (lv_room (Nat.le_of_ble_eq_true rfl)) dX0_lettersSeen_12 ⟨Nat.le_of_ble_eq_true rfl, Nat.le_of_ble_eq_true rfl⟩) hS hA hP (fun H locs hP hS => ?_)
  refine lv_ifnullN (tgt := 21) hx hb dX0_lettersSeen_15 (by decide) ?_
  refine lv_iinc (v := 4) (lv' := [(2, .int 4), (1, .int 0), (0, .ref bk)]) hx hb dX0_lettersSeen_21 hl (k := 0) rfl (by decide) (by decide) rfl (fun ls hl => ?_)
  refine lv_goto (tgt := 4) hx hb dX0_lettersSeen_24 (by decide) ?_
  refine lv_iload_n hx hb dX0_lettersSeen_4 rfl (lv_at hl 0 rfl) ?_
  refine lv_bipush (v := 8) hx hb dX0_lettersSeen_5 (by decide) ?_
  refine lv_icmp_ge (tgt := 27) hx hb dX0_lettersSeen_7 (by decide) (fun c7 => absurd c7 (by decide)) (fun c7 => ?_)
  refine lv_aload_n hx hb dX0_lettersSeen_10 rfl (lv_at hl 2 rfl) ?_
  refine lv_iload_n hx hb dX0_lettersSeen_11 rfl (lv_at hl 0 rfl) ?_
  have hPc := hP.sub (ws' := [(bk, .inr (0, [.ref br, .ref bm, .int 0, .int 0])), (br, .inl (cR, 488, .inr (.inr (.inr (.inr (fun _ => none))))))]) [0, 1] rfl
  have hDc := hD.sub (ws' := [(bk, .inr (0, [.ref br, .ref bm, .int 0, .int 0])), (br, .inl (cR, 488, .inr (.inr (.inr (.inr (fun _ => none))))))]) [0, 1] (by decide) rfl
  refine ro (va_runV (As := [.int 4]) (rest := []) ⟨hx, hb, hml, hown, hts⟩ (c_rowSeen l D cI cR cM _ 4 bk br bm) (cwV 1 hts gX0_lettersSeen_X0_rowSeen rfl rfl rfl (by decide +kernel) ⟨Nat.le_of_ble_eq_true rfl, Nat.le_of_ble_eq_true rfl⟩) (pre_V hK hPc hDc 0 0 rfl rfl) rfl rfl hl.1 rfl (lv_room (Nat.le_of_ble_eq_true rfl)) dX0_lettersSeen_12 ⟨Nat.le_of_ble_eq_true rfl, Nat.le_of_ble_eq_true rfl⟩) hS hA hP (fun H locs hP hS => ?_)
  refine lv_ifnullN (tgt := 21) hx hb dX0_lettersSeen_15 (by decide) ?_
  refine lv_iinc (v := 5) (lv' := [(2, .int 5), (1, .int 0), (0, .ref bk)]) hx hb dX0_lettersSeen_21 hl (k := 0) rfl (by decide) (by decide) rfl (fun ls hl => ?_)
  refine lv_goto (tgt := 4) hx hb dX0_lettersSeen_24 (by decide) ?_
  refine lv_iload_n hx hb dX0_lettersSeen_4 rfl (lv_at hl 0 rfl) ?_
  refine lv_bipush (v := 8) hx hb dX0_lettersSeen_5 (by decide) ?_
  refine lv_icmp_ge (tgt := 27) hx hb dX0_lettersSeen_7 (by decide) (fun c7 => absurd c7 (by decide)) (fun c7 => ?_)
  refine lv_aload_n hx hb dX0_lettersSeen_10 rfl (lv_at hl 2 rfl) ?_
  refine lv_iload_n hx hb dX0_lettersSeen_11 rfl (lv_at hl 0 rfl) ?_
  have hPc := hP.sub (ws' := [(bk, .inr (0, [.ref br, .ref bm, .int 0, .int 0])), (br, .inl (cR, 488, .inr (.inr (.inr (.inr (fun _ => none))))))]) [0, 1] rfl
  have hDc := hD.sub (ws' := [(bk, .inr (0, [.ref br, .ref bm, .int 0, .int 0])), (br, .inl (cR, 488, .inr (.inr (.inr (.inr (fun _ => none))))))]) [0, 1] (by decide) rfl
  refine ro (va_runV (As := [.int 5]) (rest := []) ⟨hx, hb, hml, hown, hts⟩ (c_rowSeen l D cI cR cM _ 5 bk br bm) (cwV 1 hts gX0_lettersSeen_X0_rowSeen rfl rfl rfl (by decide +kernel) ⟨Nat.le_of_ble_eq_true rfl, Nat.le_of_ble_eq_true rfl⟩) (pre_V hK hPc hDc 0 0 rfl rfl) rfl rfl hl.1 rfl (lv_room (Nat.le_of_ble_eq_true rfl)) dX0_lettersSeen_12 ⟨Nat.le_of_ble_eq_true rfl, Nat.le_of_ble_eq_true rfl⟩) hS hA hP (fun H locs hP hS => ?_)
  refine lv_ifnullN (tgt := 21) hx hb dX0_lettersSeen_15 (by decide) ?_
  refine lv_iinc (v := 6) (lv' := [(2, .int 6), (1, .int 0), (0, .ref bk)]) hx hb dX0_lettersSeen_21 hl (k := 0) rfl (by decide) (by decide) rfl (fun ls hl => ?_)
  refine lv_goto (tgt := 4) hx hb dX0_lettersSeen_24 (by decide) ?_
  refine lv_iload_n hx hb dX0_lettersSeen_4 rfl (lv_at hl 0 rfl) ?_
  refine lv_bipush (v := 8) hx hb dX0_lettersSeen_5 (by decide) ?_
  refine lv_icmp_ge (tgt := 27) hx hb dX0_lettersSeen_7 (by decide) (fun c7 => absurd c7 (by decide)) (fun c7 => ?_)
  refine lv_aload_n hx hb dX0_lettersSeen_10 rfl (lv_at hl 2 rfl) ?_
  refine lv_iload_n hx hb dX0_lettersSeen_11 rfl (lv_at hl 0 rfl) ?_
  have hPc := hP.sub (ws' := [(bk, .inr (0, [.ref br, .ref bm, .int 0, .int 0])), (br, .inl (cR, 488, .inr (.inr (.inr (.inr (fun _ => none))))))]) [0, 1] rfl
  have hDc := hD.sub (ws' := [(bk, .inr (0, [.ref br, .ref bm, .int 0, .int 0])), (br, .inl (cR, 488, .inr (.inr (.inr (.inr (fun _ => none))))))]) [0, 1] (by decide) rfl
  refine ro (va_runV (As := [.int 6]) (rest := []) ⟨hx, hb, hml, hown, hts⟩ (c_rowSeen l D cI cR cM _ 6 bk br bm) (cwV 1 hts gX0_lettersSeen_X0_rowSeen rfl rfl rfl (by decide +kernel) ⟨Nat.le_of_ble_eq_true rfl, Nat.le_of_ble_eq_true rfl⟩) (pre_V hK hPc hDc 0 0 rfl rfl) rfl rfl hl.1 rfl (lv_room (Nat.le_of_ble_eq_true rfl)) dX0_lettersSeen_12 ⟨Nat.le_of_ble_eq_true rfl, Nat.le_of_ble_eq_true rfl⟩) hS hA hP (fun H locs hP hS => ?_)
  refine lv_ifnullN (tgt := 21) hx hb dX0_lettersSeen_15 (by decide) ?_
  refine lv_iinc (v := 7) (lv' := [(2, .int 7), (1, .int 0), (0, .ref bk)]) hx hb dX0_lettersSeen_21 hl (k := 0) rfl (by decide) (by decide) rfl (fun ls hl => ?_)
  refine lv_goto (tgt := 4) hx hb dX0_lettersSeen_24 (by decide) ?_
  refine lv_iload_n hx hb dX0_lettersSeen_4 rfl (lv_at hl 0 rfl) ?_
  refine lv_bipush (v := 8) hx hb dX0_lettersSeen_5 (by decide) ?_
  refine lv_icmp_ge (tgt := 27) hx hb dX0_lettersSeen_7 (by decide) (fun c7 => absurd c7 (by decide)) (fun c7 => ?_)
  refine lv_aload_n hx hb dX0_lettersSeen_10 rfl (lv_at hl 2 rfl) ?_
  refine lv_iload_n hx hb dX0_lettersSeen_11 rfl (lv_at hl 0 rfl) ?_
  have hPc := hP.sub (ws' := [(bk, .inr (0, [.ref br, .ref bm, .int 0, .int 0])), (br, .inl (cR, 488, .inr (.inr (.inr (.inr (fun _ => none))))))]) [0, 1] rfl
  have hDc := hD.sub (ws' := [(bk, .inr (0, [.ref br, .ref bm, .int 0, .int 0])), (br, .inl (cR, 488, .inr (.inr (.inr (.inr (fun _ => none))))))]) [0, 1] (by decide) rfl
  refine ro (va_runV (As := [.int 7]) (rest := []) ⟨hx, hb, hml, hown, hts⟩ (c_rowSeen l D cI cR cM _ 7 bk br bm) (cwV 1 hts gX0_lettersSeen_X0_rowSeen rfl rfl rfl (by decide +kernel) ⟨Nat.le_of_ble_eq_true rfl, Nat.le_of_ble_eq_true rfl⟩) (pre_V hK hPc hDc 0 0 rfl rfl) rfl rfl hl.1 rfl (lv_room (Nat.le_of_ble_eq_true rfl)) dX0_lettersSeen_12 ⟨Nat.le_of_ble_eq_true rfl, Nat.le_of_ble_eq_true rfl⟩) hS hA hP (fun H locs hP hS => ?_)
  refine lv_ifnullN (tgt := 21) hx hb dX0_lettersSeen_15 (by decide) ?_
  refine lv_iinc (v := 8) (lv' := [(2, .int 8), (1, .int 0), (0, .ref bk)]) hx hb dX0_lettersSeen_21 hl (k := 0) rfl (by decide) (by decide) rfl (fun ls hl => ?_)
  refine lv_goto (tgt := 4) hx hb dX0_lettersSeen_24 (by decide) ?_
  refine lv_iload_n hx hb dX0_lettersSeen_4 rfl (lv_at hl 0 rfl) ?_
  refine lv_bipush (v := 8) hx hb dX0_lettersSeen_5 (by decide) ?_
  refine lv_icmp_ge (tgt := 27) hx hb dX0_lettersSeen_7 (by decide) (fun c7 => ?_) (fun c7 => absurd (by decide) c7)
  refine lv_iload_n hx hb dX0_lettersSeen_27 rfl (lv_at hl 1 rfl) ?_
  exact ro_iret hx hb hr hlocks hS (rfl) hQ dX0_lettersSeen_28
theorem jx_out6 {x : Int32} (e0 : ¬ x = 0) (e1 : ¬ x = 1) (e2 : ¬ x = 2) (e3 : ¬ x = 3) (e4 : ¬ x = 4) (e5 : ¬ x = 5) : x.toInt < 0 ∨ 5 < x.toInt := by
  have h0 := lv_neT (a := 0) e0 rfl
  have h1 := lv_neT (a := 1) e1 rfl
  have h2 := lv_neT (a := 2) e2 rfl
  have h3 := lv_neT (a := 3) e3 rfl
  have h4 := lv_neT (a := 4) e4 rfl
  have h5 := lv_neT (a := 5) e5 rfl
  omega
set_option maxRecDepth 100000 in
set_option maxHeartbeats 4000000 in
theorem c_about (l : Launch) (D : va_G) (cI cR cM : ClassId) (sz : Nat) (i0 : Int32) {jn : Nat} (hh : Nat) (x3 x4 x5 x7 : Value) (bk br bm : Nat) (sh : Nat) (y0 y1 y2 : Value) (tp tb : Nat) : Met l yX10_about wsX10_about ({ frames := 3, cells := 0, slots := 0, locals := 65 }) (P0 D cI cR cM [.ref hh, .int i0] sz [(hh, .inr (10, [.int (nI jn), .ref tp, .ref bk, x3, x4, x5, .ref sh, x7])), (bk, .inr (0, [.ref br, .ref bm, .int 0, .int 0])), (br, .inl (cR, 488, .inr (.inr (.inr (.inr (fun _ => none)))))), (sh, .inr (6, [y0, y1, .int 0, y2])), (tp, .inr (7, [.ref tb, .int 0]))]) (QE (some (.int (abI jn i0))) sz) 0 0 (va_A [] sz) := by
  refine go (cc := cX10_about) (maxL := 2) (ret := (some .int)) (by decide) rfl (Nat.le_of_ble_eq_true rfl) ?_
  intro p e s m below meth c ls args Q hQ hsz hx hb hr hml hts hown hlocks hnm hP hK hD hl
  subst hsz
  have hS : va_S (va_A [] s.heap.size) s.heap s.heap [] := va_S.rf
  have hA : ∀ q, s.heap.size ≤ q → va_A [] s.heap.size q := fun q h => Or.inr h
  have hl : lv_has ls 2 [(0, .ref hh), (1, .int i0)] := hl
  refine lv_iload_n hx hb dX10_about_0 rfl (lv_at hl 1 rfl) ?_
  rcases Classical.em (i0 = 0) with e0 | e0
  · refine lv_tableIn (tgt := 40) hx hb dX10_about_1 (by rw [e0]; decide) (by rw [e0]; decide) (by rw [e0]; rfl) (by decide) ?_
    refine lv_aload_n hx hb dX10_about_40 rfl (lv_at hl 0 rfl) ?_
    refine va_get (D := D) (ci := 10) (v := .int (nI jn)) (C := RX10) (T := TX10) (N := 8) hx hb hts (by decide +kernel) hown hK.1 hP 0 rfl rfl 0 (by decide) (hts (.fieldLink RX10 18 "JugglingHall" "jugglers" "I") (by decide +kernel)) (fun _ h9 => h9) rfl dX10_about_41 ?_
    exact ro_iret hx hb hr hlocks hS (by unfold abI; rw [if_pos e0]) hQ dX10_about_44
  · rcases Classical.em (i0 = 1) with e1 | e1
    · refine lv_tableIn (tgt := 45) hx hb dX10_about_1 (by rw [e1]; decide) (by rw [e1]; decide) (by rw [e1]; rfl) (by decide) ?_
      refine lv_aload_n hx hb dX10_about_45 rfl (lv_at hl 0 rfl) ?_
      refine va_get (D := D) (ci := 10) (v := .ref bk) (C := RX10) (T := TX10) (N := 8) hx hb hts (by decide +kernel) hown hK.1 hP 0 rfl rfl 2 (by decide) (hts (.fieldLink RX10 32 "JugglingHall" "book" "LJugglingHall$Book;") (by decide +kernel)) (fun _ h9 => h9) rfl dX10_about_46 ?_
      refine va_getN (D := D) (ci := 0) (v := .int 0) (C := RX0) (T := TX0) (N := 4) (host := "JugglingHall") hx hb hts (by decide +kernel) hown hK.1 hP 1 rfl rfl 2 (by decide) (hK.nw (.fieldLinkNest RX10 99 "JugglingHall$Book" "time" "I" "JugglingHall") (by decide +kernel) rfl) (fun _ h9 => h9) rfl dX10_about_49 ?_
      exact ro_iret hx hb hr hlocks hS (by unfold abI; rw [if_neg e0, if_pos e1]) hQ dX10_about_52
    · rcases Classical.em (i0 = 2) with e2 | e2
      · refine lv_tableIn (tgt := 53) hx hb dX10_about_1 (by rw [e2]; decide) (by rw [e2]; decide) (by rw [e2]; rfl) (by decide) ?_
        refine lv_aload_n hx hb dX10_about_53 rfl (lv_at hl 0 rfl) ?_
        refine va_get (D := D) (ci := 10) (v := .ref bk) (C := RX10) (T := TX10) (N := 8) hx hb hts (by decide +kernel) hown hK.1 hP 0 rfl rfl 2 (by decide) (hts (.fieldLink RX10 32 "JugglingHall" "book" "LJugglingHall$Book;") (by decide +kernel)) (fun _ h9 => h9) rfl dX10_about_54 ?_
        refine va_getN (D := D) (ci := 0) (v := .int 0) (C := RX0) (T := TX0) (N := 4) (host := "JugglingHall") hx hb hts (by decide +kernel) hown hK.1 hP 1 rfl rfl 3 (by decide) (hK.nw (.fieldLinkNest RX10 108 "JugglingHall$Book" "lookTime" "I" "JugglingHall") (by decide +kernel) rfl) (fun _ h9 => h9) rfl dX10_about_57 ?_
        exact ro_iret hx hb hr hlocks hS (by unfold abI; rw [if_neg e0, if_neg e1, if_pos e2]) hQ dX10_about_60
      · rcases Classical.em (i0 = 3) with e3 | e3
        · refine lv_tableIn (tgt := 61) hx hb dX10_about_1 (by rw [e3]; decide) (by rw [e3]; decide) (by rw [e3]; rfl) (by decide) ?_
          refine lv_aload_n hx hb dX10_about_61 rfl (lv_at hl 0 rfl) ?_
          refine va_get (D := D) (ci := 10) (v := .ref tp) (C := RX10) (T := TX10) (N := 8) hx hb hts (by decide +kernel) hown hK.1 hP 0 rfl rfl 1 (by decide) (hts (.fieldLink RX10 25 "JugglingHall" "tape" "LJugglingHall$Tape;") (by decide +kernel)) (fun _ h9 => h9) rfl dX10_about_62 ?_
          refine va_getN (D := D) (ci := 7) (v := .int 0) (C := RX7) (T := TX7) (N := 2) (host := "JugglingHall") hx hb hts (by decide +kernel) hown hK.1 hP 4 rfl rfl 1 (by decide) (hK.nw (.fieldLinkNest RX10 86 "JugglingHall$Tape" "length" "I" "JugglingHall") (by decide +kernel) rfl) (fun _ h9 => h9) rfl dX10_about_65 ?_
          exact ro_iret hx hb hr hlocks hS (by unfold abI; rw [if_neg e0, if_neg e1, if_neg e2, if_pos e3]) hQ dX10_about_68
        · rcases Classical.em (i0 = 4) with e4 | e4
          · refine lv_tableIn (tgt := 69) hx hb dX10_about_1 (by rw [e4]; decide) (by rw [e4]; decide) (by rw [e4]; rfl) (by decide) ?_
            refine lv_aload_n hx hb dX10_about_69 rfl (lv_at hl 0 rfl) ?_
            refine va_get (D := D) (ci := 10) (v := .ref sh) (C := RX10) (T := TX10) (N := 8) hx hb hts (by decide +kernel) hown hK.1 hP 0 rfl rfl 6 (by decide) (hts (.fieldLink RX10 67 "JugglingHall" "sheet" "LJugglingHall$Sheet;") (by decide +kernel)) (fun _ h9 => h9) rfl dX10_about_70 ?_
            refine va_getN (D := D) (ci := 6) (v := .int 0) (C := RX6) (T := TX6) (N := 4) (host := "JugglingHall") hx hb hts (by decide +kernel) hown hK.1 hP 3 rfl rfl 2 (by decide) (hK.nw (.fieldLinkNest RX10 200 "JugglingHall$Sheet" "length" "I" "JugglingHall") (by decide +kernel) rfl) (fun _ h9 => h9) rfl dX10_about_73 ?_
            exact ro_iret hx hb hr hlocks hS (by unfold abI; rw [if_neg e0, if_neg e1, if_neg e2, if_neg e3, if_pos e4]) hQ dX10_about_76
          · rcases Classical.em (i0 = 5) with e5 | e5
            · refine lv_tableIn (tgt := 77) hx hb dX10_about_1 (by rw [e5]; decide) (by rw [e5]; decide) (by rw [e5]; rfl) (by decide) ?_
              refine lv_aload_n hx hb dX10_about_77 rfl (lv_at hl 0 rfl) ?_
              refine va_get (D := D) (ci := 10) (v := .ref bk) (C := RX10) (T := TX10) (N := 8) hx hb hts (by decide +kernel) hown hK.1 hP 0 rfl rfl 2 (by decide) (hts (.fieldLink RX10 32 "JugglingHall" "book" "LJugglingHall$Book;") (by decide +kernel)) (fun _ h9 => h9) rfl dX10_about_78 ?_
              have hPc := hP.sub (ws' := [(bk, .inr (0, [.ref br, .ref bm, .int 0, .int 0])), (br, .inl (cR, 488, .inr (.inr (.inr (.inr (fun _ => none))))))]) [1, 2] rfl
              have hDc := hD.sub (ws' := [(bk, .inr (0, [.ref br, .ref bm, .int 0, .int 0])), (br, .inl (cR, 488, .inr (.inr (.inr (.inr (fun _ => none))))))]) [1, 2] (by decide) rfl
              refine ro (va_runV (As := []) (rest := []) ⟨hx, hb, hml, hown, hts⟩ (c_letters l D cI cR cM _ bk br bm) (cwV 0 hts gX10_about_X0_lettersSeen rfl rfl rfl (by decide +kernel) ⟨Nat.le_of_ble_eq_true rfl, Nat.le_of_ble_eq_true rfl⟩) (pre_V hK hPc hDc 0 0 rfl rfl) rfl rfl hl.1 rfl (lv_room (Nat.le_of_ble_eq_true rfl)) dX10_about_81 ⟨Nat.le_of_ble_eq_true rfl, Nat.le_of_ble_eq_true rfl⟩) hS hA hP (fun H locs hP hS => ?_)
              exact ro_iret hx hb hr hlocks hS (by unfold abI; rw [if_neg e0, if_neg e1, if_neg e2, if_neg e3, if_neg e4, if_pos e5]) hQ dX10_about_84
            · refine lv_tableOut (tgt := 85) hx hb dX10_about_1 (jx_out6 e0 e1 e2 e3 e4 e5) (by decide) ?_
              refine lv_iconst (v := (-1)) hx hb dX10_about_85 (by decide) ?_
              exact ro_iret hx hb hr hlocks hS (by unfold abI; rw [if_neg e0, if_neg e1, if_neg e2, if_neg e3, if_neg e4, if_neg e5]) hQ dX10_about_86
set_option maxRecDepth 100000 in
set_option maxHeartbeats 4000000 in
theorem c_fault (l : Launch) (D : va_G) (cI cR cM : ClassId) (sz : Nat) (i0 : Int32) (hh : Nat) (x0 x1 x2 x4 x5 x6 x7 : Value) (rd : Nat) (y0 y1 y2 y3 y4 y5 y6 y7 y8 : Value) : Met l yX10_fault wsX10_fault ({ frames := 0, cells := 0, slots := 0, locals := 0 }) (P0 D cI cR cM [.ref hh, .int i0] sz [(hh, .inr (10, [x0, x1, x2, .ref rd, x4, x5, x6, x7])), (rd, .inr (4, [y0, y1, y2, y3, y4, y5, y6, y7, y8, .int (-1), .int (-1)]))]) (QE (some (.int (-1))) sz) 0 0 (va_A [] sz) := by
  refine go (cc := cX10_fault) (maxL := 2) (ret := (some .int)) (by decide) rfl (Nat.le_of_ble_eq_true rfl) ?_
  intro p e s m below meth c ls args Q hQ hsz hx hb hr hml hts hown hlocks hnm hP hK hD hl
  subst hsz
  have hS : va_S (va_A [] s.heap.size) s.heap s.heap [] := va_S.rf
  have hA : ∀ q, s.heap.size ≤ q → va_A [] s.heap.size q := fun q h => Or.inr h
  have hl : lv_has ls 2 [(0, .ref hh), (1, .int i0)] := hl
  refine lv_iload_n hx hb dX10_fault_0 rfl (lv_at hl 1 rfl) ?_
  refine lv_if_ne (tgt := 12) hx hb dX10_fault_1 (by decide) (fun c1 => ?_) (fun c1 => ?_)
  · refine lv_iload_n hx hb dX10_fault_12 rfl (lv_at hl 1 rfl) ?_
    refine lv_iconst (v := 1) hx hb dX10_fault_13 (by decide) ?_
    refine lv_icmp_ne (tgt := 27) hx hb dX10_fault_14 (by decide) (fun c14 => ?_) (fun c14 => ?_)
    · refine lv_iconst (v := (-1)) hx hb dX10_fault_27 (by decide) ?_
      exact ro_iret hx hb hr hlocks hS (rfl) hQ dX10_fault_28
    · refine lv_aload_n hx hb dX10_fault_17 rfl (lv_at hl 0 rfl) ?_
      refine va_get (D := D) (ci := 10) (v := .ref rd) (C := RX10) (T := TX10) (N := 8) hx hb hts (by decide +kernel) hown hK.1 hP 0 rfl rfl 3 (by decide) (hts (.fieldLink RX10 46 "JugglingHall" "reader" "LJugglingHall$Reader;") (by decide +kernel)) (fun _ h9 => h9) rfl dX10_fault_18 ?_
      refine va_getN (D := D) (ci := 4) (v := .int (-1)) (C := RX4) (T := TX4) (N := 11) (host := "JugglingHall") hx hb hts (by decide +kernel) hown hK.1 hP 1 rfl rfl 10 (by decide) (hK.nw (.fieldLinkNest RX10 105 "JugglingHall$Reader" "place" "I" "JugglingHall") (by decide +kernel) rfl) (fun _ h9 => h9) rfl dX10_fault_21 ?_
      refine lv_goto (tgt := 28) hx hb dX10_fault_24 (by decide) ?_
      exact ro_iret hx hb hr hlocks hS (rfl) hQ dX10_fault_28
  · refine lv_aload_n hx hb dX10_fault_4 rfl (lv_at hl 0 rfl) ?_
    refine va_get (D := D) (ci := 10) (v := .ref rd) (C := RX10) (T := TX10) (N := 8) hx hb hts (by decide +kernel) hown hK.1 hP 0 rfl rfl 3 (by decide) (hts (.fieldLink RX10 46 "JugglingHall" "reader" "LJugglingHall$Reader;") (by decide +kernel)) (fun _ h9 => h9) rfl dX10_fault_5 ?_
    refine va_getN (D := D) (ci := 4) (v := .int (-1)) (C := RX4) (T := TX4) (N := 11) (host := "JugglingHall") hx hb hts (by decide +kernel) hown hK.1 hP 1 rfl rfl 9 (by decide) (hK.nw (.fieldLinkNest RX10 102 "JugglingHall$Reader" "fault" "I" "JugglingHall") (by decide +kernel) rfl) (fun _ h9 => h9) rfl dX10_fault_8 ?_
    exact ro_iret hx hb hr hlocks hS (rfl) hQ dX10_fault_11
set_option maxRecDepth 100000 in
set_option maxHeartbeats 4000000 in
theorem c_look (l : Launch) (D : va_G) (cI cR cM : ClassId) (sz : Nat) (i0 : Int32) (hh : Nat) (x0 x1 x3 x4 x5 x6 x7 : Value) (bk br bm : Nat) : Met l yX10_look wsX10_look ({ frames := 0, cells := 0, slots := 0, locals := 0 }) (P0 D cI cR cM [.ref hh, .int i0] sz [(hh, .inr (10, [x0, x1, .ref bk, x3, x4, x5, x6, x7])), (bk, .inr (0, [.ref br, .ref bm, .int 0, .int 0]))]) (QG (S := Unit) (fun _ => some (.int (if i0 = 0 then 1 else 0))) (fun _ => []) (fun _ => True) D (va_A [(hh, .inr (10, [x0, x1, .ref bk, x3, x4, x5, x6, x7])), (bk, .inr (0, [.ref br, .ref bm, .int 0, .int 0]))] sz)) 0 0 (va_A [(hh, .inr (10, [x0, x1, .ref bk, x3, x4, x5, x6, x7])), (bk, .inr (0, [.ref br, .ref bm, .int 0, .int 0]))] sz) := by
  refine go (cc := cX10_look) (maxL := 2) (ret := (some .boolean)) (by decide) rfl (Nat.le_of_ble_eq_true rfl) ?_
  intro p e s m below meth c ls args Q hQ hsz hx hb hr hml hts hown hlocks hnm hP hK hD hl
  subst hsz
  have hD := hD.self (sz := s.heap.size)
  generalize hAe : va_A [(hh, .inr (10, [x0, x1, .ref bk, x3, x4, x5, x6, x7])), (bk, .inr (0, [.ref br, .ref bm, .int 0, .int 0]))] s.heap.size = A at hD hQ
  have hA : ∀ q, s.heap.size ≤ q → A q := fun q h => by rw [← hAe]; exact Or.inr h
  have hS : va_S A s.heap s.heap [] := va_S.rf
  have hl : lv_has ls 2 [(0, .ref hh), (1, .int i0)] := hl
  refine lv_iload_n hx hb dX10_look_0 rfl (lv_at hl 1 rfl) ?_
  refine lv_if_lt (tgt := 15) hx hb dX10_look_1 (by decide) (fun c1 => ?_) (fun c1 => ?_)
  · refine lv_iconst (v := 0) hx hb dX10_look_15 (by decide) ?_
    exact g_zret () hx hb hr hlocks hS (by decide) (by rw [if_neg (fun q => absurd c1 (by rw [q]; decide))]) trivial va_P_nil va_D_nil hQ (Nat.le_of_ble_eq_true rfl) (Nat.le_of_ble_eq_true rfl) dX10_look_16
  · refine lv_iload_n hx hb dX10_look_4 rfl (lv_at hl 1 rfl) ?_
    refine lv_aload_n hx hb dX10_look_5 rfl (lv_at hl 0 rfl) ?_
    refine va_get (D := D) (ci := 10) (v := .ref bk) (C := RX10) (T := TX10) (N := 8) hx hb hts (by decide +kernel) hown hK.1 hP 0 rfl rfl 2 (by decide) (hts (.fieldLink RX10 32 "JugglingHall" "book" "LJugglingHall$Book;") (by decide +kernel)) (fun _ h9 => h9) rfl dX10_look_6 ?_
    refine va_getN (D := D) (ci := 0) (v := .int 0) (C := RX0) (T := TX0) (N := 4) (host := "JugglingHall") hx hb hts (by decide +kernel) hown hK.1 hP 1 rfl rfl 2 (by decide) (hK.nw (.fieldLinkNest RX10 99 "JugglingHall$Book" "time" "I" "JugglingHall") (by decide +kernel) rfl) (fun _ h9 => h9) rfl dX10_look_9 ?_
    refine lv_icmp_le (tgt := 17) hx hb dX10_look_12 (by decide) (fun c12 => ?_) (fun c12 => ?_)
    · refine lv_aload_n hx hb dX10_look_17 rfl (lv_at hl 0 rfl) ?_
      refine va_get (D := D) (ci := 10) (v := .ref bk) (C := RX10) (T := TX10) (N := 8) hx hb hts (by decide +kernel) hown hK.1 hP 0 rfl rfl 2 (by decide) (hts (.fieldLink RX10 32 "JugglingHall" "book" "LJugglingHall$Book;") (by decide +kernel)) (fun _ h9 => h9) rfl dX10_look_18 ?_
      refine lv_iload_n hx hb dX10_look_21 rfl (lv_at hl 1 rfl) ?_
      refine va_putN (D := D) (ci := 0) (v := .int i0) (ty := .int) (C := RX0) (T := TX0) (N := 4) (host := "JugglingHall") hx hb hts (by decide +kernel) tyX0 tyX0_ok nmX0 hown hK.1 hP hD hS 1 rfl rfl 3 (by decide) (hK.nw (.fieldLinkNest RX10 108 "JugglingHall$Book" "lookTime" "I" "JugglingHall") (by decide +kernel) rfl) (fun _ h9 => h9) rfl (by decide +kernel) rfl rfl (Nat.le_of_ble_eq_true rfl) dX10_look_22 (fun H locs hP hD hS => ?_)
      have hP : va_P D vwCl [(hh, .inr (10, [x0, x1, .ref bk, x3, x4, x5, x6, x7])), (bk, .inr (0, [.ref br, .ref bm, .int 0, .int i0]))] H := hP
      have hD : va_D A [(hh, .inr (10, [x0, x1, .ref bk, x3, x4, x5, x6, x7])), (bk, .inr (0, [.ref br, .ref bm, .int 0, .int i0]))] := hD
      refine lv_iconst (v := 1) hx hb dX10_look_25 (by decide) ?_
      exact g_zret () hx hb hr hlocks hS (by decide) (by rw [if_pos (Int32.le_antisymm c12 (Int32.not_lt.mp c1))]) trivial va_P_nil va_D_nil hQ (Nat.le_of_ble_eq_true rfl) (Nat.le_of_ble_eq_true rfl) dX10_look_26
    · refine lv_iconst (v := 0) hx hb dX10_look_15 (by decide) ?_
      exact g_zret () hx hb hr hlocks hS (by decide) (by rw [if_neg (fun q => c12 (by rw [q]; decide))]) trivial va_P_nil va_D_nil hQ (Nat.le_of_ble_eq_true rfl) (Nat.le_of_ble_eq_true rfl) dX10_look_16
set_option maxRecDepth 100000 in
set_option maxHeartbeats 4000000 in
theorem c_end (l : Launch) (D : va_G) (cI cR cM : ClassId) (sz : Nat) (i0 : Int32) (hh : Nat) (x0 x2 x3 x4 x5 x6 x7 : Value) (tp tb : Nat) : Met l yX10_end wsX10_end ({ frames := 0, cells := 0, slots := 0, locals := 0 }) (P0 D cI cR cM [.ref hh, .int i0] sz [(hh, .inr (10, [x0, .ref tp, x2, x3, x4, x5, x6, x7])), (tp, .inr (7, [.ref tb, .int 0]))]) (QG (S := Unit) (fun _ => some (.int (if i0 = 0 then 0 else -1))) (fun _ => []) (fun _ => True) D (va_A [(hh, .inr (10, [x0, .ref tp, x2, x3, x4, x5, x6, x7])), (tp, .inr (7, [.ref tb, .int 0]))] sz)) 0 0 (va_A [(hh, .inr (10, [x0, .ref tp, x2, x3, x4, x5, x6, x7])), (tp, .inr (7, [.ref tb, .int 0]))] sz) := by
  refine go (cc := cX10_end) (maxL := 2) (ret := (some .int)) (by decide) rfl (Nat.le_of_ble_eq_true rfl) ?_
  intro p e s m below meth c ls args Q hQ hsz hx hb hr hml hts hown hlocks hnm hP hK hD hl
  subst hsz
  have hD := hD.self (sz := s.heap.size)
  generalize hAe : va_A [(hh, .inr (10, [x0, .ref tp, x2, x3, x4, x5, x6, x7])), (tp, .inr (7, [.ref tb, .int 0]))] s.heap.size = A at hD hQ
  have hA : ∀ q, s.heap.size ≤ q → A q := fun q h => by rw [← hAe]; exact Or.inr h
  have hS : va_S A s.heap s.heap [] := va_S.rf
  have hl : lv_has ls 2 [(0, .ref hh), (1, .int i0)] := hl
  refine lv_iload_n hx hb dX10_end_0 rfl (lv_at hl 1 rfl) ?_
  refine lv_if_lt (tgt := 15) hx hb dX10_end_1 (by decide) (fun c1 => ?_) (fun c1 => ?_)
  · refine lv_iconst (v := (-1)) hx hb dX10_end_15 (by decide) ?_
    exact g_iret () hx hb hr hlocks hS (by rw [if_neg (fun q => absurd c1 (by rw [q]; decide))]) trivial va_P_nil va_D_nil hQ (Nat.le_of_ble_eq_true rfl) (Nat.le_of_ble_eq_true rfl) dX10_end_16
  · refine lv_iload_n hx hb dX10_end_4 rfl (lv_at hl 1 rfl) ?_
    refine lv_aload_n hx hb dX10_end_5 rfl (lv_at hl 0 rfl) ?_
    refine va_get (D := D) (ci := 10) (v := .ref tp) (C := RX10) (T := TX10) (N := 8) hx hb hts (by decide +kernel) hown hK.1 hP 0 rfl rfl 1 (by decide) (hts (.fieldLink RX10 25 "JugglingHall" "tape" "LJugglingHall$Tape;") (by decide +kernel)) (fun _ h9 => h9) rfl dX10_end_6 ?_
    refine va_getN (D := D) (ci := 7) (v := .int 0) (C := RX7) (T := TX7) (N := 2) (host := "JugglingHall") hx hb hts (by decide +kernel) hown hK.1 hP 1 rfl rfl 1 (by decide) (hK.nw (.fieldLinkNest RX10 86 "JugglingHall$Tape" "length" "I" "JugglingHall") (by decide +kernel) rfl) (fun _ h9 => h9) rfl dX10_end_9 ?_
    refine lv_icmp_le (tgt := 17) hx hb dX10_end_12 (by decide) (fun c12 => ?_) (fun c12 => ?_)
    · refine lv_aload_n hx hb dX10_end_17 rfl (lv_at hl 0 rfl) ?_
      refine va_get (D := D) (ci := 10) (v := .ref tp) (C := RX10) (T := TX10) (N := 8) hx hb hts (by decide +kernel) hown hK.1 hP 0 rfl rfl 1 (by decide) (hts (.fieldLink RX10 25 "JugglingHall" "tape" "LJugglingHall$Tape;") (by decide +kernel)) (fun _ h9 => h9) rfl dX10_end_18 ?_
      refine lv_iload_n hx hb dX10_end_21 rfl (lv_at hl 1 rfl) ?_
      refine va_putN (D := D) (ci := 7) (v := .int i0) (ty := .int) (C := RX7) (T := TX7) (N := 2) (host := "JugglingHall") hx hb hts (by decide +kernel) tyX7 tyX7_ok nmX7 hown hK.1 hP hD hS 1 rfl rfl 1 (by decide) (hK.nw (.fieldLinkNest RX10 86 "JugglingHall$Tape" "length" "I" "JugglingHall") (by decide +kernel) rfl) (fun _ h9 => h9) rfl (by decide +kernel) rfl rfl (Nat.le_of_ble_eq_true rfl) dX10_end_22 (fun H locs hP hD hS => ?_)
      have hP : va_P D vwCl [(hh, .inr (10, [x0, .ref tp, x2, x3, x4, x5, x6, x7])), (tp, .inr (7, [.ref tb, .int i0]))] H := hP
      have hD : va_D A [(hh, .inr (10, [x0, .ref tp, x2, x3, x4, x5, x6, x7])), (tp, .inr (7, [.ref tb, .int i0]))] := hD
      refine lv_iload_n hx hb dX10_end_25 rfl (lv_at hl 1 rfl) ?_
      exact g_iret () hx hb hr hlocks hS (by rw [if_pos (Int32.le_antisymm c12 (Int32.not_lt.mp c1)), Int32.le_antisymm c12 (Int32.not_lt.mp c1)]) trivial va_P_nil va_D_nil hQ (Nat.le_of_ble_eq_true rfl) (Nat.le_of_ble_eq_true rfl) dX10_end_26
    · refine lv_iconst (v := (-1)) hx hb dX10_end_15 (by decide) ?_
      exact g_iret () hx hb hr hlocks hS (by rw [if_neg (fun q => c12 (by rw [q]; decide))]) trivial va_P_nil va_D_nil hQ (Nat.le_of_ble_eq_true rfl) (Nat.le_of_ble_eq_true rfl) dX10_end_16
set_option maxRecDepth 100000 in
set_option maxHeartbeats 4000000 in
theorem c_hasRoom (l : Launch) (D : va_G) (cI cR cM : ClassId) (sz : Nat) (tp tb : Nat) : Met l yX7_hasRoom wsX7_hasRoom ({ frames := 0, cells := 0, slots := 0, locals := 0 }) (P0 D cI cR cM [.ref tp, .int 20] sz [(tp, .inr (7, [.ref tb, .int 0])), (tb, .inl (cI, 300, .inl (fun _ => 0)))]) (QE (some (.int 1)) sz) 0 0 (va_A [] sz) := by
  refine go (cc := cX7_hasRoom) (maxL := 2) (ret := (some .boolean)) (by decide) rfl (Nat.le_of_ble_eq_true rfl) ?_
  intro p e s m below meth c ls args Q hQ hsz hx hb hr hml hts hown hlocks hnm hP hK hD hl
  subst hsz
  have hS : va_S (va_A [] s.heap.size) s.heap s.heap [] := va_S.rf
  have hA : ∀ q, s.heap.size ≤ q → va_A [] s.heap.size q := fun q h => Or.inr h
  have hl : lv_has ls 2 [(0, .ref tp), (1, .int 20)] := hl
  refine lv_aload_n hx hb dX7_hasRoom_0 rfl (lv_at hl 0 rfl) ?_
  refine va_get (D := D) (ci := 7) (v := .int 0) (C := RX7) (T := TX7) (N := 2) hx hb hts (by decide +kernel) hown hK.1 hP 0 rfl rfl 1 (by decide) (hts (.fieldLink RX7 15 "JugglingHall$Tape" "length" "I") (by decide +kernel)) (fun _ h9 => h9) rfl dX7_hasRoom_1 ?_
  refine lv_iload_n hx hb dX7_hasRoom_4 rfl (lv_at hl 1 rfl) ?_
  refine lv_iadd hx hb dX7_hasRoom_5 ?_
  refine lv_eqi (y := 20) (by decide) ?_
  refine lv_aload_n hx hb dX7_hasRoom_6 rfl (lv_at hl 0 rfl) ?_
  refine va_get (D := D) (ci := 7) (v := .ref tb) (C := RX7) (T := TX7) (N := 2) hx hb hts (by decide +kernel) hown hK.1 hP 0 rfl rfl 0 (by decide) (hts (.fieldLink RX7 9 "JugglingHall$Tape" "bytes" "[I") (by decide +kernel)) (fun _ h9 => h9) rfl dX7_hasRoom_7 ?_
  refine va_alen (v := nI 300) hx hb hK.1 hP 1 0 rfl rfl rfl dX7_hasRoom_10 ?_
  refine lv_icmp_gt (tgt := 18) hx hb dX7_hasRoom_11 (by decide) (fun c11 => absurd c11 (by decide)) (fun c11 => ?_)
  refine lv_iconst (v := 1) hx hb dX7_hasRoom_14 (by decide) ?_
  refine lv_goto (tgt := 19) hx hb dX7_hasRoom_15 (by decide) ?_
  exact ro_zret hx hb hr hlocks hS (by decide) (rfl) hQ dX7_hasRoom_19
set_option maxRecDepth 100000 in
set_option maxHeartbeats 4000000 in
theorem c_take (l : Launch) (D : va_G) (cI cR cM : ClassId) (sz : Nat) {n : Nat} (hn : n + 4 ≤ 300) (tp tb : Nat) (f : Nat → Int32) (v : Int32) : Met l yX7_take wsX7_take ({ frames := 0, cells := 0, slots := 0, locals := 0 }) (P0 D cI cR cM [.ref tp, .int v] sz [(tp, .inr (7, [.ref tb, .int (nI n)])), (tb, .inl (cI, 300, .inl f))]) (QG (S := Nat → Int32) (fun _ => none) (fun g => [(tp, .inr (7, [.ref tb, .int (nI (n + 4))])), (tb, .inl (cI, 300, .inl g))]) (fun _ => True) D (va_A [(tp, .inr (7, [.ref tb, .int (nI n)])), (tb, .inl (cI, 300, .inl f))] sz)) 0 0 (va_A [(tp, .inr (7, [.ref tb, .int (nI n)])), (tb, .inl (cI, 300, .inl f))] sz) := by
  refine go (cc := cX7_take) (maxL := 3) (ret := none) (by decide) rfl (Nat.le_of_ble_eq_true rfl) ?_
  intro p e s m below meth c ls args Q hQ hsz hx hb hr hml hts hown hlocks hnm hP hK hD hl
  subst hsz
  have hD := hD.self (sz := s.heap.size)
  generalize hAe : va_A [(tp, .inr (7, [.ref tb, .int (nI n)])), (tb, .inl (cI, 300, .inl f))] s.heap.size = A at hD hQ
  have hA : ∀ q, s.heap.size ≤ q → A q := fun q h => by rw [← hAe]; exact Or.inr h
  have hS : va_S A s.heap s.heap [] := va_S.rf
  have hl : lv_has ls 3 [(0, .ref tp), (1, .int v)] := hl
  refine lv_bipush (v := 24) hx hb dX7_take_0 (by decide) ?_
  refine lv_istore_n (lv' := [(2, .int 24), (0, .ref tp), (1, .int v)]) hx hb dX7_take_2 rfl hl (by decide) rfl (fun ls hl => ?_)
  refine lv_iload_n hx hb dX7_take_3 rfl (lv_at hl 0 rfl) ?_
  refine lv_if_lt (tgt := 51) hx hb dX7_take_4 (by decide) (fun c4 => absurd c4 (by decide)) (fun c4 => ?_)
  refine lv_aload_n hx hb dX7_take_7 rfl (lv_at hl 1 rfl) ?_
  refine va_get (D := D) (ci := 7) (v := .int (nI n)) (C := RX7) (T := TX7) (N := 2) hx hb hts (by decide +kernel) hown hK.1 hP 0 rfl rfl 1 (by decide) (hts (.fieldLink RX7 15 "JugglingHall$Tape" "length" "I") (by decide +kernel)) (fun _ h9 => h9) rfl dX7_take_8 ?_
  refine lv_aload_n hx hb dX7_take_11 rfl (lv_at hl 1 rfl) ?_
  refine va_get (D := D) (ci := 7) (v := .ref tb) (C := RX7) (T := TX7) (N := 2) hx hb hts (by decide +kernel) hown hK.1 hP 0 rfl rfl 0 (by decide) (hts (.fieldLink RX7 9 "JugglingHall$Tape" "bytes" "[I") (by decide +kernel)) (fun _ h9 => h9) rfl dX7_take_12 ?_
  refine va_alen (v := nI 300) hx hb hK.1 hP 1 0 rfl rfl rfl dX7_take_15 ?_
  refine lv_icmp_ge (tgt := 51) hx hb dX7_take_16 (by decide) (fun c16 => absurd c16 (nI_ge (by omega) (by decide))) (fun c16 => ?_)
  refine lv_aload_n hx hb dX7_take_19 rfl (lv_at hl 1 rfl) ?_
  refine va_get (D := D) (ci := 7) (v := .ref tb) (C := RX7) (T := TX7) (N := 2) hx hb hts (by decide +kernel) hown hK.1 hP 0 rfl rfl 0 (by decide) (hts (.fieldLink RX7 9 "JugglingHall$Tape" "bytes" "[I") (by decide +kernel)) (fun _ h9 => h9) rfl dX7_take_20 ?_
  refine lv_aload_n hx hb dX7_take_23 rfl (lv_at hl 1 rfl) ?_
  refine va_get (D := D) (ci := 7) (v := .int (nI n)) (C := RX7) (T := TX7) (N := 2) hx hb hts (by decide +kernel) hown hK.1 hP 0 rfl rfl 1 (by decide) (hts (.fieldLink RX7 15 "JugglingHall$Tape" "length" "I") (by decide +kernel)) (fun _ h9 => h9) rfl dX7_take_24 ?_
  refine lv_iload_n hx hb dX7_take_27 rfl (lv_at hl 2 rfl) ?_
  refine lv_iload_n hx hb dX7_take_28 rfl (lv_at hl 0 rfl) ?_
  refine lv_iushr (v := ((v : Int32).toUInt32 >>> ((24 : Int32).toUInt32 &&& Int32.toUInt32 31)).toInt32) hx hb dX7_take_29 rfl ?_
  refine lv_sipush (v := 255) hx hb dX7_take_30 (by decide) ?_
  refine lv_iand hx hb dX7_take_33 ?_
  refine ast_n (k := n) hx hb hK.1 hP hD hS 1 0 rfl rfl (by omega) (by decide) dX7_take_34 (fun H locs hP hD hS => ?_)
  have hP : va_P D vwCl [(tp, .inr (7, [.ref tb, .int (nI n)])), (tb, .inl (cI, 300, .inl (upd f n ((((v : Int32).toUInt32 >>> ((24 : Int32).toUInt32 &&& Int32.toUInt32 31)).toInt32) &&& 255))))] H := hP
  have hD : va_D A [(tp, .inr (7, [.ref tb, .int (nI n)])), (tb, .inl (cI, 300, .inl (upd f n ((((v : Int32).toUInt32 >>> ((24 : Int32).toUInt32 &&& Int32.toUInt32 31)).toInt32) &&& 255))))] := hD
  generalize (upd f n ((((v : Int32).toUInt32 >>> ((24 : Int32).toUInt32 &&& Int32.toUInt32 31)).toInt32) &&& 255)) = f1 at hP hD
  refine lv_aload_n hx hb dX7_take_35 rfl (lv_at hl 1 rfl) ?_
  refine lv_dup hx hb dX7_take_36 rfl ?_
  refine va_get (D := D) (ci := 7) (v := .int (nI n)) (C := RX7) (T := TX7) (N := 2) hx hb hts (by decide +kernel) hown hK.1 hP 0 rfl rfl 1 (by decide) (hts (.fieldLink RX7 15 "JugglingHall$Tape" "length" "I") (by decide +kernel)) (fun _ h9 => h9) rfl dX7_take_37 ?_
  refine lv_iconst (v := 1) hx hb dX7_take_40 (by decide) ?_
  refine lv_iadd hx hb dX7_take_41 ?_
  refine lv_eqi (y := nI (n + 1)) (nI_1 _) ?_
  refine va_put (D := D) (ci := 7) (v := .int (nI (n + 1))) (ty := .int) (C := RX7) (T := TX7) (N := 2) hx hb hts (by decide +kernel) tyX7 tyX7_ok nmX7 hown hK.1 hP hD hS 0 rfl rfl 1 (by decide) (hts (.fieldLink RX7 15 "JugglingHall$Tape" "length" "I") (by decide +kernel)) (fun _ h9 => h9) rfl (by decide +kernel) rfl rfl (Nat.le_of_ble_eq_true rfl) dX7_take_42 (fun H locs hP hD hS => ?_)
  have hP : va_P D vwCl [(tp, .inr (7, [.ref tb, .int (nI (n + 1))])), (tb, .inl (cI, 300, .inl f1))] H := hP
  have hD : va_D A [(tp, .inr (7, [.ref tb, .int (nI (n + 1))])), (tb, .inl (cI, 300, .inl f1))] := hD
  refine lv_iinc (v := 16) (lv' := [(2, .int 16), (0, .ref tp), (1, .int v)]) hx hb dX7_take_45 hl (k := 0) rfl (by decide) (by decide) rfl (fun ls hl => ?_)
  refine lv_goto (tgt := 3) hx hb dX7_take_48 (by decide) ?_
  refine lv_iload_n hx hb dX7_take_3 rfl (lv_at hl 0 rfl) ?_
  refine lv_if_lt (tgt := 51) hx hb dX7_take_4 (by decide) (fun c4 => absurd c4 (by decide)) (fun c4 => ?_)
  refine lv_aload_n hx hb dX7_take_7 rfl (lv_at hl 1 rfl) ?_
  refine va_get (D := D) (ci := 7) (v := .int (nI (n + 1))) (C := RX7) (T := TX7) (N := 2) hx hb hts (by decide +kernel) hown hK.1 hP 0 rfl rfl 1 (by decide) (hts (.fieldLink RX7 15 "JugglingHall$Tape" "length" "I") (by decide +kernel)) (fun _ h9 => h9) rfl dX7_take_8 ?_
  refine lv_aload_n hx hb dX7_take_11 rfl (lv_at hl 1 rfl) ?_
  refine va_get (D := D) (ci := 7) (v := .ref tb) (C := RX7) (T := TX7) (N := 2) hx hb hts (by decide +kernel) hown hK.1 hP 0 rfl rfl 0 (by decide) (hts (.fieldLink RX7 9 "JugglingHall$Tape" "bytes" "[I") (by decide +kernel)) (fun _ h9 => h9) rfl dX7_take_12 ?_
  refine va_alen (v := nI 300) hx hb hK.1 hP 1 0 rfl rfl rfl dX7_take_15 ?_
  refine lv_icmp_ge (tgt := 51) hx hb dX7_take_16 (by decide) (fun c16 => absurd c16 (nI_ge (by omega) (by decide))) (fun c16 => ?_)
  refine lv_aload_n hx hb dX7_take_19 rfl (lv_at hl 1 rfl) ?_
  refine va_get (D := D) (ci := 7) (v := .ref tb) (C := RX7) (T := TX7) (N := 2) hx hb hts (by decide +kernel) hown hK.1 hP 0 rfl rfl 0 (by decide) (hts (.fieldLink RX7 9 "JugglingHall$Tape" "bytes" "[I") (by decide +kernel)) (fun _ h9 => h9) rfl dX7_take_20 ?_
  refine lv_aload_n hx hb dX7_take_23 rfl (lv_at hl 1 rfl) ?_
  refine va_get (D := D) (ci := 7) (v := .int (nI (n + 1))) (C := RX7) (T := TX7) (N := 2) hx hb hts (by decide +kernel) hown hK.1 hP 0 rfl rfl 1 (by decide) (hts (.fieldLink RX7 15 "JugglingHall$Tape" "length" "I") (by decide +kernel)) (fun _ h9 => h9) rfl dX7_take_24 ?_
  refine lv_iload_n hx hb dX7_take_27 rfl (lv_at hl 2 rfl) ?_
  refine lv_iload_n hx hb dX7_take_28 rfl (lv_at hl 0 rfl) ?_
  refine lv_iushr (v := ((v : Int32).toUInt32 >>> ((16 : Int32).toUInt32 &&& Int32.toUInt32 31)).toInt32) hx hb dX7_take_29 rfl ?_
  refine lv_sipush (v := 255) hx hb dX7_take_30 (by decide) ?_
  refine lv_iand hx hb dX7_take_33 ?_
  refine ast_n (k := n + 1) hx hb hK.1 hP hD hS 1 0 rfl rfl (by omega) (by decide) dX7_take_34 (fun H locs hP hD hS => ?_)
  have hP : va_P D vwCl [(tp, .inr (7, [.ref tb, .int (nI (n + 1))])), (tb, .inl (cI, 300, .inl (upd f1 (n + 1) ((((v : Int32).toUInt32 >>> ((16 : Int32).toUInt32 &&& Int32.toUInt32 31)).toInt32) &&& 255))))] H := hP
  have hD : va_D A [(tp, .inr (7, [.ref tb, .int (nI (n + 1))])), (tb, .inl (cI, 300, .inl (upd f1 (n + 1) ((((v : Int32).toUInt32 >>> ((16 : Int32).toUInt32 &&& Int32.toUInt32 31)).toInt32) &&& 255))))] := hD
  generalize (upd f1 (n + 1) ((((v : Int32).toUInt32 >>> ((16 : Int32).toUInt32 &&& Int32.toUInt32 31)).toInt32) &&& 255)) = f2 at hP hD
  refine lv_aload_n hx hb dX7_take_35 rfl (lv_at hl 1 rfl) ?_
  refine lv_dup hx hb dX7_take_36 rfl ?_
  refine va_get (D := D) (ci := 7) (v := .int (nI (n + 1))) (C := RX7) (T := TX7) (N := 2) hx hb hts (by decide +kernel) hown hK.1 hP 0 rfl rfl 1 (by decide) (hts (.fieldLink RX7 15 "JugglingHall$Tape" "length" "I") (by decide +kernel)) (fun _ h9 => h9) rfl dX7_take_37 ?_
  refine lv_iconst (v := 1) hx hb dX7_take_40 (by decide) ?_
  refine lv_iadd hx hb dX7_take_41 ?_
  refine lv_eqi (y := nI (n + 2)) (nI_1 _) ?_
  refine va_put (D := D) (ci := 7) (v := .int (nI (n + 2))) (ty := .int) (C := RX7) (T := TX7) (N := 2) hx hb hts (by decide +kernel) tyX7 tyX7_ok nmX7 hown hK.1 hP hD hS 0 rfl rfl 1 (by decide) (hts (.fieldLink RX7 15 "JugglingHall$Tape" "length" "I") (by decide +kernel)) (fun _ h9 => h9) rfl (by decide +kernel) rfl rfl (Nat.le_of_ble_eq_true rfl) dX7_take_42 (fun H locs hP hD hS => ?_)
  have hP : va_P D vwCl [(tp, .inr (7, [.ref tb, .int (nI (n + 2))])), (tb, .inl (cI, 300, .inl f2))] H := hP
  have hD : va_D A [(tp, .inr (7, [.ref tb, .int (nI (n + 2))])), (tb, .inl (cI, 300, .inl f2))] := hD
  refine lv_iinc (v := 8) (lv' := [(2, .int 8), (0, .ref tp), (1, .int v)]) hx hb dX7_take_45 hl (k := 0) rfl (by decide) (by decide) rfl (fun ls hl => ?_)
  refine lv_goto (tgt := 3) hx hb dX7_take_48 (by decide) ?_
  refine lv_iload_n hx hb dX7_take_3 rfl (lv_at hl 0 rfl) ?_
  refine lv_if_lt (tgt := 51) hx hb dX7_take_4 (by decide) (fun c4 => absurd c4 (by decide)) (fun c4 => ?_)
  refine lv_aload_n hx hb dX7_take_7 rfl (lv_at hl 1 rfl) ?_
  refine va_get (D := D) (ci := 7) (v := .int (nI (n + 2))) (C := RX7) (T := TX7) (N := 2) hx hb hts (by decide +kernel) hown hK.1 hP 0 rfl rfl 1 (by decide) (hts (.fieldLink RX7 15 "JugglingHall$Tape" "length" "I") (by decide +kernel)) (fun _ h9 => h9) rfl dX7_take_8 ?_
  refine lv_aload_n hx hb dX7_take_11 rfl (lv_at hl 1 rfl) ?_
  refine va_get (D := D) (ci := 7) (v := .ref tb) (C := RX7) (T := TX7) (N := 2) hx hb hts (by decide +kernel) hown hK.1 hP 0 rfl rfl 0 (by decide) (hts (.fieldLink RX7 9 "JugglingHall$Tape" "bytes" "[I") (by decide +kernel)) (fun _ h9 => h9) rfl dX7_take_12 ?_
  refine va_alen (v := nI 300) hx hb hK.1 hP 1 0 rfl rfl rfl dX7_take_15 ?_
  refine lv_icmp_ge (tgt := 51) hx hb dX7_take_16 (by decide) (fun c16 => absurd c16 (nI_ge (by omega) (by decide))) (fun c16 => ?_)
  refine lv_aload_n hx hb dX7_take_19 rfl (lv_at hl 1 rfl) ?_
  refine va_get (D := D) (ci := 7) (v := .ref tb) (C := RX7) (T := TX7) (N := 2) hx hb hts (by decide +kernel) hown hK.1 hP 0 rfl rfl 0 (by decide) (hts (.fieldLink RX7 9 "JugglingHall$Tape" "bytes" "[I") (by decide +kernel)) (fun _ h9 => h9) rfl dX7_take_20 ?_
  refine lv_aload_n hx hb dX7_take_23 rfl (lv_at hl 1 rfl) ?_
  refine va_get (D := D) (ci := 7) (v := .int (nI (n + 2))) (C := RX7) (T := TX7) (N := 2) hx hb hts (by decide +kernel) hown hK.1 hP 0 rfl rfl 1 (by decide) (hts (.fieldLink RX7 15 "JugglingHall$Tape" "length" "I") (by decide +kernel)) (fun _ h9 => h9) rfl dX7_take_24 ?_
  refine lv_iload_n hx hb dX7_take_27 rfl (lv_at hl 2 rfl) ?_
  refine lv_iload_n hx hb dX7_take_28 rfl (lv_at hl 0 rfl) ?_
  refine lv_iushr (v := ((v : Int32).toUInt32 >>> ((8 : Int32).toUInt32 &&& Int32.toUInt32 31)).toInt32) hx hb dX7_take_29 rfl ?_
  refine lv_sipush (v := 255) hx hb dX7_take_30 (by decide) ?_
  refine lv_iand hx hb dX7_take_33 ?_
  refine ast_n (k := n + 2) hx hb hK.1 hP hD hS 1 0 rfl rfl (by omega) (by decide) dX7_take_34 (fun H locs hP hD hS => ?_)
  have hP : va_P D vwCl [(tp, .inr (7, [.ref tb, .int (nI (n + 2))])), (tb, .inl (cI, 300, .inl (upd f2 (n + 2) ((((v : Int32).toUInt32 >>> ((8 : Int32).toUInt32 &&& Int32.toUInt32 31)).toInt32) &&& 255))))] H := hP
  have hD : va_D A [(tp, .inr (7, [.ref tb, .int (nI (n + 2))])), (tb, .inl (cI, 300, .inl (upd f2 (n + 2) ((((v : Int32).toUInt32 >>> ((8 : Int32).toUInt32 &&& Int32.toUInt32 31)).toInt32) &&& 255))))] := hD
  generalize (upd f2 (n + 2) ((((v : Int32).toUInt32 >>> ((8 : Int32).toUInt32 &&& Int32.toUInt32 31)).toInt32) &&& 255)) = f3 at hP hD
  refine lv_aload_n hx hb dX7_take_35 rfl (lv_at hl 1 rfl) ?_
  refine lv_dup hx hb dX7_take_36 rfl ?_
  refine va_get (D := D) (ci := 7) (v := .int (nI (n + 2))) (C := RX7) (T := TX7) (N := 2) hx hb hts (by decide +kernel) hown hK.1 hP 0 rfl rfl 1 (by decide) (hts (.fieldLink RX7 15 "JugglingHall$Tape" "length" "I") (by decide +kernel)) (fun _ h9 => h9) rfl dX7_take_37 ?_
  refine lv_iconst (v := 1) hx hb dX7_take_40 (by decide) ?_
  refine lv_iadd hx hb dX7_take_41 ?_
  refine lv_eqi (y := nI (n + 3)) (nI_1 _) ?_
  refine va_put (D := D) (ci := 7) (v := .int (nI (n + 3))) (ty := .int) (C := RX7) (T := TX7) (N := 2) hx hb hts (by decide +kernel) tyX7 tyX7_ok nmX7 hown hK.1 hP hD hS 0 rfl rfl 1 (by decide) (hts (.fieldLink RX7 15 "JugglingHall$Tape" "length" "I") (by decide +kernel)) (fun _ h9 => h9) rfl (by decide +kernel) rfl rfl (Nat.le_of_ble_eq_true rfl) dX7_take_42 (fun H locs hP hD hS => ?_)
  have hP : va_P D vwCl [(tp, .inr (7, [.ref tb, .int (nI (n + 3))])), (tb, .inl (cI, 300, .inl f3))] H := hP
  have hD : va_D A [(tp, .inr (7, [.ref tb, .int (nI (n + 3))])), (tb, .inl (cI, 300, .inl f3))] := hD
  refine lv_iinc (v := 0) (lv' := [(2, .int 0), (0, .ref tp), (1, .int v)]) hx hb dX7_take_45 hl (k := 0) rfl (by decide) (by decide) rfl (fun ls hl => ?_)
  refine lv_goto (tgt := 3) hx hb dX7_take_48 (by decide) ?_
  refine lv_iload_n hx hb dX7_take_3 rfl (lv_at hl 0 rfl) ?_
  refine lv_if_lt (tgt := 51) hx hb dX7_take_4 (by decide) (fun c4 => absurd c4 (by decide)) (fun c4 => ?_)
  refine lv_aload_n hx hb dX7_take_7 rfl (lv_at hl 1 rfl) ?_
  refine va_get (D := D) (ci := 7) (v := .int (nI (n + 3))) (C := RX7) (T := TX7) (N := 2) hx hb hts (by decide +kernel) hown hK.1 hP 0 rfl rfl 1 (by decide) (hts (.fieldLink RX7 15 "JugglingHall$Tape" "length" "I") (by decide +kernel)) (fun _ h9 => h9) rfl dX7_take_8 ?_
  refine lv_aload_n hx hb dX7_take_11 rfl (lv_at hl 1 rfl) ?_
  refine va_get (D := D) (ci := 7) (v := .ref tb) (C := RX7) (T := TX7) (N := 2) hx hb hts (by decide +kernel) hown hK.1 hP 0 rfl rfl 0 (by decide) (hts (.fieldLink RX7 9 "JugglingHall$Tape" "bytes" "[I") (by decide +kernel)) (fun _ h9 => h9) rfl dX7_take_12 ?_
  refine va_alen (v := nI 300) hx hb hK.1 hP 1 0 rfl rfl rfl dX7_take_15 ?_
  refine lv_icmp_ge (tgt := 51) hx hb dX7_take_16 (by decide) (fun c16 => absurd c16 (nI_ge (by omega) (by decide))) (fun c16 => ?_)
  refine lv_aload_n hx hb dX7_take_19 rfl (lv_at hl 1 rfl) ?_
  refine va_get (D := D) (ci := 7) (v := .ref tb) (C := RX7) (T := TX7) (N := 2) hx hb hts (by decide +kernel) hown hK.1 hP 0 rfl rfl 0 (by decide) (hts (.fieldLink RX7 9 "JugglingHall$Tape" "bytes" "[I") (by decide +kernel)) (fun _ h9 => h9) rfl dX7_take_20 ?_
  refine lv_aload_n hx hb dX7_take_23 rfl (lv_at hl 1 rfl) ?_
  refine va_get (D := D) (ci := 7) (v := .int (nI (n + 3))) (C := RX7) (T := TX7) (N := 2) hx hb hts (by decide +kernel) hown hK.1 hP 0 rfl rfl 1 (by decide) (hts (.fieldLink RX7 15 "JugglingHall$Tape" "length" "I") (by decide +kernel)) (fun _ h9 => h9) rfl dX7_take_24 ?_
  refine lv_iload_n hx hb dX7_take_27 rfl (lv_at hl 2 rfl) ?_
  refine lv_iload_n hx hb dX7_take_28 rfl (lv_at hl 0 rfl) ?_
  refine lv_iushr (v := ((v : Int32).toUInt32 >>> ((0 : Int32).toUInt32 &&& Int32.toUInt32 31)).toInt32) hx hb dX7_take_29 rfl ?_
  refine lv_sipush (v := 255) hx hb dX7_take_30 (by decide) ?_
  refine lv_iand hx hb dX7_take_33 ?_
  refine ast_n (k := n + 3) hx hb hK.1 hP hD hS 1 0 rfl rfl (by omega) (by decide) dX7_take_34 (fun H locs hP hD hS => ?_)
  have hP : va_P D vwCl [(tp, .inr (7, [.ref tb, .int (nI (n + 3))])), (tb, .inl (cI, 300, .inl (upd f3 (n + 3) ((((v : Int32).toUInt32 >>> ((0 : Int32).toUInt32 &&& Int32.toUInt32 31)).toInt32) &&& 255))))] H := hP
  have hD : va_D A [(tp, .inr (7, [.ref tb, .int (nI (n + 3))])), (tb, .inl (cI, 300, .inl (upd f3 (n + 3) ((((v : Int32).toUInt32 >>> ((0 : Int32).toUInt32 &&& Int32.toUInt32 31)).toInt32) &&& 255))))] := hD
  generalize (upd f3 (n + 3) ((((v : Int32).toUInt32 >>> ((0 : Int32).toUInt32 &&& Int32.toUInt32 31)).toInt32) &&& 255)) = f4 at hP hD
  refine lv_aload_n hx hb dX7_take_35 rfl (lv_at hl 1 rfl) ?_
  refine lv_dup hx hb dX7_take_36 rfl ?_
  refine va_get (D := D) (ci := 7) (v := .int (nI (n + 3))) (C := RX7) (T := TX7) (N := 2) hx hb hts (by decide +kernel) hown hK.1 hP 0 rfl rfl 1 (by decide) (hts (.fieldLink RX7 15 "JugglingHall$Tape" "length" "I") (by decide +kernel)) (fun _ h9 => h9) rfl dX7_take_37 ?_
  refine lv_iconst (v := 1) hx hb dX7_take_40 (by decide) ?_
  refine lv_iadd hx hb dX7_take_41 ?_
  refine lv_eqi (y := nI (n + 4)) (nI_1 _) ?_
  refine va_put (D := D) (ci := 7) (v := .int (nI (n + 4))) (ty := .int) (C := RX7) (T := TX7) (N := 2) hx hb hts (by decide +kernel) tyX7 tyX7_ok nmX7 hown hK.1 hP hD hS 0 rfl rfl 1 (by decide) (hts (.fieldLink RX7 15 "JugglingHall$Tape" "length" "I") (by decide +kernel)) (fun _ h9 => h9) rfl (by decide +kernel) rfl rfl (Nat.le_of_ble_eq_true rfl) dX7_take_42 (fun H locs hP hD hS => ?_)
  have hP : va_P D vwCl [(tp, .inr (7, [.ref tb, .int (nI (n + 4))])), (tb, .inl (cI, 300, .inl f4))] H := hP
  have hD : va_D A [(tp, .inr (7, [.ref tb, .int (nI (n + 4))])), (tb, .inl (cI, 300, .inl f4))] := hD
  refine lv_iinc (v := (-8)) (lv' := [(2, .int (-8)), (0, .ref tp), (1, .int v)]) hx hb dX7_take_45 hl (k := 0) rfl (by decide) (by decide) rfl (fun ls hl => ?_)
  refine lv_goto (tgt := 3) hx hb dX7_take_48 (by decide) ?_
  refine lv_iload_n hx hb dX7_take_3 rfl (lv_at hl 0 rfl) ?_
  refine lv_if_lt (tgt := 51) hx hb dX7_take_4 (by decide) (fun c4 => ?_) (fun c4 => absurd (by decide) c4)
  exact g_vret (f4) hx hb hr hlocks hS rfl (trivial) (hP.sub [0, 1] rfl) (hD.sub [0, 1] (by decide) rfl) hQ (Nat.le_of_ble_eq_true rfl) (Nat.le_of_ble_eq_true rfl) dX7_take_51
set_option maxRecDepth 100000 in
set_option maxHeartbeats 4000000 in
theorem c_feed (l : Launch) (D : va_G) (cI cR cM : ClassId) (sz : Nat) (i0 i1 i2 i3 i4 : Int32) (hh : Nat) (x0 x2 x3 x4 x5 x6 x7 : Value) (tp tb : Nat) : Met l yX10_feed wsX10_feed ({ frames := 1, cells := 0, slots := 0, locals := 22 }) (P0 D cI cR cM [.ref hh, .int i0, .int i1, .int i2, .int i3, .int i4] sz [(hh, .inr (10, [x0, .ref tp, x2, x3, x4, x5, x6, x7])), (tp, .inr (7, [.ref tb, .int (nI 0)])), (tb, .inl (cI, 300, .inl (fun _ => 0)))]) (QG (S := Unit) (fun _ => some (.int (nI 20))) (fun _ => []) (fun _ => True) D (va_A [(hh, .inr (10, [x0, .ref tp, x2, x3, x4, x5, x6, x7])), (tp, .inr (7, [.ref tb, .int (nI 0)])), (tb, .inl (cI, 300, .inl (fun _ => 0)))] sz)) 0 0 (va_A [(hh, .inr (10, [x0, .ref tp, x2, x3, x4, x5, x6, x7])), (tp, .inr (7, [.ref tb, .int (nI 0)])), (tb, .inl (cI, 300, .inl (fun _ => 0)))] sz) := by
  refine go (cc := cX10_feed) (maxL := 6) (ret := (some .int)) (by decide) rfl (Nat.le_of_ble_eq_true rfl) ?_
  intro p e s m below meth c ls args Q hQ hsz hx hb hr hml hts hown hlocks hnm hP hK hD hl
  subst hsz
  have hD := hD.self (sz := s.heap.size)
  generalize hAe : va_A [(hh, .inr (10, [x0, .ref tp, x2, x3, x4, x5, x6, x7])), (tp, .inr (7, [.ref tb, .int (nI 0)])), (tb, .inl (cI, 300, .inl (fun _ => 0)))] s.heap.size = A at hD hQ
  have hA : ∀ q, s.heap.size ≤ q → A q := fun q h => by rw [← hAe]; exact Or.inr h
  have hS : va_S A s.heap s.heap [] := va_S.rf
  have hl : lv_has ls 6 [(0, .ref hh), (1, .int i0), (2, .int i1), (3, .int i2), (4, .int i3), (5, .int i4)] := hl
  refine lv_aload_n hx hb dX10_feed_0 rfl (lv_at hl 0 rfl) ?_
  refine va_get (D := D) (ci := 10) (v := .ref tp) (C := RX10) (T := TX10) (N := 8) hx hb hts (by decide +kernel) hown hK.1 hP 0 rfl rfl 1 (by decide) (hts (.fieldLink RX10 25 "JugglingHall" "tape" "LJugglingHall$Tape;") (by decide +kernel)) (fun _ h9 => h9) rfl dX10_feed_1 ?_
  refine lv_bipush (v := 20) hx hb dX10_feed_4 (by decide) ?_
  have hPc := hP.sub (ws' := [(tp, .inr (7, [.ref tb, .int (nI 0)])), (tb, .inl (cI, 300, .inl (fun _ => 0)))]) [1, 2] rfl
  have hDc := hD.sub (ws' := [(tp, .inr (7, [.ref tb, .int (nI 0)])), (tb, .inl (cI, 300, .inl (fun _ => 0)))]) [1, 2] (by decide) rfl
  refine ro (va_runV (As := [.int 20]) (rest := []) ⟨hx, hb, hml, hown, hts⟩ (c_hasRoom l D cI cR cM _ tp tb) (cwV 1 hts gX10_feed_X7_hasRoom rfl rfl rfl (by decide +kernel) ⟨Nat.le_of_ble_eq_true rfl, Nat.le_of_ble_eq_true rfl⟩) (pre_V hK hPc hDc 0 7 rfl rfl) rfl rfl hl.1 rfl (lv_room (Nat.le_of_ble_eq_true rfl)) dX10_feed_6 ⟨Nat.le_of_ble_eq_true rfl, Nat.le_of_ble_eq_true rfl⟩) hS hA hP (fun H locs hP hS => ?_)
  refine lv_if_ne (tgt := 14) hx hb dX10_feed_9 (by decide) (fun c9 => ?_) (fun c9 => absurd c9 (by decide))
  refine lv_aload_n hx hb dX10_feed_14 rfl (lv_at hl 0 rfl) ?_
  refine va_get (D := D) (ci := 10) (v := .ref tp) (C := RX10) (T := TX10) (N := 8) hx hb hts (by decide +kernel) hown hK.1 hP 0 rfl rfl 1 (by decide) (hts (.fieldLink RX10 25 "JugglingHall" "tape" "LJugglingHall$Tape;") (by decide +kernel)) (fun _ h9 => h9) rfl dX10_feed_15 ?_
  refine lv_iload_n hx hb dX10_feed_18 rfl (lv_at hl 1 rfl) ?_
  have hPc := hP.sub (ws' := [(tp, .inr (7, [.ref tb, .int (nI 0)])), (tb, .inl (cI, 300, .inl (fun _ => 0)))]) [1, 2] rfl
  have hDc := hD.sub (ws' := [(tp, .inr (7, [.ref tb, .int (nI 0)])), (tb, .inl (cI, 300, .inl (fun _ => 0)))]) [1, 2] (by decide) rfl
  refine call_g (wr := [(hh, .inr (10, [x0, .ref tp, x2, x3, x4, x5, x6, x7]))]) (va_runV (As := [.int i0]) (rest := []) ⟨hx, hb, hml, hown, hts⟩ (c_take l D cI cR cM _ (n := 0) (by decide) tp tb (fun _ => 0) i0) (cwV 1 hts gX10_feed_X7_take rfl rfl rfl (by decide +kernel) ⟨Nat.le_of_ble_eq_true rfl, Nat.le_of_ble_eq_true rfl⟩) (pre_V hK hPc hDc 0 7 rfl rfl) rfl rfl hl.1 rfl (lv_room (Nat.le_of_ble_eq_true rfl)) dX10_feed_19 ⟨Nat.le_of_ble_eq_true rfl, Nat.le_of_ble_eq_true rfl⟩) hP hD hS hA [1, 2] [0] rfl rfl (by decide) (by decide) (fun g1 H locs hw hP hD hS => ?_)
  have hP : va_P D vwCl [(hh, .inr (10, [x0, .ref tp, x2, x3, x4, x5, x6, x7])), (tp, .inr (7, [.ref tb, .int (nI 4)])), (tb, .inl (cI, 300, .inl g1))] H := hP
  have hD : va_D A [(hh, .inr (10, [x0, .ref tp, x2, x3, x4, x5, x6, x7])), (tp, .inr (7, [.ref tb, .int (nI 4)])), (tb, .inl (cI, 300, .inl g1))] := hD
  refine lv_aload_n hx hb dX10_feed_22 rfl (lv_at hl 0 rfl) ?_
  refine va_get (D := D) (ci := 10) (v := .ref tp) (C := RX10) (T := TX10) (N := 8) hx hb hts (by decide +kernel) hown hK.1 hP 0 rfl rfl 1 (by decide) (hts (.fieldLink RX10 25 "JugglingHall" "tape" "LJugglingHall$Tape;") (by decide +kernel)) (fun _ h9 => h9) rfl dX10_feed_23 ?_
  refine lv_iload_n hx hb dX10_feed_26 rfl (lv_at hl 2 rfl) ?_
  have hPc := hP.sub (ws' := [(tp, .inr (7, [.ref tb, .int (nI 4)])), (tb, .inl (cI, 300, .inl g1))]) [1, 2] rfl
  have hDc := hD.sub (ws' := [(tp, .inr (7, [.ref tb, .int (nI 4)])), (tb, .inl (cI, 300, .inl g1))]) [1, 2] (by decide) rfl
  refine call_g (wr := [(hh, .inr (10, [x0, .ref tp, x2, x3, x4, x5, x6, x7]))]) (va_runV (As := [.int i1]) (rest := []) ⟨hx, hb, hml, hown, hts⟩ (c_take l D cI cR cM _ (n := 4) (by decide) tp tb g1 i1) (cwV 1 hts gX10_feed_X7_take rfl rfl rfl (by decide +kernel) ⟨Nat.le_of_ble_eq_true rfl, Nat.le_of_ble_eq_true rfl⟩) (pre_V hK hPc hDc 0 7 rfl rfl) rfl rfl hl.1 rfl (lv_room (Nat.le_of_ble_eq_true rfl)) dX10_feed_27 ⟨Nat.le_of_ble_eq_true rfl, Nat.le_of_ble_eq_true rfl⟩) hP hD hS hA [1, 2] [0] rfl rfl (by decide) (by decide) (fun g2 H locs hw hP hD hS => ?_)
  have hP : va_P D vwCl [(hh, .inr (10, [x0, .ref tp, x2, x3, x4, x5, x6, x7])), (tp, .inr (7, [.ref tb, .int (nI 8)])), (tb, .inl (cI, 300, .inl g2))] H := hP
  have hD : va_D A [(hh, .inr (10, [x0, .ref tp, x2, x3, x4, x5, x6, x7])), (tp, .inr (7, [.ref tb, .int (nI 8)])), (tb, .inl (cI, 300, .inl g2))] := hD
  refine lv_aload_n hx hb dX10_feed_30 rfl (lv_at hl 0 rfl) ?_
  refine va_get (D := D) (ci := 10) (v := .ref tp) (C := RX10) (T := TX10) (N := 8) hx hb hts (by decide +kernel) hown hK.1 hP 0 rfl rfl 1 (by decide) (hts (.fieldLink RX10 25 "JugglingHall" "tape" "LJugglingHall$Tape;") (by decide +kernel)) (fun _ h9 => h9) rfl dX10_feed_31 ?_
  refine lv_iload_n hx hb dX10_feed_34 rfl (lv_at hl 3 rfl) ?_
  have hPc := hP.sub (ws' := [(tp, .inr (7, [.ref tb, .int (nI 8)])), (tb, .inl (cI, 300, .inl g2))]) [1, 2] rfl
  have hDc := hD.sub (ws' := [(tp, .inr (7, [.ref tb, .int (nI 8)])), (tb, .inl (cI, 300, .inl g2))]) [1, 2] (by decide) rfl
  refine call_g (wr := [(hh, .inr (10, [x0, .ref tp, x2, x3, x4, x5, x6, x7]))]) (va_runV (As := [.int i2]) (rest := []) ⟨hx, hb, hml, hown, hts⟩ (c_take l D cI cR cM _ (n := 8) (by decide) tp tb g2 i2) (cwV 1 hts gX10_feed_X7_take rfl rfl rfl (by decide +kernel) ⟨Nat.le_of_ble_eq_true rfl, Nat.le_of_ble_eq_true rfl⟩) (pre_V hK hPc hDc 0 7 rfl rfl) rfl rfl hl.1 rfl (lv_room (Nat.le_of_ble_eq_true rfl)) dX10_feed_35 ⟨Nat.le_of_ble_eq_true rfl, Nat.le_of_ble_eq_true rfl⟩) hP hD hS hA [1, 2] [0] rfl rfl (by decide) (by decide) (fun g3 H locs hw hP hD hS => ?_)
  have hP : va_P D vwCl [(hh, .inr (10, [x0, .ref tp, x2, x3, x4, x5, x6, x7])), (tp, .inr (7, [.ref tb, .int (nI 12)])), (tb, .inl (cI, 300, .inl g3))] H := hP
  have hD : va_D A [(hh, .inr (10, [x0, .ref tp, x2, x3, x4, x5, x6, x7])), (tp, .inr (7, [.ref tb, .int (nI 12)])), (tb, .inl (cI, 300, .inl g3))] := hD
  refine lv_aload_n hx hb dX10_feed_38 rfl (lv_at hl 0 rfl) ?_
  refine va_get (D := D) (ci := 10) (v := .ref tp) (C := RX10) (T := TX10) (N := 8) hx hb hts (by decide +kernel) hown hK.1 hP 0 rfl rfl 1 (by decide) (hts (.fieldLink RX10 25 "JugglingHall" "tape" "LJugglingHall$Tape;") (by decide +kernel)) (fun _ h9 => h9) rfl dX10_feed_39 ?_
  refine lv_iload hx hb dX10_feed_42 (lv_at hl 4 rfl) ?_
  have hPc := hP.sub (ws' := [(tp, .inr (7, [.ref tb, .int (nI 12)])), (tb, .inl (cI, 300, .inl g3))]) [1, 2] rfl
  have hDc := hD.sub (ws' := [(tp, .inr (7, [.ref tb, .int (nI 12)])), (tb, .inl (cI, 300, .inl g3))]) [1, 2] (by decide) rfl
  refine call_g (wr := [(hh, .inr (10, [x0, .ref tp, x2, x3, x4, x5, x6, x7]))]) (va_runV (As := [.int i3]) (rest := []) ⟨hx, hb, hml, hown, hts⟩ (c_take l D cI cR cM _ (n := 12) (by decide) tp tb g3 i3) (cwV 1 hts gX10_feed_X7_take rfl rfl rfl (by decide +kernel) ⟨Nat.le_of_ble_eq_true rfl, Nat.le_of_ble_eq_true rfl⟩) (pre_V hK hPc hDc 0 7 rfl rfl) rfl rfl hl.1 rfl (lv_room (Nat.le_of_ble_eq_true rfl)) dX10_feed_44 ⟨Nat.le_of_ble_eq_true rfl, Nat.le_of_ble_eq_true rfl⟩) hP hD hS hA [1, 2] [0] rfl rfl (by decide) (by decide) (fun g4 H locs hw hP hD hS => ?_)
  have hP : va_P D vwCl [(hh, .inr (10, [x0, .ref tp, x2, x3, x4, x5, x6, x7])), (tp, .inr (7, [.ref tb, .int (nI 16)])), (tb, .inl (cI, 300, .inl g4))] H := hP
  have hD : va_D A [(hh, .inr (10, [x0, .ref tp, x2, x3, x4, x5, x6, x7])), (tp, .inr (7, [.ref tb, .int (nI 16)])), (tb, .inl (cI, 300, .inl g4))] := hD
  refine lv_aload_n hx hb dX10_feed_47 rfl (lv_at hl 0 rfl) ?_
  refine va_get (D := D) (ci := 10) (v := .ref tp) (C := RX10) (T := TX10) (N := 8) hx hb hts (by decide +kernel) hown hK.1 hP 0 rfl rfl 1 (by decide) (hts (.fieldLink RX10 25 "JugglingHall" "tape" "LJugglingHall$Tape;") (by decide +kernel)) (fun _ h9 => h9) rfl dX10_feed_48 ?_
  refine lv_iload hx hb dX10_feed_51 (lv_at hl 5 rfl) ?_
  have hPc := hP.sub (ws' := [(tp, .inr (7, [.ref tb, .int (nI 16)])), (tb, .inl (cI, 300, .inl g4))]) [1, 2] rfl
  have hDc := hD.sub (ws' := [(tp, .inr (7, [.ref tb, .int (nI 16)])), (tb, .inl (cI, 300, .inl g4))]) [1, 2] (by decide) rfl
  refine call_g (wr := [(hh, .inr (10, [x0, .ref tp, x2, x3, x4, x5, x6, x7]))]) (va_runV (As := [.int i4]) (rest := []) ⟨hx, hb, hml, hown, hts⟩ (c_take l D cI cR cM _ (n := 16) (by decide) tp tb g4 i4) (cwV 1 hts gX10_feed_X7_take rfl rfl rfl (by decide +kernel) ⟨Nat.le_of_ble_eq_true rfl, Nat.le_of_ble_eq_true rfl⟩) (pre_V hK hPc hDc 0 7 rfl rfl) rfl rfl hl.1 rfl (lv_room (Nat.le_of_ble_eq_true rfl)) dX10_feed_53 ⟨Nat.le_of_ble_eq_true rfl, Nat.le_of_ble_eq_true rfl⟩) hP hD hS hA [1, 2] [0] rfl rfl (by decide) (by decide) (fun g5 H locs hw hP hD hS => ?_)
  have hP : va_P D vwCl [(hh, .inr (10, [x0, .ref tp, x2, x3, x4, x5, x6, x7])), (tp, .inr (7, [.ref tb, .int (nI 20)])), (tb, .inl (cI, 300, .inl g5))] H := hP
  have hD : va_D A [(hh, .inr (10, [x0, .ref tp, x2, x3, x4, x5, x6, x7])), (tp, .inr (7, [.ref tb, .int (nI 20)])), (tb, .inl (cI, 300, .inl g5))] := hD
  refine lv_aload_n hx hb dX10_feed_56 rfl (lv_at hl 0 rfl) ?_
  refine va_get (D := D) (ci := 10) (v := .ref tp) (C := RX10) (T := TX10) (N := 8) hx hb hts (by decide +kernel) hown hK.1 hP 0 rfl rfl 1 (by decide) (hts (.fieldLink RX10 25 "JugglingHall" "tape" "LJugglingHall$Tape;") (by decide +kernel)) (fun _ h9 => h9) rfl dX10_feed_57 ?_
  refine va_getN (D := D) (ci := 7) (v := .int (nI 20)) (C := RX7) (T := TX7) (N := 2) (host := "JugglingHall") hx hb hts (by decide +kernel) hown hK.1 hP 1 rfl rfl 1 (by decide) (hK.nw (.fieldLinkNest RX10 86 "JugglingHall$Tape" "length" "I" "JugglingHall") (by decide +kernel) rfl) (fun _ h9 => h9) rfl dX10_feed_60 ?_
  exact g_iret (()) hx hb hr hlocks hS rfl (trivial) va_P_nil va_D_nil hQ (Nat.le_of_ble_eq_true rfl) (Nat.le_of_ble_eq_true rfl) dX10_feed_63
