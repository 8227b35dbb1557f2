theorem nI_ex {x : Int32} {N : Nat} (h : 0 ≤ x.toInt ∧ x.toInt < N) (hN : N ≤ 2147483648) : ∃ k, k < N ∧ x = nI k := ⟨x.toInt.toNat, by omega, Int32.toInt_inj.mp (by rw [nI_toInt (by omega)]; omega)⟩
theorem or127 {x z : Int32} (h : 0 ≤ x.toInt ∧ x.toInt < 128) (hz : 0 ≤ z.toInt ∧ z.toInt < 7) : 0 ≤ (x ||| ((1 : Int32) <<< (z &&& 31))).toInt ∧ (x ||| ((1 : Int32) <<< (z &&& 31))).toInt < 128 := by
  have H : ∀ k, k < 128 → ∀ j, j < 7 → 0 ≤ (nI k ||| ((1 : Int32) <<< (nI j &&& 31))).toInt ∧ (nI k ||| ((1 : Int32) <<< (nI j &&& 31))).toInt < 128 := by decide +kernel
  obtain ⟨k, hk, e⟩ := nI_ex (N := 128) (by omega) (by decide)
  obtain ⟨j, hj, e2⟩ := nI_ex (N := 7) (by omega : 0 ≤ z.toInt ∧ z.toInt < (7 : Nat)) (by decide)
  rw [e, e2]; exact H k hk j hj
theorem shl7 {x : Int32} (h : 0 ≤ x.toInt ∧ x.toInt ≤ 7) : 1 ≤ ((1 : Int32) <<< (x &&& 31)).toInt ∧ ((1 : Int32) <<< (x &&& 31)).toInt ≤ 128 := by
  have H : ∀ j, j < 8 → 1 ≤ ((1 : Int32) <<< (nI j &&& 31)).toInt ∧ ((1 : Int32) <<< (nI j &&& 31)).toInt ≤ 128 := by decide +kernel
  obtain ⟨j, hj, e2⟩ := nI_ex (N := 8) (by omega : 0 ≤ x.toInt ∧ x.toInt < (8 : Nat)) (by decide)
  rw [e2]; exact H j hj
theorem bc6 : ∀ k, k < 127 → (nI (bc k)).toInt ≤ 6 ∧ 0 ≤ (nI (bc k)).toInt := by decide +kernel
theorem dX0_isFull_0 : decode cX0_isFull 0 = .ok (.aload_n 0, 1) := by decide +kernel
theorem dX0_isFull_1 : decode cX0_isFull 1 = .ok (.getfield 23, 3) := by decide +kernel
theorem dX0_isFull_4 : decode cX0_isFull 4 = .ok (.bipush 60, 2) := by decide +kernel
theorem dX0_isFull_6 : decode cX0_isFull 6 = .ok (.if_icmp .lt 7, 3) := by decide +kernel
theorem dX0_isFull_9 : decode cX0_isFull 9 = .ok (.iconst 1, 1) := by decide +kernel
theorem dX0_isFull_10 : decode cX0_isFull 10 = .ok (.goto 4, 3) := by decide +kernel
theorem dX0_isFull_13 : decode cX0_isFull 13 = .ok (.iconst 0, 1) := by decide +kernel
theorem dX0_isFull_14 : decode cX0_isFull 14 = .ok (.ireturn, 1) := by decide +kernel
theorem dX0_turnPage_0 : decode cX0_turnPage 0 = .ok (.aload_n 0, 1) := by decide +kernel
theorem dX0_turnPage_1 : decode cX0_turnPage 1 = .ok (.invokevirtual 27, 3) := by decide +kernel
theorem dX0_turnPage_4 : decode cX0_turnPage 4 = .ok (.ifCond .eq 4, 3) := by decide +kernel
theorem dX0_turnPage_7 : decode cX0_turnPage 7 = .ok (.return_, 1) := by decide +kernel
theorem dX0_turnPage_8 : decode cX0_turnPage 8 = .ok (.iconst 0, 1) := by decide +kernel
theorem dX0_turnPage_9 : decode cX0_turnPage 9 = .ok (.istore_n 1, 1) := by decide +kernel
theorem dX0_turnPage_10 : decode cX0_turnPage 10 = .ok (.iload_n 1, 1) := by decide +kernel
theorem dX0_turnPage_11 : decode cX0_turnPage 11 = .ok (.bipush 8, 2) := by decide +kernel
theorem dX0_turnPage_13 : decode cX0_turnPage 13 = .ok (.if_icmp .ge 39, 3) := by decide +kernel
theorem dX0_turnPage_16 : decode cX0_turnPage 16 = .ok (.aload_n 0, 1) := by decide +kernel
theorem dX0_turnPage_17 : decode cX0_turnPage 17 = .ok (.getfield 11, 3) := by decide +kernel
theorem dX0_turnPage_20 : decode cX0_turnPage 20 = .ok (.aload_n 0, 1) := by decide +kernel
theorem dX0_turnPage_21 : decode cX0_turnPage 21 = .ok (.getfield 23, 3) := by decide +kernel
theorem dX0_turnPage_24 : decode cX0_turnPage 24 = .ok (.iconst 1, 1) := by decide +kernel
theorem dX0_turnPage_25 : decode cX0_turnPage 25 = .ok (.iadd, 1) := by decide +kernel
theorem dX0_turnPage_26 : decode cX0_turnPage 26 = .ok (.bipush 8, 2) := by decide +kernel
theorem dX0_turnPage_28 : decode cX0_turnPage 28 = .ok (.imul, 1) := by decide +kernel
theorem dX0_turnPage_29 : decode cX0_turnPage 29 = .ok (.iload_n 1, 1) := by decide +kernel
theorem dX0_turnPage_30 : decode cX0_turnPage 30 = .ok (.iadd, 1) := by decide +kernel
theorem dX0_turnPage_31 : decode cX0_turnPage 31 = .ok (.aload_n 0, 1) := by decide +kernel
theorem dX0_turnPage_32 : decode cX0_turnPage 32 = .ok (.getfield 11, 3) := by decide +kernel
theorem dX0_turnPage_35 : decode cX0_turnPage 35 = .ok (.aload_n 0, 1) := by decide +kernel
theorem dX0_turnPage_36 : decode cX0_turnPage 36 = .ok (.getfield 23, 3) := by decide +kernel
theorem dX0_turnPage_39 : decode cX0_turnPage 39 = .ok (.bipush 8, 2) := by decide +kernel
theorem dX0_turnPage_41 : decode cX0_turnPage 41 = .ok (.imul, 1) := by decide +kernel
theorem dX0_turnPage_42 : decode cX0_turnPage 42 = .ok (.iload_n 1, 1) := by decide +kernel
theorem dX0_turnPage_43 : decode cX0_turnPage 43 = .ok (.iadd, 1) := by decide +kernel
theorem dX0_turnPage_44 : decode cX0_turnPage 44 = .ok (.aaload, 1) := by decide +kernel
theorem dX0_turnPage_45 : decode cX0_turnPage 45 = .ok (.aastore, 1) := by decide +kernel
theorem dX0_turnPage_46 : decode cX0_turnPage 46 = .ok (.iinc 1 1, 3) := by decide +kernel
theorem dX0_turnPage_49 : decode cX0_turnPage 49 = .ok (.goto (-39), 3) := by decide +kernel
theorem dX0_turnPage_52 : decode cX0_turnPage 52 = .ok (.aload_n 0, 1) := by decide +kernel
theorem dX0_turnPage_53 : decode cX0_turnPage 53 = .ok (.getfield 19, 3) := by decide +kernel
theorem dX0_turnPage_56 : decode cX0_turnPage 56 = .ok (.aload_n 0, 1) := by decide +kernel
theorem dX0_turnPage_57 : decode cX0_turnPage 57 = .ok (.getfield 23, 3) := by decide +kernel
theorem dX0_turnPage_60 : decode cX0_turnPage 60 = .ok (.iconst 1, 1) := by decide +kernel
theorem dX0_turnPage_61 : decode cX0_turnPage 61 = .ok (.iadd, 1) := by decide +kernel
theorem dX0_turnPage_62 : decode cX0_turnPage 62 = .ok (.aload_n 0, 1) := by decide +kernel
theorem dX0_turnPage_63 : decode cX0_turnPage 63 = .ok (.getfield 19, 3) := by decide +kernel
theorem dX0_turnPage_66 : decode cX0_turnPage 66 = .ok (.aload_n 0, 1) := by decide +kernel
theorem dX0_turnPage_67 : decode cX0_turnPage 67 = .ok (.getfield 23, 3) := by decide +kernel
theorem dX0_turnPage_70 : decode cX0_turnPage 70 = .ok (.aaload, 1) := by decide +kernel
theorem dX0_turnPage_71 : decode cX0_turnPage 71 = .ok (.aastore, 1) := by decide +kernel
theorem dX0_turnPage_72 : decode cX0_turnPage 72 = .ok (.aload_n 0, 1) := by decide +kernel
theorem dX0_turnPage_73 : decode cX0_turnPage 73 = .ok (.dup, 1) := by decide +kernel
theorem dX0_turnPage_74 : decode cX0_turnPage 74 = .ok (.getfield 23, 3) := by decide +kernel
theorem dX0_turnPage_77 : decode cX0_turnPage 77 = .ok (.iconst 1, 1) := by decide +kernel
theorem dX0_turnPage_78 : decode cX0_turnPage 78 = .ok (.iadd, 1) := by decide +kernel
theorem dX0_turnPage_79 : decode cX0_turnPage 79 = .ok (.putfield 23, 3) := by decide +kernel
theorem dX0_turnPage_82 : decode cX0_turnPage 82 = .ok (.aload_n 0, 1) := by decide +kernel
theorem dX0_turnPage_83 : decode cX0_turnPage 83 = .ok (.aload_n 0, 1) := by decide +kernel
theorem dX0_turnPage_84 : decode cX0_turnPage 84 = .ok (.getfield 23, 3) := by decide +kernel
theorem dX0_turnPage_87 : decode cX0_turnPage 87 = .ok (.putfield 31, 3) := by decide +kernel
theorem dX0_turnPage_90 : decode cX0_turnPage 90 = .ok (.return_, 1) := by decide +kernel
theorem dX0_writeRow_0 : decode cX0_writeRow 0 = .ok (.iload_n 1, 1) := by decide +kernel
theorem dX0_writeRow_1 : decode cX0_writeRow 1 = .ok (.ifCond .lt 24, 3) := by decide +kernel
theorem dX0_writeRow_4 : decode cX0_writeRow 4 = .ok (.iload_n 1, 1) := by decide +kernel
theorem dX0_writeRow_5 : decode cX0_writeRow 5 = .ok (.bipush 8, 2) := by decide +kernel
theorem dX0_writeRow_7 : decode cX0_writeRow 7 = .ok (.if_icmp .ge 18, 3) := by decide +kernel
theorem dX0_writeRow_10 : decode cX0_writeRow 10 = .ok (.aload_n 0, 1) := by decide +kernel
theorem dX0_writeRow_11 : decode cX0_writeRow 11 = .ok (.getfield 11, 3) := by decide +kernel
theorem dX0_writeRow_14 : decode cX0_writeRow 14 = .ok (.aload_n 0, 1) := by decide +kernel
theorem dX0_writeRow_15 : decode cX0_writeRow 15 = .ok (.getfield 23, 3) := by decide +kernel
theorem dX0_writeRow_18 : decode cX0_writeRow 18 = .ok (.bipush 8, 2) := by decide +kernel
theorem dX0_writeRow_20 : decode cX0_writeRow 20 = .ok (.imul, 1) := by decide +kernel
theorem dX0_writeRow_21 : decode cX0_writeRow 21 = .ok (.iload_n 1, 1) := by decide +kernel
theorem dX0_writeRow_22 : decode cX0_writeRow 22 = .ok (.iadd, 1) := by decide +kernel
theorem dX0_writeRow_23 : decode cX0_writeRow 23 = .ok (.aload_n 2, 1) := by decide +kernel
theorem dX0_writeRow_24 : decode cX0_writeRow 24 = .ok (.aastore, 1) := by decide +kernel
theorem dX0_writeRow_25 : decode cX0_writeRow 25 = .ok (.return_, 1) := by decide +kernel
theorem dX0_writeMarks_0 : decode cX0_writeMarks 0 = .ok (.aload_n 0, 1) := by decide +kernel
theorem dX0_writeMarks_1 : decode cX0_writeMarks 1 = .ok (.getfield 19, 3) := by decide +kernel
theorem dX0_writeMarks_4 : decode cX0_writeMarks 4 = .ok (.aload_n 0, 1) := by decide +kernel
theorem dX0_writeMarks_5 : decode cX0_writeMarks 5 = .ok (.getfield 23, 3) := by decide +kernel
theorem dX0_writeMarks_8 : decode cX0_writeMarks 8 = .ok (.aload_n 1, 1) := by decide +kernel
theorem dX0_writeMarks_9 : decode cX0_writeMarks 9 = .ok (.aastore, 1) := by decide +kernel
theorem dX0_writeMarks_10 : decode cX0_writeMarks 10 = .ok (.return_, 1) := by decide +kernel
theorem dX0_rowSeen_0 : decode cX0_rowSeen 0 = .ok (.aload_n 0, 1) := by decide +kernel
theorem dX0_rowSeen_1 : decode cX0_rowSeen 1 = .ok (.aload_n 0, 1) := by decide +kernel
theorem dX0_rowSeen_2 : decode cX0_rowSeen 2 = .ok (.getfield 31, 3) := by decide +kernel
theorem dX0_rowSeen_5 : decode cX0_rowSeen 5 = .ok (.iload_n 1, 1) := by decide +kernel
theorem dX0_rowSeen_6 : decode cX0_rowSeen 6 = .ok (.invokevirtual 34, 3) := by decide +kernel
theorem dX0_rowSeen_9 : decode cX0_rowSeen 9 = .ok (.areturn, 1) := by decide +kernel
theorem dX0_rowLatest_0 : decode cX0_rowLatest 0 = .ok (.aload_n 0, 1) := by decide +kernel
theorem dX0_rowLatest_1 : decode cX0_rowLatest 1 = .ok (.aload_n 0, 1) := by decide +kernel
theorem dX0_rowLatest_2 : decode cX0_rowLatest 2 = .ok (.getfield 23, 3) := by decide +kernel
theorem dX0_rowLatest_5 : decode cX0_rowLatest 5 = .ok (.iload_n 1, 1) := by decide +kernel
theorem dX0_rowLatest_6 : decode cX0_rowLatest 6 = .ok (.invokevirtual 34, 3) := by decide +kernel
theorem dX0_rowLatest_9 : decode cX0_rowLatest 9 = .ok (.areturn, 1) := by decide +kernel
theorem dX0_marksSeen_0 : decode cX0_marksSeen 0 = .ok (.aload_n 0, 1) := by decide +kernel
theorem dX0_marksSeen_1 : decode cX0_marksSeen 1 = .ok (.getfield 19, 3) := by decide +kernel
theorem dX0_marksSeen_4 : decode cX0_marksSeen 4 = .ok (.aload_n 0, 1) := by decide +kernel
theorem dX0_marksSeen_5 : decode cX0_marksSeen 5 = .ok (.getfield 31, 3) := by decide +kernel
theorem dX0_marksSeen_8 : decode cX0_marksSeen 8 = .ok (.aaload, 1) := by decide +kernel
theorem dX0_marksSeen_9 : decode cX0_marksSeen 9 = .ok (.areturn, 1) := by decide +kernel
theorem dX0_lettersSeen_0 : decode cX0_lettersSeen 0 = .ok (.iconst 0, 1) := by decide +kernel
theorem dX0_lettersSeen_1 : decode cX0_lettersSeen 1 = .ok (.istore_n 1, 1) := by decide +kernel
theorem dX0_lettersSeen_2 : decode cX0_lettersSeen 2 = .ok (.iconst 0, 1) := by decide +kernel
theorem dX0_lettersSeen_3 : decode cX0_lettersSeen 3 = .ok (.istore_n 2, 1) := by decide +kernel
theorem dX0_lettersSeen_4 : decode cX0_lettersSeen 4 = .ok (.iload_n 2, 1) := by decide +kernel
theorem dX0_lettersSeen_5 : decode cX0_lettersSeen 5 = .ok (.bipush 8, 2) := by decide +kernel
theorem dX0_lettersSeen_7 : decode cX0_lettersSeen 7 = .ok (.if_icmp .ge 20, 3) := by decide +kernel
theorem dX0_lettersSeen_10 : decode cX0_lettersSeen 10 = .ok (.aload_n 0, 1) := by decide +kernel
theorem dX0_lettersSeen_11 : decode cX0_lettersSeen 11 = .ok (.iload_n 2, 1) := by decide +kernel
theorem dX0_lettersSeen_12 : decode cX0_lettersSeen 12 = .ok (.invokevirtual 38, 3) := by decide +kernel
theorem dX0_lettersSeen_15 : decode cX0_lettersSeen 15 = .ok (.ifnull 6, 3) := by decide +kernel
theorem dX0_lettersSeen_18 : decode cX0_lettersSeen 18 = .ok (.iinc 1 1, 3) := by decide +kernel
theorem dX0_lettersSeen_21 : decode cX0_lettersSeen 21 = .ok (.iinc 2 1, 3) := by decide +kernel
theorem dX0_lettersSeen_24 : decode cX0_lettersSeen 24 = .ok (.goto (-20), 3) := by decide +kernel
theorem dX0_lettersSeen_27 : decode cX0_lettersSeen 27 = .ok (.iload_n 1, 1) := by decide +kernel
theorem dX0_lettersSeen_28 : decode cX0_lettersSeen 28 = .ok (.ireturn, 1) := by decide +kernel
theorem dX0_rowAt_0 : decode cX0_rowAt 0 = .ok (.iload_n 2, 1) := by decide +kernel
theorem dX0_rowAt_1 : decode cX0_rowAt 1 = .ok (.ifCond .lt 9, 3) := by decide +kernel
theorem dX0_rowAt_4 : decode cX0_rowAt 4 = .ok (.iload_n 2, 1) := by decide +kernel
theorem dX0_rowAt_5 : decode cX0_rowAt 5 = .ok (.bipush 8, 2) := by decide +kernel
theorem dX0_rowAt_7 : decode cX0_rowAt 7 = .ok (.if_icmp .lt 7, 3) := by decide +kernel
theorem dX0_rowAt_10 : decode cX0_rowAt 10 = .ok (.aconst_null, 1) := by decide +kernel
theorem dX0_rowAt_11 : decode cX0_rowAt 11 = .ok (.goto 14, 3) := by decide +kernel
theorem dX0_rowAt_14 : decode cX0_rowAt 14 = .ok (.aload_n 0, 1) := by decide +kernel
theorem dX0_rowAt_15 : decode cX0_rowAt 15 = .ok (.getfield 11, 3) := by decide +kernel
theorem dX0_rowAt_18 : decode cX0_rowAt 18 = .ok (.iload_n 1, 1) := by decide +kernel
theorem dX0_rowAt_19 : decode cX0_rowAt 19 = .ok (.bipush 8, 2) := by decide +kernel
theorem dX0_rowAt_21 : decode cX0_rowAt 21 = .ok (.imul, 1) := by decide +kernel
theorem dX0_rowAt_22 : decode cX0_rowAt 22 = .ok (.iload_n 2, 1) := by decide +kernel
theorem dX0_rowAt_23 : decode cX0_rowAt 23 = .ok (.iadd, 1) := by decide +kernel
theorem dX0_rowAt_24 : decode cX0_rowAt 24 = .ok (.aaload, 1) := by decide +kernel
theorem dX0_rowAt_25 : decode cX0_rowAt 25 = .ok (.areturn, 1) := by decide +kernel
theorem dX3_write_0 : decode cX3_write 0 = .ok (.aload_n 0, 1) := by decide +kernel
theorem dX3_write_1 : decode cX3_write 1 = .ok (.getfield 15, 3) := by decide +kernel
theorem dX3_write_4 : decode cX3_write 4 = .ok (.aload_n 0, 1) := by decide +kernel
theorem dX3_write_5 : decode cX3_write 5 = .ok (.getfield 9, 3) := by decide +kernel
theorem dX3_write_8 : decode cX3_write 8 = .ok (.arraylength, 1) := by decide +kernel
theorem dX3_write_9 : decode cX3_write 9 = .ok (.if_icmp .lt 5, 3) := by decide +kernel
theorem dX3_write_12 : decode cX3_write 12 = .ok (.iconst 0, 1) := by decide +kernel
theorem dX3_write_13 : decode cX3_write 13 = .ok (.ireturn, 1) := by decide +kernel
theorem dX3_write_14 : decode cX3_write 14 = .ok (.aload_n 0, 1) := by decide +kernel
theorem dX3_write_15 : decode cX3_write 15 = .ok (.getfield 9, 3) := by decide +kernel
theorem dX3_write_18 : decode cX3_write 18 = .ok (.aload_n 0, 1) := by decide +kernel
theorem dX3_write_19 : decode cX3_write 19 = .ok (.getfield 15, 3) := by decide +kernel
theorem dX3_write_22 : decode cX3_write 22 = .ok (.iload_n 1, 1) := by decide +kernel
theorem dX3_write_23 : decode cX3_write 23 = .ok (.iastore, 1) := by decide +kernel
theorem dX3_write_24 : decode cX3_write 24 = .ok (.aload_n 0, 1) := by decide +kernel
theorem dX3_write_25 : decode cX3_write 25 = .ok (.dup, 1) := by decide +kernel
theorem dX3_write_26 : decode cX3_write 26 = .ok (.getfield 15, 3) := by decide +kernel
theorem dX3_write_29 : decode cX3_write 29 = .ok (.iconst 1, 1) := by decide +kernel
theorem dX3_write_30 : decode cX3_write 30 = .ok (.iadd, 1) := by decide +kernel
theorem dX3_write_31 : decode cX3_write 31 = .ok (.putfield 15, 3) := by decide +kernel
theorem dX3_write_34 : decode cX3_write 34 = .ok (.iconst 1, 1) := by decide +kernel
theorem dX3_write_35 : decode cX3_write 35 = .ok (.ireturn, 1) := by decide +kernel
theorem dX6_hasRoom_0 : decode cX6_hasRoom 0 = .ok (.aload_n 0, 1) := by decide +kernel
theorem dX6_hasRoom_1 : decode cX6_hasRoom 1 = .ok (.getfield 16, 3) := by decide +kernel
theorem dX6_hasRoom_4 : decode cX6_hasRoom 4 = .ok (.iload_n 1, 1) := by decide +kernel
theorem dX6_hasRoom_5 : decode cX6_hasRoom 5 = .ok (.iadd, 1) := by decide +kernel
theorem dX6_hasRoom_6 : decode cX6_hasRoom 6 = .ok (.sipush 300, 3) := by decide +kernel
theorem dX6_hasRoom_9 : decode cX6_hasRoom 9 = .ok (.if_icmp .gt 7, 3) := by decide +kernel
theorem dX6_hasRoom_12 : decode cX6_hasRoom 12 = .ok (.iconst 1, 1) := by decide +kernel
theorem dX6_hasRoom_13 : decode cX6_hasRoom 13 = .ok (.goto 4, 3) := by decide +kernel
theorem dX6_hasRoom_16 : decode cX6_hasRoom 16 = .ok (.iconst 0, 1) := by decide +kernel
theorem dX6_hasRoom_17 : decode cX6_hasRoom 17 = .ok (.ireturn, 1) := by decide +kernel
theorem dX6_write_0 : decode cX6_write 0 = .ok (.aload_n 0, 1) := by decide +kernel
theorem dX6_write_1 : decode cX6_write 1 = .ok (.getfield 16, 3) := by decide +kernel
theorem dX6_write_4 : decode cX6_write 4 = .ok (.sipush 300, 3) := by decide +kernel
theorem dX6_write_7 : decode cX6_write 7 = .ok (.if_icmp .ge 33, 3) := by decide +kernel
theorem dX6_write_10 : decode cX6_write 10 = .ok (.aload_n 0, 1) := by decide +kernel
theorem dX6_write_11 : decode cX6_write 11 = .ok (.getfield 9, 3) := by decide +kernel
theorem dX6_write_14 : decode cX6_write 14 = .ok (.aload_n 0, 1) := by decide +kernel
theorem dX6_write_15 : decode cX6_write 15 = .ok (.getfield 16, 3) := by decide +kernel
theorem dX6_write_18 : decode cX6_write 18 = .ok (.iload_n 1, 1) := by decide +kernel
theorem dX6_write_19 : decode cX6_write 19 = .ok (.iastore, 1) := by decide +kernel
theorem dX6_write_20 : decode cX6_write 20 = .ok (.aload_n 0, 1) := by decide +kernel
theorem dX6_write_21 : decode cX6_write 21 = .ok (.getfield 13, 3) := by decide +kernel
theorem dX6_write_24 : decode cX6_write 24 = .ok (.aload_n 0, 1) := by decide +kernel
theorem dX6_write_25 : decode cX6_write 25 = .ok (.getfield 16, 3) := by decide +kernel
theorem dX6_write_28 : decode cX6_write 28 = .ok (.iload_n 2, 1) := by decide +kernel
theorem dX6_write_29 : decode cX6_write 29 = .ok (.iastore, 1) := by decide +kernel
theorem dX6_write_30 : decode cX6_write 30 = .ok (.aload_n 0, 1) := by decide +kernel
theorem dX6_write_31 : decode cX6_write 31 = .ok (.dup, 1) := by decide +kernel
theorem dX6_write_32 : decode cX6_write 32 = .ok (.getfield 16, 3) := by decide +kernel
theorem dX6_write_35 : decode cX6_write 35 = .ok (.iconst 1, 1) := by decide +kernel
theorem dX6_write_36 : decode cX6_write 36 = .ok (.iadd, 1) := by decide +kernel
theorem dX6_write_37 : decode cX6_write 37 = .ok (.putfield 16, 3) := by decide +kernel
theorem dX6_write_40 : decode cX6_write 40 = .ok (.return_, 1) := by decide +kernel
theorem dX6_writeRow_0 : decode cX6_writeRow 0 = .ok (.iconst 0, 1) := by decide +kernel
theorem dX6_writeRow_1 : decode cX6_writeRow 1 = .ok (.istore_n 3, 1) := by decide +kernel
theorem dX6_writeRow_2 : decode cX6_writeRow 2 = .ok (.iload_n 3, 1) := by decide +kernel
theorem dX6_writeRow_3 : decode cX6_writeRow 3 = .ok (.aload_n 1, 1) := by decide +kernel
theorem dX6_writeRow_4 : decode cX6_writeRow 4 = .ok (.getfield 20, 3) := by decide +kernel
theorem dX6_writeRow_7 : decode cX6_writeRow 7 = .ok (.if_icmp .ge 25, 3) := by decide +kernel
theorem dX6_writeRow_10 : decode cX6_writeRow 10 = .ok (.aload_n 0, 1) := by decide +kernel
theorem dX6_writeRow_11 : decode cX6_writeRow 11 = .ok (.aload_n 1, 1) := by decide +kernel
theorem dX6_writeRow_12 : decode cX6_writeRow 12 = .ok (.aload_n 1, 1) := by decide +kernel
theorem dX6_writeRow_13 : decode cX6_writeRow 13 = .ok (.iload_n 3, 1) := by decide +kernel
theorem dX6_writeRow_14 : decode cX6_writeRow 14 = .ok (.iconst 0, 1) := by decide +kernel
theorem dX6_writeRow_15 : decode cX6_writeRow 15 = .ok (.iconst 0, 1) := by decide +kernel
theorem dX6_writeRow_16 : decode cX6_writeRow 16 = .ok (.invokevirtual 23, 3) := by decide +kernel
theorem dX6_writeRow_19 : decode cX6_writeRow 19 = .ok (.invokevirtual 27, 3) := by decide +kernel
theorem dX6_writeRow_22 : decode cX6_writeRow 22 = .ok (.iload_n 2, 1) := by decide +kernel
theorem dX6_writeRow_23 : decode cX6_writeRow 23 = .ok (.invokevirtual 31, 3) := by decide +kernel
theorem dX6_writeRow_26 : decode cX6_writeRow 26 = .ok (.iinc 3 1, 3) := by decide +kernel
theorem dX6_writeRow_29 : decode cX6_writeRow 29 = .ok (.goto (-27), 3) := by decide +kernel
theorem dX6_writeRow_32 : decode cX6_writeRow 32 = .ok (.return_, 1) := by decide +kernel
theorem dX7_hasRoom_0 : decode cX7_hasRoom 0 = .ok (.aload_n 0, 1) := by decide +kernel
theorem dX7_hasRoom_1 : decode cX7_hasRoom 1 = .ok (.getfield 15, 3) := by decide +kernel
theorem dX7_hasRoom_4 : decode cX7_hasRoom 4 = .ok (.iload_n 1, 1) := by decide +kernel
theorem dX7_hasRoom_5 : decode cX7_hasRoom 5 = .ok (.iadd, 1) := by decide +kernel
theorem dX7_hasRoom_6 : decode cX7_hasRoom 6 = .ok (.aload_n 0, 1) := by decide +kernel
theorem dX7_hasRoom_7 : decode cX7_hasRoom 7 = .ok (.getfield 9, 3) := by decide +kernel
theorem dX7_hasRoom_10 : decode cX7_hasRoom 10 = .ok (.arraylength, 1) := by decide +kernel
theorem dX7_hasRoom_11 : decode cX7_hasRoom 11 = .ok (.if_icmp .gt 7, 3) := by decide +kernel
theorem dX7_hasRoom_14 : decode cX7_hasRoom 14 = .ok (.iconst 1, 1) := by decide +kernel
theorem dX7_hasRoom_15 : decode cX7_hasRoom 15 = .ok (.goto 4, 3) := by decide +kernel
theorem dX7_hasRoom_18 : decode cX7_hasRoom 18 = .ok (.iconst 0, 1) := by decide +kernel
theorem dX7_hasRoom_19 : decode cX7_hasRoom 19 = .ok (.ireturn, 1) := by decide +kernel
theorem dX7_take_0 : decode cX7_take 0 = .ok (.bipush 24, 2) := by decide +kernel
theorem dX7_take_2 : decode cX7_take 2 = .ok (.istore_n 2, 1) := by decide +kernel
theorem dX7_take_3 : decode cX7_take 3 = .ok (.iload_n 2, 1) := by decide +kernel
theorem dX7_take_4 : decode cX7_take 4 = .ok (.ifCond .lt 47, 3) := by decide +kernel
theorem dX7_take_7 : decode cX7_take 7 = .ok (.aload_n 0, 1) := by decide +kernel
theorem dX7_take_8 : decode cX7_take 8 = .ok (.getfield 15, 3) := by decide +kernel
theorem dX7_take_11 : decode cX7_take 11 = .ok (.aload_n 0, 1) := by decide +kernel
theorem dX7_take_12 : decode cX7_take 12 = .ok (.getfield 9, 3) := by decide +kernel
theorem dX7_take_15 : decode cX7_take 15 = .ok (.arraylength, 1) := by decide +kernel
theorem dX7_take_16 : decode cX7_take 16 = .ok (.if_icmp .ge 35, 3) := by decide +kernel
theorem dX7_take_19 : decode cX7_take 19 = .ok (.aload_n 0, 1) := by decide +kernel
theorem dX7_take_20 : decode cX7_take 20 = .ok (.getfield 9, 3) := by decide +kernel
theorem dX7_take_23 : decode cX7_take 23 = .ok (.aload_n 0, 1) := by decide +kernel
theorem dX7_take_24 : decode cX7_take 24 = .ok (.getfield 15, 3) := by decide +kernel
theorem dX7_take_27 : decode cX7_take 27 = .ok (.iload_n 1, 1) := by decide +kernel
theorem dX7_take_28 : decode cX7_take 28 = .ok (.iload_n 2, 1) := by decide +kernel
theorem dX7_take_29 : decode cX7_take 29 = .ok (.iushr, 1) := by decide +kernel
theorem dX7_take_30 : decode cX7_take 30 = .ok (.sipush 255, 3) := by decide +kernel
theorem dX7_take_33 : decode cX7_take 33 = .ok (.iand, 1) := by decide +kernel
theorem dX7_take_34 : decode cX7_take 34 = .ok (.iastore, 1) := by decide +kernel
theorem dX7_take_35 : decode cX7_take 35 = .ok (.aload_n 0, 1) := by decide +kernel
theorem dX7_take_36 : decode cX7_take 36 = .ok (.dup, 1) := by decide +kernel
theorem dX7_take_37 : decode cX7_take 37 = .ok (.getfield 15, 3) := by decide +kernel
theorem dX7_take_40 : decode cX7_take 40 = .ok (.iconst 1, 1) := by decide +kernel
theorem dX7_take_41 : decode cX7_take 41 = .ok (.iadd, 1) := by decide +kernel
theorem dX7_take_42 : decode cX7_take 42 = .ok (.putfield 15, 3) := by decide +kernel
theorem dX7_take_45 : decode cX7_take 45 = .ok (.iinc 2 (-8), 3) := by decide +kernel
theorem dX7_take_48 : decode cX7_take 48 = .ok (.goto (-45), 3) := by decide +kernel
theorem dX7_take_51 : decode cX7_take 51 = .ok (.return_, 1) := by decide +kernel
theorem dX7_byteAt_0 : decode cX7_byteAt 0 = .ok (.iload_n 1, 1) := by decide +kernel
theorem dX7_byteAt_1 : decode cX7_byteAt 1 = .ok (.ifCond .lt 11, 3) := by decide +kernel
theorem dX7_byteAt_4 : decode cX7_byteAt 4 = .ok (.iload_n 1, 1) := by decide +kernel
theorem dX7_byteAt_5 : decode cX7_byteAt 5 = .ok (.aload_n 0, 1) := by decide +kernel
theorem dX7_byteAt_6 : decode cX7_byteAt 6 = .ok (.getfield 15, 3) := by decide +kernel
theorem dX7_byteAt_9 : decode cX7_byteAt 9 = .ok (.if_icmp .lt 7, 3) := by decide +kernel
theorem dX7_byteAt_12 : decode cX7_byteAt 12 = .ok (.iconst (-1), 1) := by decide +kernel
theorem dX7_byteAt_13 : decode cX7_byteAt 13 = .ok (.goto 9, 3) := by decide +kernel
theorem dX7_byteAt_16 : decode cX7_byteAt 16 = .ok (.aload_n 0, 1) := by decide +kernel
theorem dX7_byteAt_17 : decode cX7_byteAt 17 = .ok (.getfield 9, 3) := by decide +kernel
theorem dX7_byteAt_20 : decode cX7_byteAt 20 = .ok (.iload_n 1, 1) := by decide +kernel
theorem dX7_byteAt_21 : decode cX7_byteAt 21 = .ok (.iaload, 1) := by decide +kernel
theorem dX7_byteAt_22 : decode cX7_byteAt 22 = .ok (.ireturn, 1) := by decide +kernel
theorem dX9_stateOf_0 : decode cX9_stateOf 0 = .ok (.iconst 0, 1) := by decide +kernel
theorem dX9_stateOf_1 : decode cX9_stateOf 1 = .ok (.istore_n 2, 1) := by decide +kernel
theorem dX9_stateOf_2 : decode cX9_stateOf 2 = .ok (.iconst 1, 1) := by decide +kernel
theorem dX9_stateOf_3 : decode cX9_stateOf 3 = .ok (.istore_n 3, 1) := by decide +kernel
theorem dX9_stateOf_4 : decode cX9_stateOf 4 = .ok (.iload_n 3, 1) := by decide +kernel
theorem dX9_stateOf_5 : decode cX9_stateOf 5 = .ok (.bipush 9, 2) := by decide +kernel
theorem dX9_stateOf_7 : decode cX9_stateOf 7 = .ok (.if_icmp .gt 43, 3) := by decide +kernel
theorem dX9_stateOf_10 : decode cX9_stateOf 10 = .ok (.aload_n 0, 1) := by decide +kernel
theorem dX9_stateOf_11 : decode cX9_stateOf 11 = .ok (.aload_n 0, 1) := by decide +kernel
theorem dX9_stateOf_12 : decode cX9_stateOf 12 = .ok (.aload_n 0, 1) := by decide +kernel
theorem dX9_stateOf_13 : decode cX9_stateOf 13 = .ok (.iload_n 1, 1) := by decide +kernel
theorem dX9_stateOf_14 : decode cX9_stateOf 14 = .ok (.iload_n 3, 1) := by decide +kernel
theorem dX9_stateOf_15 : decode cX9_stateOf 15 = .ok (.isub, 1) := by decide +kernel
theorem dX9_stateOf_16 : decode cX9_stateOf 16 = .ok (.invokevirtual 24, 3) := by decide +kernel
theorem dX9_stateOf_19 : decode cX9_stateOf 19 = .ok (.iconst 0, 1) := by decide +kernel
theorem dX9_stateOf_20 : decode cX9_stateOf 20 = .ok (.iconst 0, 1) := by decide +kernel
theorem dX9_stateOf_21 : decode cX9_stateOf 21 = .ok (.invokevirtual 30, 3) := by decide +kernel
theorem dX9_stateOf_24 : decode cX9_stateOf 24 = .ok (.invokevirtual 34, 3) := by decide +kernel
theorem dX9_stateOf_27 : decode cX9_stateOf 27 = .ok (.istore 4, 2) := by decide +kernel
theorem dX9_stateOf_29 : decode cX9_stateOf 29 = .ok (.iload 4, 2) := by decide +kernel
theorem dX9_stateOf_31 : decode cX9_stateOf 31 = .ok (.iload_n 3, 1) := by decide +kernel
theorem dX9_stateOf_32 : decode cX9_stateOf 32 = .ok (.if_icmp .lt 12, 3) := by decide +kernel
theorem dX9_stateOf_35 : decode cX9_stateOf 35 = .ok (.iload_n 2, 1) := by decide +kernel
theorem dX9_stateOf_36 : decode cX9_stateOf 36 = .ok (.iconst 1, 1) := by decide +kernel
theorem dX9_stateOf_37 : decode cX9_stateOf 37 = .ok (.iload 4, 2) := by decide +kernel
theorem dX9_stateOf_39 : decode cX9_stateOf 39 = .ok (.iload_n 3, 1) := by decide +kernel
theorem dX9_stateOf_40 : decode cX9_stateOf 40 = .ok (.isub, 1) := by decide +kernel
theorem dX9_stateOf_41 : decode cX9_stateOf 41 = .ok (.ishl, 1) := by decide +kernel
theorem dX9_stateOf_42 : decode cX9_stateOf 42 = .ok (.ior, 1) := by decide +kernel
theorem dX9_stateOf_43 : decode cX9_stateOf 43 = .ok (.istore_n 2, 1) := by decide +kernel
theorem dX9_stateOf_44 : decode cX9_stateOf 44 = .ok (.iinc 3 1, 3) := by decide +kernel
theorem dX9_stateOf_47 : decode cX9_stateOf 47 = .ok (.goto (-43), 3) := by decide +kernel
theorem dX9_stateOf_50 : decode cX9_stateOf 50 = .ok (.iload_n 2, 1) := by decide +kernel
theorem dX9_stateOf_51 : decode cX9_stateOf 51 = .ok (.ireturn, 1) := by decide +kernel
set_option maxRecDepth 20000 in
theorem ggX0_turnPage_X0_isFull : GoodIn wsX0_turnPage wsX0_isFull := goodIn_r _ [9, 2, 10, 11, 12, 13] (by decide +kernel) (by decide +kernel)
set_option maxRecDepth 20000 in
theorem gX0_turnPage_X0_isFull : GoodIn wsX0_turnPage (wsV RX0 27 RX0 yX0_isFull wsX0_isFull) := goodIn_app (goodIn_of _ (by decide +kernel)) ggX0_turnPage_X0_isFull
set_option maxRecDepth 20000 in
theorem ggX0_rowSeen_X0_rowAt : GoodIn wsX0_rowSeen wsX0_rowAt := goodIn_r _ [6, 7, 8, 9, 10, 11] (by decide +kernel) (by decide +kernel)
set_option maxRecDepth 20000 in
theorem gX0_rowSeen_X0_rowAt : GoodIn wsX0_rowSeen (wsV RX0 34 RX0 yX0_rowAt wsX0_rowAt) := goodIn_app (goodIn_of _ (by decide +kernel)) ggX0_rowSeen_X0_rowAt
set_option maxRecDepth 20000 in
theorem ggX0_rowLatest_X0_rowAt : GoodIn wsX0_rowLatest wsX0_rowAt := goodIn_r _ [6, 7, 8, 9, 10, 11] (by decide +kernel) (by decide +kernel)
set_option maxRecDepth 20000 in
theorem gX0_rowLatest_X0_rowAt : GoodIn wsX0_rowLatest (wsV RX0 34 RX0 yX0_rowAt wsX0_rowAt) := goodIn_app (goodIn_of _ (by decide +kernel)) ggX0_rowLatest_X0_rowAt
set_option maxRecDepth 20000 in
theorem ggX0_lettersSeen_X0_rowSeen : GoodIn wsX0_lettersSeen wsX0_rowSeen := goodIn_r _ [5, 6, 7, 8, 9, 4, 10, 11, 12, 13, 14, 15] (by decide +kernel) (by decide +kernel)
set_option maxRecDepth 20000 in
theorem gX0_lettersSeen_X0_rowSeen : GoodIn wsX0_lettersSeen (wsV RX0 38 RX0 yX0_rowSeen wsX0_rowSeen) := goodIn_app (goodIn_of _ (by decide +kernel)) ggX0_lettersSeen_X0_rowSeen
set_option maxRecDepth 20000 in
theorem ggX6_writeRow_X5_cellAt : GoodIn wsX6_writeRow wsX5_cellAt := goodIn_r _ [5, 6, 7, 8, 22, 23, 24, 25] (by decide +kernel) (by decide +kernel)
set_option maxRecDepth 20000 in
theorem gX6_writeRow_X5_cellAt : GoodIn wsX6_writeRow (wsV RX6 23 RX5 yX5_cellAt wsX5_cellAt) := goodIn_app (goodIn_of _ (by decide +kernel)) ggX6_writeRow_X5_cellAt
set_option maxRecDepth 20000 in
theorem ggX6_writeRow_X5_height : GoodIn wsX6_writeRow wsX5_height := goodIn_r _ [12, 13, 22, 23, 24, 25] (by decide +kernel) (by decide +kernel)
set_option maxRecDepth 20000 in
theorem gX6_writeRow_X5_height : GoodIn wsX6_writeRow (wsV RX6 27 RX5 yX5_height wsX5_height) := goodIn_app (goodIn_of _ (by decide +kernel)) ggX6_writeRow_X5_height
set_option maxRecDepth 20000 in
theorem ggX6_writeRow_X6_write : GoodIn wsX6_writeRow wsX6_write := goodIn_r _ [18, 19, 20, 21, 26, 27, 28, 29] (by decide +kernel) (by decide +kernel)
set_option maxRecDepth 20000 in
theorem gX6_writeRow_X6_write : GoodIn wsX6_writeRow (wsV RX6 31 RX6 yX6_write wsX6_write) := goodIn_app (goodIn_of _ (by decide +kernel)) ggX6_writeRow_X6_write
set_option maxRecDepth 20000 in
theorem ggX9_stateOf_X5_beatInRound : GoodIn wsX9_stateOf wsX5_beatInRound := goodIn_r _ [5, 6, 7, 8, 9, 10, 22, 23, 24, 25] (by decide +kernel) (by decide +kernel)
set_option maxRecDepth 20000 in
theorem gX9_stateOf_X5_beatInRound : GoodIn wsX9_stateOf (wsV RX9 24 RX5 yX5_beatInRound wsX5_beatInRound) := goodIn_app (goodIn_of _ (by decide +kernel)) ggX9_stateOf_X5_beatInRound
set_option maxRecDepth 20000 in
theorem ggX9_stateOf_X5_cellAt : GoodIn wsX9_stateOf wsX5_cellAt := goodIn_r _ [14, 6, 15, 16, 22, 23, 24, 25] (by decide +kernel) (by decide +kernel)
set_option maxRecDepth 20000 in
theorem gX9_stateOf_X5_cellAt : GoodIn wsX9_stateOf (wsV RX9 30 RX5 yX5_cellAt wsX5_cellAt) := goodIn_app (goodIn_of _ (by decide +kernel)) ggX9_stateOf_X5_cellAt
set_option maxRecDepth 20000 in
theorem ggX9_stateOf_X5_height : GoodIn wsX9_stateOf wsX5_height := goodIn_r _ [20, 21, 22, 23, 24, 25] (by decide +kernel) (by decide +kernel)
set_option maxRecDepth 20000 in
theorem gX9_stateOf_X5_height : GoodIn wsX9_stateOf (wsV RX9 34 RX5 yX5_height wsX5_height) := goodIn_app (goodIn_of _ (by decide +kernel)) ggX9_stateOf_X5_height
set_option maxRecDepth 100000 in
set_option maxHeartbeats 4000000 in
theorem t_X7_hasRoom (l : Launch) (D : va_G) (cI cR cM : ClassId) (sz : Nat) {jn : Nat} {g : Nat → Nat} {L : List Nat} {S : Sg} {f : Nat → va_E} {x : Int32}  (hj : 1 ≤ jn ∧ jn ≤ 3) (hG : SG g L S) (hI : IN jn cI cR cM g L S f) (hx0 : 0 ≤ x.toInt ∧ x.toInt ≤ 1000) : Met l yX7_hasRoom wsX7_hasRoom ({ frames := 0, cells := 0, slots := 0, locals := 0 }) (P0 D cI cR cM [.ref (g 11), .int x] sz (va_pl L f)) (QP (fun r => (r.toInt = 0 ∨ r.toInt = 1)) sz) 0 0 (va_A [] sz) := by
  refine go (cc := cX7_hasRoom) (maxL := 2) (ret := (some .boolean)) (by decide +kernel) rfl (Nat.le_of_ble_eq_true rfl) ?_
  intro p e s m below meth c ls args Q hQ hsz hx hb hr hml hts hown hlocks hnm hP hK hD hl
  subst hsz
  have hS : va_S (va_A [] s.heap.size) s.heap s.heap [] := va_S.rf
  have hA : ∀ q, s.heap.size ≤ q → va_A [] s.heap.size q := fun q h => Or.inr h
  have hl : lv_has ls 2 [(0, .ref (g 11)), (1, .int x)] := hl
  refine lv_aload_n hx hb dX7_hasRoom_0 rfl (lv_at hl 0 rfl) ?_
  obtain ⟨len_1, fg_1, iv0_1, iv1_1⟩ := op_11 hI (gm_11 hG) (gs_11 hG)
  refine t_get (D := D) (L := L) (f := f) (ci := 7) (v := .int len_1) (C := RX7) (T := TX7) (N := 2) hx hb hts (by decide +kernel) hown hK.1 hP (gm_11 hG) fg_1 rfl 1 (by decide) (hts (.fieldLink RX7 15 "JugglingHall$Tape" "length" "I") (by decide +kernel)) (fun _ h9 => h9) rfl dX7_hasRoom_1 ?_
  refine lv_iload_n hx hb dX7_hasRoom_4 rfl (lv_at hl 1 rfl) ?_
  refine a_iadd (u := len_1.toInt) (v := x.toInt) hx hb dX7_hasRoom_5 (rfl) (rfl) (by omega) (fun z_2 e_2 => ?_)
  refine lv_aload_n hx hb dX7_hasRoom_6 rfl (lv_at hl 0 rfl) ?_
  refine t_get (D := D) (L := L) (f := f) (ci := 7) (v := .ref (g 30)) (C := RX7) (T := TX7) (N := 2) hx hb hts (by decide +kernel) hown hK.1 hP (gm_11 hG) fg_1 rfl 0 (by decide) (hts (.fieldLink RX7 9 "JugglingHall$Tape" "bytes" "[I") (by decide +kernel)) (fun _ h9 => h9) rfl dX7_hasRoom_7 ?_
  obtain ⟨c_3, fg_3, iv0_3⟩ := op_30 hI (gm_30 hG) (gs_30 hG)
  refine t_alen (L := L) (f := f) (v := 300) hx hb hK.1 hP (gm_30 hG) 0 fg_3 rfl rfl dX7_hasRoom_10 ?_
  refine a_icmp_gt (u := (len_1.toInt + x.toInt)) (v := 300) (tgt := 18) hx hb dX7_hasRoom_11 (by decide) (e_2) (by decide) (fun c_4 => ?_) (fun c_4 => ?_)
  · refine lv_iconst (v := 0) hx hb dX7_hasRoom_18 (by decide) ?_
    have hz_5 : (0 : Int32).toInt = 0 := by decide
    exact rp_zret hx hb hr hlocks hS (by first | exact Or.inl rfl | exact Or.inr rfl) (show (0 : Int32).toInt = 0 ∨ (0 : Int32).toInt = 1 from (by first | assumption | omega)) hQ dX7_hasRoom_19
  · refine lv_iconst (v := 1) hx hb dX7_hasRoom_14 (by decide) ?_
    refine lv_goto (tgt := 19) hx hb dX7_hasRoom_15 (by decide) ?_
    have hz_6 : (1 : Int32).toInt = 1 := by decide
    exact rp_zret hx hb hr hlocks hS (by first | exact Or.inl rfl | exact Or.inr rfl) (show (1 : Int32).toInt = 0 ∨ (1 : Int32).toInt = 1 from (by first | assumption | omega)) hQ dX7_hasRoom_19
set_option maxRecDepth 100000 in
set_option maxHeartbeats 4000000 in
theorem t_X7_byteAt (l : Launch) (D : va_G) (cI cR cM : ClassId) (sz : Nat) {jn : Nat} {g : Nat → Nat} {L : List Nat} {S : Sg} {f : Nat → va_E} {x : Int32}  (hj : 1 ≤ jn ∧ jn ≤ 3) (hG : SG g L S) (hI : IN jn cI cR cM g L S f)  : Met l yX7_byteAt wsX7_byteAt ({ frames := 0, cells := 0, slots := 0, locals := 0 }) (P0 D cI cR cM [.ref (g 11), .int x] sz (va_pl L f)) (QP (fun r => (-1 ≤ r.toInt ∧ r.toInt ≤ 255)) sz) 0 0 (va_A [] sz) := by
  refine go (cc := cX7_byteAt) (maxL := 2) (ret := (some .int)) (by decide +kernel) rfl (Nat.le_of_ble_eq_true rfl) ?_
  intro p e s m below meth c ls args Q hQ hsz hx hb hr hml hts hown hlocks hnm hP hK hD hl
  subst hsz
  have hS : va_S (va_A [] s.heap.size) s.heap s.heap [] := va_S.rf
  have hA : ∀ q, s.heap.size ≤ q → va_A [] s.heap.size q := fun q h => Or.inr h
  have hl : lv_has ls 2 [(0, .ref (g 11)), (1, .int x)] := hl
  refine lv_iload_n hx hb dX7_byteAt_0 rfl (lv_at hl 1 rfl) ?_
  refine a_if_lt (u := x.toInt) (tgt := 12) hx hb dX7_byteAt_1 (by decide) (rfl) (fun c_1 => ?_) (fun c_1 => ?_)
  · refine lv_iconst (v := (-1)) hx hb dX7_byteAt_12 (by decide) ?_
    refine lv_goto (tgt := 22) hx hb dX7_byteAt_13 (by decide) ?_
    have hz_2 : (-1 : Int32).toInt = (-1) := by decide
    exact rp_iret hx hb hr hlocks hS (show -1 ≤ (-1 : Int32).toInt ∧ (-1 : Int32).toInt ≤ 255 from (by first | assumption | omega)) hQ dX7_byteAt_22
  · refine lv_iload_n hx hb dX7_byteAt_4 rfl (lv_at hl 1 rfl) ?_
    refine lv_aload_n hx hb dX7_byteAt_5 rfl (lv_at hl 0 rfl) ?_
    obtain ⟨len_3, fg_3, iv0_3, iv1_3⟩ := op_11 hI (gm_11 hG) (gs_11 hG)
    refine t_get (D := D) (L := L) (f := f) (ci := 7) (v := .int len_3) (C := RX7) (T := TX7) (N := 2) hx hb hts (by decide +kernel) hown hK.1 hP (gm_11 hG) fg_3 rfl 1 (by decide) (hts (.fieldLink RX7 15 "JugglingHall$Tape" "length" "I") (by decide +kernel)) (fun _ h9 => h9) rfl dX7_byteAt_6 ?_
    refine a_icmp_lt (u := x.toInt) (v := len_3.toInt) (tgt := 16) hx hb dX7_byteAt_9 (by decide) (rfl) (rfl) (fun c_4 => ?_) (fun c_4 => ?_)
    · refine lv_aload_n hx hb dX7_byteAt_16 rfl (lv_at hl 0 rfl) ?_
      refine t_get (D := D) (L := L) (f := f) (ci := 7) (v := .ref (g 30)) (C := RX7) (T := TX7) (N := 2) hx hb hts (by decide +kernel) hown hK.1 hP (gm_11 hG) fg_3 rfl 0 (by decide) (hts (.fieldLink RX7 9 "JugglingHall$Tape" "bytes" "[I") (by decide +kernel)) (fun _ h9 => h9) rfl dX7_byteAt_17 ?_
      refine lv_iload_n hx hb dX7_byteAt_20 rfl (lv_at hl 1 rfl) ?_
      obtain ⟨c_5, fg_5, iv0_5⟩ := op_30 hI (gm_30 hG) (gs_30 hG)
      refine t_iald (L := L) (f := f) (y := c_5) (u := x.toInt) hx hb hK.1 hP (gm_30 hG) 0 fg_5 rfl dX7_byteAt_21 (rfl) (by omega) (fun z_6 q_6 e_6 => ?_)
      have a1_6 : 0 ≤ z_6.toInt ∧ z_6.toInt ≤ 255 := by rw [q_6]; exact iv0_5 x.toInt (by omega) (by omega)
      exact rp_iret hx hb hr hlocks hS (show -1 ≤ z_6.toInt ∧ z_6.toInt ≤ 255 from (by first | assumption | omega)) hQ dX7_byteAt_22
    · refine lv_iconst (v := (-1)) hx hb dX7_byteAt_12 (by decide) ?_
      refine lv_goto (tgt := 22) hx hb dX7_byteAt_13 (by decide) ?_
      have hz_7 : (-1 : Int32).toInt = (-1) := by decide
      exact rp_iret hx hb hr hlocks hS (show -1 ≤ (-1 : Int32).toInt ∧ (-1 : Int32).toInt ≤ 255 from (by first | assumption | omega)) hQ dX7_byteAt_22
set_option maxRecDepth 100000 in
set_option maxHeartbeats 4000000 in
theorem t_X7_take (l : Launch) (D : va_G) (cI cR cM : ClassId) (sz : Nat) {jn : Nat} {g : Nat → Nat} {L : List Nat} {S : Sg} {f : Nat → va_E} {x : Int32}  (hj : 1 ≤ jn ∧ jn ≤ 3) (hG : SG g L S) (hI : IN jn cI cR cM g L S f)  : Met l yX7_take wsX7_take ({ frames := 0, cells := 0, slots := 0, locals := 0 }) (P0 D cI cR cM [.ref (g 11), .int x] sz (va_pl L f)) (QG (S := Nat → va_E) (fun u => none) (fun u => va_pl L u) (fun u => IN jn cI cR cM g L S u ∧ FR S [11, 30] f u) D (va_A (va_pl L f) sz)) 0 0 (va_A (va_pl L f) sz) := by
  refine go (cc := cX7_take) (maxL := 3) (ret := none) (by decide +kernel) rfl (Nat.le_of_ble_eq_true rfl) ?_
  intro p e s m below meth c ls args Q hQ hsz hx hb hr hml hts hown hlocks hnm hP hK hD hl
  subst hsz
  have hD := hD.self (sz := s.heap.size)
  generalize hAe : va_A (va_pl L f) s.heap.size = A at hD hQ
  have hA : ∀ q, s.heap.size ≤ q → A q := fun q h => by rw [← hAe]; exact Or.inr h
  have hS : va_S A s.heap s.heap [] := va_S.rf
  have hF : FR S [11, 30] f f := FR_rf
  have hl : lv_has ls 3 [(0, .ref (g 11)), (1, .int x)] := hl
  refine lv_bipush (v := 24) hx hb dX7_take_0 (by decide) ?_
  refine lv_istore_n (lv' := [(2, .int 24), (0, .ref (g 11)), (1, .int x)]) hx hb dX7_take_2 rfl hl (by decide) rfl (fun ls hl => ?_)
  have loop3 : ∀ (ddloop3 : Nat) (sh : Int32) (f_1 : Nat → va_E) (H : Heap) (locs : List Loc) (ls : Array Slot), (sh.toInt + 16).toNat < ddloop3 → IN jn cI cR cM g L S f_1 → FR S [11, 30] f f_1 → (-8 ≤ sh.toInt ∧ sh.toInt ≤ 24) → va_P D vwCl (va_pl L f_1) H → va_D A (va_pl L f_1) → va_S A s.heap H locs → lv_has ls 3 [(0, .ref (g 11)), (1, .int x), (2, .int sh)] → W p l e ({ frames := 0, cells := 0, slots := 0, locals := 0 }) s m args below meth c H locs 0 0 Q (F0 m 3 ls []) := by
    intro ddloop3
    induction ddloop3 with
    | zero =>
      intro sh f_1 H locs ls hdd
      exact absurd hdd (Nat.not_lt_zero _)
    | succ ddloop3 ih3 =>
      intro sh f_1 H locs ls hdd hI hF hi hP hD hS hl
      refine lv_iload_n hx hb dX7_take_3 rfl (lv_at hl 2 rfl) ?_
      refine a_if_lt (u := sh.toInt) (tgt := 51) hx hb dX7_take_4 (by decide) (rfl) (fun c_2 => ?_) (fun c_2 => ?_)
      · exact g_vret f_1 hx hb hr hlocks hS rfl (⟨hI, hF⟩) hP hD hQ (Nat.le_of_ble_eq_true rfl) (Nat.le_of_ble_eq_true rfl) dX7_take_51
      · refine lv_aload_n hx hb dX7_take_7 rfl (lv_at hl 0 rfl) ?_
        obtain ⟨len_3, fg_3, iv0_3, iv1_3⟩ := op_11 hI (gm_11 hG) (gs_11 hG)
        refine t_get (D := D) (L := L) (f := f_1) (ci := 7) (v := .int len_3) (C := RX7) (T := TX7) (N := 2) hx hb hts (by decide +kernel) hown hK.1 hP (gm_11 hG) fg_3 rfl 1 (by decide) (hts (.fieldLink RX7 15 "JugglingHall$Tape" "length" "I") (by decide +kernel)) (fun _ h9 => h9) rfl dX7_take_8 ?_
        refine lv_aload_n hx hb dX7_take_11 rfl (lv_at hl 0 rfl) ?_
        refine t_get (D := D) (L := L) (f := f_1) (ci := 7) (v := .ref (g 30)) (C := RX7) (T := TX7) (N := 2) hx hb hts (by decide +kernel) hown hK.1 hP (gm_11 hG) fg_3 rfl 0 (by decide) (hts (.fieldLink RX7 9 "JugglingHall$Tape" "bytes" "[I") (by decide +kernel)) (fun _ h9 => h9) rfl dX7_take_12 ?_
        obtain ⟨c_4, fg_4, iv0_4⟩ := op_30 hI (gm_30 hG) (gs_30 hG)
        refine t_alen (L := L) (f := f_1) (v := 300) hx hb hK.1 hP (gm_30 hG) 0 fg_4 rfl rfl dX7_take_15 ?_
        refine a_icmp_ge (u := len_3.toInt) (v := 300) (tgt := 51) hx hb dX7_take_16 (by decide) (rfl) (by decide) (fun c_5 => ?_) (fun c_5 => ?_)
        · exact g_vret f_1 hx hb hr hlocks hS rfl (⟨hI, hF⟩) hP hD hQ (Nat.le_of_ble_eq_true rfl) (Nat.le_of_ble_eq_true rfl) dX7_take_51
        · refine lv_aload_n hx hb dX7_take_19 rfl (lv_at hl 0 rfl) ?_
          refine t_get (D := D) (L := L) (f := f_1) (ci := 7) (v := .ref (g 30)) (C := RX7) (T := TX7) (N := 2) hx hb hts (by decide +kernel) hown hK.1 hP (gm_11 hG) fg_3 rfl 0 (by decide) (hts (.fieldLink RX7 9 "JugglingHall$Tape" "bytes" "[I") (by decide +kernel)) (fun _ h9 => h9) rfl dX7_take_20 ?_
          refine lv_aload_n hx hb dX7_take_23 rfl (lv_at hl 0 rfl) ?_
          refine t_get (D := D) (L := L) (f := f_1) (ci := 7) (v := .int len_3) (C := RX7) (T := TX7) (N := 2) hx hb hts (by decide +kernel) hown hK.1 hP (gm_11 hG) fg_3 rfl 1 (by decide) (hts (.fieldLink RX7 15 "JugglingHall$Tape" "length" "I") (by decide +kernel)) (fun _ h9 => h9) rfl dX7_take_24 ?_
          refine lv_iload_n hx hb dX7_take_27 rfl (lv_at hl 1 rfl) ?_
          refine lv_iload_n hx hb dX7_take_28 rfl (lv_at hl 2 rfl) ?_
          refine lv_iushr hx hb dX7_take_29 rfl ?_
          refine lv_topi (fun z_6 q_6 => ?_)
          refine lv_sipush (v := 255) hx hb dX7_take_30 (by decide) ?_
          refine lv_iand hx hb dX7_take_33 ?_
          refine lv_topi (fun z_7 q_7 => ?_)
          have e9_7 : 0 ≤ z_7.toInt ∧ z_7.toInt ≤ 255 := by rw [q_7]; exact and255 _
          refine t_iast (L := L) (f := f_1) (h := c_4) (u := len_3.toInt) hx hb hK.1 hP hD hS (gm_30 hG) 0 fg_4 rfl dX7_take_34 (rfl) (by omega) (fun g_8 f_8 H locs eg_8 e9_8 o_8 hP hD hS => ?_)
          have ok_8 : ∀ i : Int, 0 ≤ i → i < 300 → 0 ≤ (g_8 i.toNat).toInt ∧ (g_8 i.toNat).toInt ≤ 255 := by rw [eg_8]; exact rng_set iv0_4 (by omega) ⟨by omega, by omega⟩
          have fa_8 : f_8 (g 30) = .inl (cI, 300, .inl g_8) := e9_8
          have hI := IN_set (e := .inl (cI, 300, .inl g_8)) hI (gs_30 hG) (mk_30 ok_8) fa_8 o_8
          have hF := FR_set hF (gs_30 hG) (show (30 : Nat) ∈ ([11, 30] : List Nat) by decide) o_8
          have fb_9 : f_8 (g 11) = .inr (7, [.ref (g 30), .int len_3]) := f_at o_8 (S_ne (gs_11 hG) (gs_30 hG) (show (11 : Nat) ≠ 30 by decide)) fg_3
          refine lv_aload_n hx hb dX7_take_35 rfl (lv_at hl 0 rfl) ?_
          refine lv_dup hx hb dX7_take_36 rfl ?_
          refine t_get (D := D) (L := L) (f := f_8) (ci := 7) (v := .int len_3) (C := RX7) (T := TX7) (N := 2) hx hb hts (by decide +kernel) hown hK.1 hP (gm_11 hG) fb_9 rfl 1 (by decide) (hts (.fieldLink RX7 15 "JugglingHall$Tape" "length" "I") (by decide +kernel)) (fun _ h9 => h9) rfl dX7_take_37 ?_
          refine lv_iconst (v := 1) hx hb dX7_take_40 (by decide) ?_
          refine a_iadd (u := len_3.toInt) (v := 1) hx hb dX7_take_41 (rfl) (by decide) (by omega) (fun z_10 e_10 => ?_)
          refine t_put (D := D) (L := L) (f := f_8) (ci := 7) (v := .int z_10) (ty := .int) (C := RX7) (T := TX7) (N := 2) hx hb hts (by decide +kernel) tyX7 tyX7_ok nmX7 hown hK.1 hP hD hS (gm_11 hG) fb_9 rfl 1 (by decide) (hts (.fieldLink RX7 15 "JugglingHall$Tape" "length" "I") (by decide +kernel)) (fun _ h9 => h9) rfl (by decide +kernel) rfl rfl (Nat.le_of_ble_eq_true rfl) dX7_take_42 (fun f_11 H locs e9_11 o_11 hP hD hS => ?_)
          have fa_11 : f_11 (g 11) = .inr (7, [.ref (g 30), .int z_10]) := e9_11
          have hI := IN_set (e := .inr (7, [.ref (g 30), .int z_10])) hI (gs_11 hG) (mk_11 (by first | assumption | omega) (by first | assumption | omega)) fa_11 o_11
          have hF := FR_set hF (gs_11 hG) (show (11 : Nat) ∈ ([11, 30] : List Nat) by decide) o_11
          have fb_12 : f_11 (g 30) = .inl (cI, 300, .inl g_8) := f_at o_11 (S_ne (gs_30 hG) (gs_11 hG) (show (30 : Nat) ≠ 11 by decide)) fa_8
          obtain ⟨z_13, q_13, e_13⟩ := i_inc (a := sh.toInt) (-8) (rfl) (by decide) (by omega) (by omega)
          refine lv_iinc (v := z_13) (lv' := [(2, .int z_13), (0, .ref (g 11)), (1, .int x)]) hx hb dX7_take_45 hl (k := 2) rfl q_13 (by decide) rfl (fun ls hl => ?_)
          refine lv_goto (tgt := 3) hx hb dX7_take_48 (by decide) ?_
          exact ih3 z_13 f_11 _ _ _ (by omega) hI hF (by first | assumption | omega) hP hD hS (lv_sub hl [1, 2, 0] rfl)
  have hz_14 : (24 : Int32).toInt = 24 := by decide
  exact loop3 (((24 : Int32).toInt + 16).toNat + 1) (24 : Int32) f _ _ _ (by omega) hI hF (by first | assumption | omega) hP hD hS (lv_sub hl [1, 2, 0] rfl)
set_option maxRecDepth 100000 in
set_option maxHeartbeats 4000000 in
theorem t_X3_write (l : Launch) (D : va_G) (cI cR cM : ClassId) (sz : Nat) {jn : Nat} {g : Nat → Nat} {L : List Nat} {S : Sg} {f : Nat → va_E} {k k_p : Nat} {k_l : Int32} {k_c : Nat → Int32} {x : Int32}  (hj : 1 ≤ jn ∧ jn ≤ 3) (hG : SG g L S) (hI : IN jn cI cR cM g L S f) (m_k : k ∈ L) (s_k : S k = (2, k_p, 0)) (f_k : f k = .inr (3, [.ref k_p, .int k_l])) (f_k_p : f k_p = .inl (cI, 7, .inl k_c))  : Met l yX3_write wsX3_write ({ frames := 0, cells := 0, slots := 0, locals := 0 }) (P0 D cI cR cM [.ref k, .int x] sz (va_pl L f)) (QG (S := Int32 × (Nat → va_E)) (fun u => some (.int u.1)) (fun u => va_pl L u.2) (fun u => IN jn cI cR cM g L S u.2 ∧ FR S [2, 3] f u.2 ∧ (u.1.toInt = 0 ∨ u.1.toInt = 1)) D (va_A (va_pl L f) sz)) 0 0 (va_A (va_pl L f) sz) := by
  refine go (cc := cX3_write) (maxL := 2) (ret := (some .boolean)) (by decide +kernel) rfl (Nat.le_of_ble_eq_true rfl) ?_
  intro p e s m below meth c ls args Q hQ hsz hx hb hr hml hts hown hlocks hnm hP hK hD hl
  subst hsz
  have hD := hD.self (sz := s.heap.size)
  generalize hAe : va_A (va_pl L f) s.heap.size = A at hD hQ
  have hA : ∀ q, s.heap.size ≤ q → A q := fun q h => by rw [← hAe]; exact Or.inr h
  have hS : va_S A s.heap s.heap [] := va_S.rf
  have hF : FR S [2, 3] f f := FR_rf
  have hl : lv_has ls 2 [(0, .ref k), (1, .int x)] := hl
  obtain ⟨v1_k, v2_k, m_k_p, s_k_p⟩ := iv_2 hI m_k s_k f_k
  refine lv_aload_n hx hb dX3_write_0 rfl (lv_at hl 0 rfl) ?_
  refine t_get (D := D) (L := L) (f := f) (ci := 3) (v := .int k_l) (C := RX3) (T := TX3) (N := 2) hx hb hts (by decide +kernel) hown hK.1 hP m_k f_k rfl 1 (by decide) (hts (.fieldLink RX3 15 "JugglingHall$Marks" "count" "I") (by decide +kernel)) (fun _ h9 => h9) rfl dX3_write_1 ?_
  refine lv_aload_n hx hb dX3_write_4 rfl (lv_at hl 0 rfl) ?_
  refine t_get (D := D) (L := L) (f := f) (ci := 3) (v := .ref k_p) (C := RX3) (T := TX3) (N := 2) hx hb hts (by decide +kernel) hown hK.1 hP m_k f_k rfl 0 (by decide) (hts (.fieldLink RX3 9 "JugglingHall$Marks" "heights" "[I") (by decide +kernel)) (fun _ h9 => h9) rfl dX3_write_5 ?_
  refine t_alen (L := L) (f := f) (v := 7) hx hb hK.1 hP m_k_p 0 f_k_p rfl rfl dX3_write_8 ?_
  refine a_icmp_lt (u := k_l.toInt) (v := 7) (tgt := 14) hx hb dX3_write_9 (by decide) (rfl) (by decide) (fun c_1 => ?_) (fun c_1 => ?_)
  · refine lv_aload_n hx hb dX3_write_14 rfl (lv_at hl 0 rfl) ?_
    refine t_get (D := D) (L := L) (f := f) (ci := 3) (v := .ref k_p) (C := RX3) (T := TX3) (N := 2) hx hb hts (by decide +kernel) hown hK.1 hP m_k f_k rfl 0 (by decide) (hts (.fieldLink RX3 9 "JugglingHall$Marks" "heights" "[I") (by decide +kernel)) (fun _ h9 => h9) rfl dX3_write_15 ?_
    refine lv_aload_n hx hb dX3_write_18 rfl (lv_at hl 0 rfl) ?_
    refine t_get (D := D) (L := L) (f := f) (ci := 3) (v := .int k_l) (C := RX3) (T := TX3) (N := 2) hx hb hts (by decide +kernel) hown hK.1 hP m_k f_k rfl 1 (by decide) (hts (.fieldLink RX3 15 "JugglingHall$Marks" "count" "I") (by decide +kernel)) (fun _ h9 => h9) rfl dX3_write_19 ?_
    refine lv_iload_n hx hb dX3_write_22 rfl (lv_at hl 1 rfl) ?_
    refine t_iast (L := L) (f := f) (h := k_c) (u := k_l.toInt) hx hb hK.1 hP hD hS m_k_p 0 f_k_p rfl dX3_write_23 (rfl) (by omega) (fun g_2 f_2 H locs eg_2 e9_2 o_2 hP hD hS => ?_)
    have fa_2 : f_2 k_p = .inl (cI, 7, .inl g_2) := e9_2
    have hI := IN_set (e := .inl (cI, 7, .inl g_2)) hI s_k_p (mk_3) fa_2 o_2
    have hF := FR_set hF s_k_p (show (3 : Nat) ∈ ([2, 3] : List Nat) by decide) o_2
    have fb_3 : f_2 k = .inr (3, [.ref k_p, .int k_l]) := f_at o_2 (S_ne s_k s_k_p (show (2 : Nat) ≠ 3 by decide)) f_k
    refine lv_aload_n hx hb dX3_write_24 rfl (lv_at hl 0 rfl) ?_
    refine lv_dup hx hb dX3_write_25 rfl ?_
    refine t_get (D := D) (L := L) (f := f_2) (ci := 3) (v := .int k_l) (C := RX3) (T := TX3) (N := 2) hx hb hts (by decide +kernel) hown hK.1 hP m_k fb_3 rfl 1 (by decide) (hts (.fieldLink RX3 15 "JugglingHall$Marks" "count" "I") (by decide +kernel)) (fun _ h9 => h9) rfl dX3_write_26 ?_
    refine lv_iconst (v := 1) hx hb dX3_write_29 (by decide) ?_
    refine a_iadd (u := k_l.toInt) (v := 1) hx hb dX3_write_30 (rfl) (by decide) (by omega) (fun z_4 e_4 => ?_)
    refine t_put (D := D) (L := L) (f := f_2) (ci := 3) (v := .int z_4) (ty := .int) (C := RX3) (T := TX3) (N := 2) hx hb hts (by decide +kernel) tyX3 tyX3_ok nmX3 hown hK.1 hP hD hS m_k fb_3 rfl 1 (by decide) (hts (.fieldLink RX3 15 "JugglingHall$Marks" "count" "I") (by decide +kernel)) (fun _ h9 => h9) rfl (by decide +kernel) rfl rfl (Nat.le_of_ble_eq_true rfl) dX3_write_31 (fun f_5 H locs e9_5 o_5 hP hD hS => ?_)
    have fa_5 : f_5 k = .inr (3, [.ref k_p, .int z_4]) := e9_5
    have hI := IN_set (e := .inr (3, [.ref k_p, .int z_4])) hI s_k (mk_2 (by first | assumption | omega) (by first | assumption | omega) (by first | assumption | omega) (by first | assumption | omega)) fa_5 o_5
    have hF := FR_set hF s_k (show (2 : Nat) ∈ ([2, 3] : List Nat) by decide) o_5
    have fb_6 : f_5 k_p = .inl (cI, 7, .inl g_2) := f_at o_5 (S_ne s_k_p s_k (show (3 : Nat) ≠ 2 by decide)) fa_2
    refine lv_iconst (v := 1) hx hb dX3_write_34 (by decide) ?_
    have hz_7 : (1 : Int32).toInt = 1 := by decide
    exact g_zret ((1 : Int32), f_5) hx hb hr hlocks hS (by first | exact Or.inl rfl | exact Or.inr rfl) rfl (⟨hI, hF, show (1 : Int32).toInt = 0 ∨ (1 : Int32).toInt = 1 from (by first | assumption | omega)⟩) hP hD hQ (Nat.le_of_ble_eq_true rfl) (Nat.le_of_ble_eq_true rfl) dX3_write_35
  · refine lv_iconst (v := 0) hx hb dX3_write_12 (by decide) ?_
    have hz_8 : (0 : Int32).toInt = 0 := by decide
    exact g_zret ((0 : Int32), f) hx hb hr hlocks hS (by first | exact Or.inl rfl | exact Or.inr rfl) rfl (⟨hI, hF, show (0 : Int32).toInt = 0 ∨ (0 : Int32).toInt = 1 from (by first | assumption | omega)⟩) hP hD hQ (Nat.le_of_ble_eq_true rfl) (Nat.le_of_ble_eq_true rfl) dX3_write_13
set_option maxRecDepth 100000 in
set_option maxHeartbeats 4000000 in
theorem t_X0_isFull (l : Launch) (D : va_G) (cI cR cM : ClassId) (sz : Nat) {jn : Nat} {g : Nat → Nat} {L : List Nat} {S : Sg} {f : Nat → va_E}  (hj : 1 ≤ jn ∧ jn ≤ 3) (hG : SG g L S) (hI : IN jn cI cR cM g L S f)  : Met l yX0_isFull wsX0_isFull ({ frames := 0, cells := 0, slots := 0, locals := 0 }) (P0 D cI cR cM [.ref (g 12)] sz (va_pl L f)) (QP (fun r => (∀ tm lk, f (g 12) = .inr (0, [.ref (g 20), .ref (g 21), .int tm, .int lk]) → r.toInt = 0 → tm.toInt < 60) ∧ (r.toInt = 0 ∨ r.toInt = 1)) sz) 0 0 (va_A [] sz) := by
  refine go (cc := cX0_isFull) (maxL := 1) (ret := (some .boolean)) (by decide +kernel) rfl (Nat.le_of_ble_eq_true rfl) ?_
  intro p e s m below meth c ls args Q hQ hsz hx hb hr hml hts hown hlocks hnm hP hK hD hl
  subst hsz
  have hS : va_S (va_A [] s.heap.size) s.heap s.heap [] := va_S.rf
  have hA : ∀ q, s.heap.size ≤ q → va_A [] s.heap.size q := fun q h => Or.inr h
  have hl : lv_has ls 1 [(0, .ref (g 12))] := hl
  refine lv_aload_n hx hb dX0_isFull_0 rfl (lv_at hl 0 rfl) ?_
  obtain ⟨tm_1, lk_1, fg_1, iv0_1, iv1_1, iv2_1⟩ := op_12 hI (gm_12 hG) (gs_12 hG)
  refine t_get (D := D) (L := L) (f := f) (ci := 0) (v := .int tm_1) (C := RX0) (T := TX0) (N := 4) hx hb hts (by decide +kernel) hown hK.1 hP (gm_12 hG) fg_1 rfl 2 (by decide) (hts (.fieldLink RX0 23 "JugglingHall$Book" "time" "I") (by decide +kernel)) (fun _ h9 => h9) rfl dX0_isFull_1 ?_
  refine lv_bipush (v := 60) hx hb dX0_isFull_4 (by decide) ?_
  refine a_icmp_lt (u := tm_1.toInt) (v := 60) (tgt := 13) hx hb dX0_isFull_6 (by decide) (rfl) (by decide) (fun c_2 => ?_) (fun c_2 => ?_)
  · refine lv_iconst (v := 0) hx hb dX0_isFull_13 (by decide) ?_
    have hz_3 : (0 : Int32).toInt = 0 := by decide
    exact rp_zret hx hb hr hlocks hS (by first | exact Or.inl rfl | exact Or.inr rfl) (⟨show ∀ tm lk, f (g 12) = .inr (0, [.ref (g 20), .ref (g 21), .int tm, .int lk]) → (0 : Int32).toInt = 0 → tm.toInt < 60 from (fun tm9 lk9 h9 h8 => by rw [fg_1] at h9; cases h9; omega), show (0 : Int32).toInt = 0 ∨ (0 : Int32).toInt = 1 from (by first | assumption | omega)⟩) hQ dX0_isFull_14
  · refine lv_iconst (v := 1) hx hb dX0_isFull_9 (by decide) ?_
    refine lv_goto (tgt := 14) hx hb dX0_isFull_10 (by decide) ?_
    have hz_4 : (1 : Int32).toInt = 1 := by decide
    exact rp_zret hx hb hr hlocks hS (by first | exact Or.inl rfl | exact Or.inr rfl) (⟨show ∀ tm lk, f (g 12) = .inr (0, [.ref (g 20), .ref (g 21), .int tm, .int lk]) → (1 : Int32).toInt = 0 → tm.toInt < 60 from (fun tm9 lk9 h9 h8 => by rw [fg_1] at h9; cases h9; omega), show (1 : Int32).toInt = 0 ∨ (1 : Int32).toInt = 1 from (by first | assumption | omega)⟩) hQ dX0_isFull_14
set_option maxRecDepth 100000 in
set_option maxHeartbeats 4000000 in
theorem t_X0_rowAt (l : Launch) (D : va_G) (cI cR cM : ClassId) (sz : Nat) {jn : Nat} {g : Nat → Nat} {L : List Nat} {S : Sg} {f : Nat → va_E} {x y : Int32}  (hj : 1 ≤ jn ∧ jn ≤ 3) (hG : SG g L S) (hI : IN jn cI cR cM g L S f) (hx0 : 0 ≤ x.toInt ∧ x.toInt ≤ 60) : Met l yX0_rowAt wsX0_rowAt ({ frames := 0, cells := 0, slots := 0, locals := 0 }) (P0 D cI cR cM [.ref (g 12), .int x, .int y] sz (va_pl L f)) (QR (fun r => (∀ z, r = some z → ∃ p n, isRow L S z p n)) sz) 0 0 (va_A [] sz) := by
  refine go (cc := cX0_rowAt) (maxL := 3) (ret := (some (.object "JugglingHall$Row"))) (by decide +kernel) rfl (Nat.le_of_ble_eq_true rfl) ?_
  intro p e s m below meth c ls args Q hQ hsz hx hb hr hml hts hown hlocks hnm hP hK hD hl
  subst hsz
  have hS : va_S (va_A [] s.heap.size) s.heap s.heap [] := va_S.rf
  have hA : ∀ q, s.heap.size ≤ q → va_A [] s.heap.size q := fun q h => Or.inr h
  have hl : lv_has ls 3 [(0, .ref (g 12)), (1, .int x), (2, .int y)] := hl
  refine lv_iload_n hx hb dX0_rowAt_0 rfl (lv_at hl 2 rfl) ?_
  refine a_if_lt (u := y.toInt) (tgt := 10) hx hb dX0_rowAt_1 (by decide) (rfl) (fun c_1 => ?_) (fun c_1 => ?_)
  · refine lv_null hx hb dX0_rowAt_10 ?_
    refine lv_goto (tgt := 25) hx hb dX0_rowAt_11 (by decide) ?_
    refine W.eq (g2 := F0 m 25 ls [va_rf none]) rfl ?_
    exact rr_aret hx hb hr hlocks hS (fun r9 h9 => by cases h9) hQ dX0_rowAt_25
  · refine lv_iload_n hx hb dX0_rowAt_4 rfl (lv_at hl 2 rfl) ?_
    refine lv_bipush (v := 8) hx hb dX0_rowAt_5 (by decide) ?_
    refine a_icmp_lt (u := y.toInt) (v := 8) (tgt := 14) hx hb dX0_rowAt_7 (by decide) (rfl) (by decide) (fun c_2 => ?_) (fun c_2 => ?_)
    · refine lv_aload_n hx hb dX0_rowAt_14 rfl (lv_at hl 0 rfl) ?_
      obtain ⟨tm_3, lk_3, fg_3, iv0_3, iv1_3, iv2_3⟩ := op_12 hI (gm_12 hG) (gs_12 hG)
      refine t_get (D := D) (L := L) (f := f) (ci := 0) (v := .ref (g 20)) (C := RX0) (T := TX0) (N := 4) hx hb hts (by decide +kernel) hown hK.1 hP (gm_12 hG) fg_3 rfl 0 (by decide) (hts (.fieldLink RX0 11 "JugglingHall$Book" "rows" "[LJugglingHall$Row;") (by decide +kernel)) (fun _ h9 => h9) rfl dX0_rowAt_15 ?_
      refine lv_iload_n hx hb dX0_rowAt_18 rfl (lv_at hl 1 rfl) ?_
      refine lv_bipush (v := 8) hx hb dX0_rowAt_19 (by decide) ?_
      refine a_imul (u := x.toInt) (v := 8) hx hb dX0_rowAt_21 (rfl) (by decide) (by omega) (fun z_4 e_4 => ?_)
      refine lv_iload_n hx hb dX0_rowAt_22 rfl (lv_at hl 2 rfl) ?_
      refine a_iadd (u := (x.toInt * 8)) (v := y.toInt) hx hb dX0_rowAt_23 (e_4) (rfl) (by omega) (fun z_5 e_5 => ?_)
      obtain ⟨c_6, fg_6, iv0_6⟩ := op_20 hI (gm_20 hG) (gs_20 hG)
      refine t_aald (L := L) (f := f) (y := c_6) (u := ((x.toInt * 8) + y.toInt)) hx hb hK.1 hP (gm_20 hG) 1 fg_6 rfl dX0_rowAt_24 (e_5) (by omega) (fun w_7 q_7 => ?_)
      have ho_7 : ∀ r, w_7 = some r → ∃ p n, isRow L S r p n := fun r h => iv0_6 ((x.toInt * 8) + y.toInt) (by omega) (by omega) r (q_7 ▸ h)
      refine W.eq (g2 := F0 m 25 ls [va_rf w_7]) rfl ?_
      exact rr_aret hx hb hr hlocks hS (ho_7) hQ dX0_rowAt_25
    · refine lv_null hx hb dX0_rowAt_10 ?_
      refine lv_goto (tgt := 25) hx hb dX0_rowAt_11 (by decide) ?_
      refine W.eq (g2 := F0 m 25 ls [va_rf none]) rfl ?_
      exact rr_aret hx hb hr hlocks hS (fun r9 h9 => by cases h9) hQ dX0_rowAt_25
set_option maxRecDepth 100000 in
set_option maxHeartbeats 4000000 in
theorem t_X0_rowSeen (l : Launch) (D : va_G) (cI cR cM : ClassId) (sz : Nat) {jn : Nat} {g : Nat → Nat} {L : List Nat} {S : Sg} {f : Nat → va_E} {y : Int32}  (hj : 1 ≤ jn ∧ jn ≤ 3) (hG : SG g L S) (hI : IN jn cI cR cM g L S f)  : Met l yX0_rowSeen wsX0_rowSeen ({ frames := 1, cells := 0, slots := 0, locals := 22 }) (P0 D cI cR cM [.ref (g 12), .int y] sz (va_pl L f)) (QR (fun r => (∀ z, r = some z → ∃ p n, isRow L S z p n)) sz) 0 0 (va_A [] sz) := by
  refine go (cc := cX0_rowSeen) (maxL := 2) (ret := (some (.object "JugglingHall$Row"))) (by decide +kernel) rfl (Nat.le_of_ble_eq_true rfl) ?_
  intro p e s m below meth c ls args Q hQ hsz hx hb hr hml hts hown hlocks hnm hP hK hD hl
  subst hsz
  have hS : va_S (va_A [] s.heap.size) s.heap s.heap [] := va_S.rf
  have hA : ∀ q, s.heap.size ≤ q → va_A [] s.heap.size q := fun q h => Or.inr h
  have hl : lv_has ls 2 [(0, .ref (g 12)), (1, .int y)] := hl
  refine lv_aload_n hx hb dX0_rowSeen_0 rfl (lv_at hl 0 rfl) ?_
  refine lv_aload_n hx hb dX0_rowSeen_1 rfl (lv_at hl 0 rfl) ?_
  obtain ⟨tm_1, lk_1, fg_1, iv0_1, iv1_1, iv2_1⟩ := op_12 hI (gm_12 hG) (gs_12 hG)
  refine t_get (D := D) (L := L) (f := f) (ci := 0) (v := .int lk_1) (C := RX0) (T := TX0) (N := 4) hx hb hts (by decide +kernel) hown hK.1 hP (gm_12 hG) fg_1 rfl 3 (by decide) (hts (.fieldLink RX0 31 "JugglingHall$Book" "lookTime" "I") (by decide +kernel)) (fun _ h9 => h9) rfl dX0_rowSeen_2 ?_
  refine lv_iload_n hx hb dX0_rowSeen_5 rfl (lv_at hl 1 rfl) ?_
  refine roR (va_runV (As := [.int lk_1, .int y]) (rest := []) ⟨hx, hb, hml, hown, hts⟩ (t_X0_rowAt l D cI cR cM _  hj hG hI  (by first | assumption | omega)) (cwV 2 hts gX0_rowSeen_X0_rowAt rfl rfl rfl (by decide +kernel) ⟨Nat.le_of_ble_eq_true rfl, Nat.le_of_ble_eq_true rfl⟩) (pre_T hK hP hD (gm_12 hG) fg_1 rfl) rfl rfl hl.1 rfl (lv_room (Nat.le_of_ble_eq_true rfl)) dX0_rowSeen_6 ⟨Nat.le_of_ble_eq_true rfl, Nat.le_of_ble_eq_true rfl⟩) hS hA hP (fun w_2 H locs hw hP hS => ?_)
  have ho_2 : (∀ z, w_2 = some z → ∃ p n, isRow L S z p n) := hw
  refine W.eq (g2 := F0 m 9 ls [va_rf w_2]) rfl ?_
  exact rr_aret hx hb hr hlocks hS (ho_2) hQ dX0_rowSeen_9
set_option maxRecDepth 100000 in
set_option maxHeartbeats 4000000 in
theorem t_X0_rowLatest (l : Launch) (D : va_G) (cI cR cM : ClassId) (sz : Nat) {jn : Nat} {g : Nat → Nat} {L : List Nat} {S : Sg} {f : Nat → va_E} {y : Int32}  (hj : 1 ≤ jn ∧ jn ≤ 3) (hG : SG g L S) (hI : IN jn cI cR cM g L S f)  : Met l yX0_rowLatest wsX0_rowLatest ({ frames := 1, cells := 0, slots := 0, locals := 22 }) (P0 D cI cR cM [.ref (g 12), .int y] sz (va_pl L f)) (QR (fun r => (∀ z, r = some z → ∃ p n, isRow L S z p n)) sz) 0 0 (va_A [] sz) := by
  refine go (cc := cX0_rowLatest) (maxL := 2) (ret := (some (.object "JugglingHall$Row"))) (by decide +kernel) rfl (Nat.le_of_ble_eq_true rfl) ?_
  intro p e s m below meth c ls args Q hQ hsz hx hb hr hml hts hown hlocks hnm hP hK hD hl
  subst hsz
  have hS : va_S (va_A [] s.heap.size) s.heap s.heap [] := va_S.rf
  have hA : ∀ q, s.heap.size ≤ q → va_A [] s.heap.size q := fun q h => Or.inr h
  have hl : lv_has ls 2 [(0, .ref (g 12)), (1, .int y)] := hl
  refine lv_aload_n hx hb dX0_rowLatest_0 rfl (lv_at hl 0 rfl) ?_
  refine lv_aload_n hx hb dX0_rowLatest_1 rfl (lv_at hl 0 rfl) ?_
  obtain ⟨tm_1, lk_1, fg_1, iv0_1, iv1_1, iv2_1⟩ := op_12 hI (gm_12 hG) (gs_12 hG)
  refine t_get (D := D) (L := L) (f := f) (ci := 0) (v := .int tm_1) (C := RX0) (T := TX0) (N := 4) hx hb hts (by decide +kernel) hown hK.1 hP (gm_12 hG) fg_1 rfl 2 (by decide) (hts (.fieldLink RX0 23 "JugglingHall$Book" "time" "I") (by decide +kernel)) (fun _ h9 => h9) rfl dX0_rowLatest_2 ?_
  refine lv_iload_n hx hb dX0_rowLatest_5 rfl (lv_at hl 1 rfl) ?_
  refine roR (va_runV (As := [.int tm_1, .int y]) (rest := []) ⟨hx, hb, hml, hown, hts⟩ (t_X0_rowAt l D cI cR cM _  hj hG hI  (by first | assumption | omega)) (cwV 2 hts gX0_rowLatest_X0_rowAt rfl rfl rfl (by decide +kernel) ⟨Nat.le_of_ble_eq_true rfl, Nat.le_of_ble_eq_true rfl⟩) (pre_T hK hP hD (gm_12 hG) fg_1 rfl) rfl rfl hl.1 rfl (lv_room (Nat.le_of_ble_eq_true rfl)) dX0_rowLatest_6 ⟨Nat.le_of_ble_eq_true rfl, Nat.le_of_ble_eq_true rfl⟩) hS hA hP (fun w_2 H locs hw hP hS => ?_)
  have ho_2 : (∀ z, w_2 = some z → ∃ p n, isRow L S z p n) := hw
  refine W.eq (g2 := F0 m 9 ls [va_rf w_2]) rfl ?_
  exact rr_aret hx hb hr hlocks hS (ho_2) hQ dX0_rowLatest_9
set_option maxRecDepth 100000 in
set_option maxHeartbeats 4000000 in
theorem t_X0_marksSeen (l : Launch) (D : va_G) (cI cR cM : ClassId) (sz : Nat) {jn : Nat} {g : Nat → Nat} {L : List Nat} {S : Sg} {f : Nat → va_E}  (hj : 1 ≤ jn ∧ jn ≤ 3) (hG : SG g L S) (hI : IN jn cI cR cM g L S f)  : Met l yX0_marksSeen wsX0_marksSeen ({ frames := 0, cells := 0, slots := 0, locals := 0 }) (P0 D cI cR cM [.ref (g 12)] sz (va_pl L f)) (QR (fun r => (∀ z, r = some z → ∃ p, isMk L S z p)) sz) 0 0 (va_A [] sz) := by
  refine go (cc := cX0_marksSeen) (maxL := 1) (ret := (some (.object "JugglingHall$Marks"))) (by decide +kernel) rfl (Nat.le_of_ble_eq_true rfl) ?_
  intro p e s m below meth c ls args Q hQ hsz hx hb hr hml hts hown hlocks hnm hP hK hD hl
  subst hsz
  have hS : va_S (va_A [] s.heap.size) s.heap s.heap [] := va_S.rf
  have hA : ∀ q, s.heap.size ≤ q → va_A [] s.heap.size q := fun q h => Or.inr h
  have hl : lv_has ls 1 [(0, .ref (g 12))] := hl
  refine lv_aload_n hx hb dX0_marksSeen_0 rfl (lv_at hl 0 rfl) ?_
  obtain ⟨tm_1, lk_1, fg_1, iv0_1, iv1_1, iv2_1⟩ := op_12 hI (gm_12 hG) (gs_12 hG)
  refine t_get (D := D) (L := L) (f := f) (ci := 0) (v := .ref (g 21)) (C := RX0) (T := TX0) (N := 4) hx hb hts (by decide +kernel) hown hK.1 hP (gm_12 hG) fg_1 rfl 1 (by decide) (hts (.fieldLink RX0 19 "JugglingHall$Book" "marks" "[LJugglingHall$Marks;") (by decide +kernel)) (fun _ h9 => h9) rfl dX0_marksSeen_1 ?_
  refine lv_aload_n hx hb dX0_marksSeen_4 rfl (lv_at hl 0 rfl) ?_
  refine t_get (D := D) (L := L) (f := f) (ci := 0) (v := .int lk_1) (C := RX0) (T := TX0) (N := 4) hx hb hts (by decide +kernel) hown hK.1 hP (gm_12 hG) fg_1 rfl 3 (by decide) (hts (.fieldLink RX0 31 "JugglingHall$Book" "lookTime" "I") (by decide +kernel)) (fun _ h9 => h9) rfl dX0_marksSeen_5 ?_
  obtain ⟨c_2, fg_2, iv0_2⟩ := op_21 hI (gm_21 hG) (gs_21 hG)
  refine t_aald (L := L) (f := f) (y := c_2) (u := lk_1.toInt) hx hb hK.1 hP (gm_21 hG) 2 fg_2 rfl dX0_marksSeen_8 (rfl) (by omega) (fun w_3 q_3 => ?_)
  have ho_3 : ∀ r, w_3 = some r → ∃ p, isMk L S r p := fun r h => iv0_2 lk_1.toInt (by omega) (by omega) r (q_3 ▸ h)
  refine W.eq (g2 := F0 m 9 ls [va_rf w_3]) rfl ?_
  exact rr_aret hx hb hr hlocks hS (ho_3) hQ dX0_marksSeen_9
set_option maxRecDepth 100000 in
set_option maxHeartbeats 4000000 in
theorem t_X0_lettersSeen (l : Launch) (D : va_G) (cI cR cM : ClassId) (sz : Nat) {jn : Nat} {g : Nat → Nat} {L : List Nat} {S : Sg} {f : Nat → va_E}  (hj : 1 ≤ jn ∧ jn ≤ 3) (hG : SG g L S) (hI : IN jn cI cR cM g L S f)  : Met l yX0_lettersSeen wsX0_lettersSeen ({ frames := 2, cells := 0, slots := 0, locals := 43 }) (P0 D cI cR cM [.ref (g 12)] sz (va_pl L f)) (QP (fun r => True) sz) 0 0 (va_A [] sz) := by
  refine go (cc := cX0_lettersSeen) (maxL := 3) (ret := (some .int)) (by decide +kernel) rfl (Nat.le_of_ble_eq_true rfl) ?_
  intro p e s m below meth c ls args Q hQ hsz hx hb hr hml hts hown hlocks hnm hP hK hD hl
  subst hsz
  have hS : va_S (va_A [] s.heap.size) s.heap s.heap [] := va_S.rf
  have hA : ∀ q, s.heap.size ≤ q → va_A [] s.heap.size q := fun q h => Or.inr h
  have hl : lv_has ls 3 [(0, .ref (g 12))] := hl
  refine lv_iconst (v := 0) hx hb dX0_lettersSeen_0 (by decide) ?_
  refine lv_istore_n (lv' := [(1, .int 0), (0, .ref (g 12))]) hx hb dX0_lettersSeen_1 rfl hl (by decide) rfl (fun ls hl => ?_)
  refine lv_iconst (v := 0) hx hb dX0_lettersSeen_2 (by decide) ?_
  refine lv_istore_n (lv' := [(2, .int 0), (1, .int 0), (0, .ref (g 12))]) hx hb dX0_lettersSeen_3 rfl hl (by decide) rfl (fun ls hl => ?_)
  have loop4 : ∀ (ddloop4 : Nat) (su : Int32) (le : Int32) (H : Heap) (locs : List Loc) (ls : Array Slot), (10 - le.toInt).toNat < ddloop4 → (0 ≤ le.toInt ∧ le.toInt ≤ 8 ∧ 0 ≤ su.toInt ∧ su.toInt ≤ le.toInt) → va_P D vwCl (va_pl L f) H → va_S (va_A [] s.heap.size) s.heap H locs → lv_has ls 3 [(0, .ref (g 12)), (1, .int su), (2, .int le)] → W p l e ({ frames := 2, cells := 0, slots := 0, locals := 43 }) s m args below meth c H locs 0 0 Q (F0 m 4 ls []) := by
    intro ddloop4
    induction ddloop4 with
    | zero =>
      intro su le H locs ls hdd
      exact absurd hdd (Nat.not_lt_zero _)
    | succ ddloop4 ih4 =>
      intro su le H locs ls hdd hi hP hS hl
      refine lv_iload_n hx hb dX0_lettersSeen_4 rfl (lv_at hl 2 rfl) ?_
      refine lv_bipush (v := 8) hx hb dX0_lettersSeen_5 (by decide) ?_
      refine a_icmp_ge (u := le.toInt) (v := 8) (tgt := 27) hx hb dX0_lettersSeen_7 (by decide) (rfl) (by decide) (fun c_2 => ?_) (fun c_2 => ?_)
      · refine lv_iload_n hx hb dX0_lettersSeen_27 rfl (lv_at hl 1 rfl) ?_
        exact rp_iret hx hb hr hlocks hS (trivial) hQ dX0_lettersSeen_28
      · refine lv_aload_n hx hb dX0_lettersSeen_10 rfl (lv_at hl 0 rfl) ?_
        refine lv_iload_n hx hb dX0_lettersSeen_11 rfl (lv_at hl 2 rfl) ?_
        obtain ⟨tm_3, lk_3, fg_3, iv0_3, iv1_3, iv2_3⟩ := op_12 hI (gm_12 hG) (gs_12 hG)
        refine roR (va_runV (As := [.int le]) (rest := []) ⟨hx, hb, hml, hown, hts⟩ (t_X0_rowSeen l D cI cR cM _  hj hG hI  ) (cwV 1 hts gX0_lettersSeen_X0_rowSeen rfl rfl rfl (by decide +kernel) ⟨Nat.le_of_ble_eq_true rfl, Nat.le_of_ble_eq_true rfl⟩) (pre_T hK hP hD (gm_12 hG) fg_3 rfl) rfl rfl hl.1 rfl (lv_room (Nat.le_of_ble_eq_true rfl)) dX0_lettersSeen_12 ⟨Nat.le_of_ble_eq_true rfl, Nat.le_of_ble_eq_true rfl⟩) hS hA hP (fun w_4 H locs hw hP hS => ?_)
        have ho_4 : (∀ z, w_4 = some z → ∃ p n, isRow L S z p n) := hw
        rcases x_opt w_4 with e_5 | ⟨r_5, e_5⟩
        · subst e_5
          refine W.eq (g2 := F0 m 15 ls [.null]) rfl ?_
          have hl : lv_has ls 3 [(0, .ref (g 12)), (1, .int su), (2, .int le)] := hl
          refine lv_ifnullN (tgt := 21) hx hb dX0_lettersSeen_15 (by decide) ?_
          obtain ⟨z_6, q_6, e_6⟩ := i_inc (a := le.toInt) (1) (rfl) (by decide) (by omega) (by omega)
          refine lv_iinc (v := z_6) (lv' := [(2, .int z_6), (0, .ref (g 12)), (1, .int su)]) hx hb dX0_lettersSeen_21 hl (k := 2) rfl q_6 (by decide) rfl (fun ls hl => ?_)
          refine lv_goto (tgt := 4) hx hb dX0_lettersSeen_24 (by decide) ?_
          exact ih4 su z_6 _ _ _ (by omega) (by first | assumption | omega) hP hS (lv_sub hl [1, 2, 0] rfl)
        · subst e_5
          refine W.eq (g2 := F0 m 15 ls [.ref r_5]) rfl ?_
          have hl : lv_has ls 3 [(0, .ref (g 12)), (1, .int su), (2, .int le)] := hl
          obtain ⟨p_7, n_7, m_7, s_7⟩ := ho_4 _ rfl
          refine lv_ifnull hx hb dX0_lettersSeen_15 ?_
          obtain ⟨z_8, q_8, e_8⟩ := i_inc (a := su.toInt) (1) (rfl) (by decide) (by omega) (by omega)
          refine lv_iinc (v := z_8) (lv' := [(1, .int z_8), (0, .ref (g 12)), (2, .int le)]) hx hb dX0_lettersSeen_18 hl (k := 1) rfl q_8 (by decide) rfl (fun ls hl => ?_)
          obtain ⟨z_9, q_9, e_9⟩ := i_inc (a := le.toInt) (1) (rfl) (by decide) (by omega) (by omega)
          refine lv_iinc (v := z_9) (lv' := [(2, .int z_9), (1, .int z_8), (0, .ref (g 12))]) hx hb dX0_lettersSeen_21 hl (k := 2) rfl q_9 (by decide) rfl (fun ls hl => ?_)
          refine lv_goto (tgt := 4) hx hb dX0_lettersSeen_24 (by decide) ?_
          exact ih4 z_8 z_9 _ _ _ (by omega) (by first | assumption | omega) hP hS (lv_sub hl [2, 1, 0] rfl)
  have hz_10 : (0 : Int32).toInt = 0 := by decide
  have hz_11 : (0 : Int32).toInt = 0 := by decide
  exact loop4 ((10 - (0 : Int32).toInt).toNat + 1) (0 : Int32) (0 : Int32) _ _ _ (by omega) (by first | assumption | omega) hP hS (lv_sub hl [2, 1, 0] rfl)
set_option maxRecDepth 100000 in
set_option maxHeartbeats 4000000 in
theorem t_X0_turnPage (l : Launch) (D : va_G) (cI cR cM : ClassId) (sz : Nat) {jn : Nat} {g : Nat → Nat} {L : List Nat} {S : Sg} {f : Nat → va_E}  (hj : 1 ≤ jn ∧ jn ≤ 3) (hG : SG g L S) (hI : IN jn cI cR cM g L S f)  : Met l yX0_turnPage wsX0_turnPage ({ frames := 1, cells := 0, slots := 0, locals := 20 }) (P0 D cI cR cM [.ref (g 12)] sz (va_pl L f)) (QG (S := Nat → va_E) (fun u => none) (fun u => va_pl L u) (fun u => IN jn cI cR cM g L S u ∧ FR S [12, 20, 21] f u) D (va_A (va_pl L f) sz)) 0 0 (va_A (va_pl L f) sz) := by
  refine go (cc := cX0_turnPage) (maxL := 2) (ret := none) (by decide +kernel) rfl (Nat.le_of_ble_eq_true rfl) ?_
  intro p e s m below meth c ls args Q hQ hsz hx hb hr hml hts hown hlocks hnm hP hK hD hl
  subst hsz
  have hD := hD.self (sz := s.heap.size)
  generalize hAe : va_A (va_pl L f) s.heap.size = A at hD hQ
  have hA : ∀ q, s.heap.size ≤ q → A q := fun q h => by rw [← hAe]; exact Or.inr h
  have hS : va_S A s.heap s.heap [] := va_S.rf
  have hF : FR S [12, 20, 21] f f := FR_rf
  have hl : lv_has ls 2 [(0, .ref (g 12))] := hl
  refine lv_aload_n hx hb dX0_turnPage_0 rfl (lv_at hl 0 rfl) ?_
  obtain ⟨tm_1, lk_1, fg_1, iv0_1, iv1_1, iv2_1⟩ := op_12 hI (gm_12 hG) (gs_12 hG)
  refine roP (va_runV (As := []) (rest := []) ⟨hx, hb, hml, hown, hts⟩ (t_X0_isFull l D cI cR cM _  hj hG hI  ) (cwV 0 hts gX0_turnPage_X0_isFull rfl rfl rfl (by decide +kernel) ⟨Nat.le_of_ble_eq_true rfl, Nat.le_of_ble_eq_true rfl⟩) (pre_T hK hP hD (gm_12 hG) fg_1 rfl) rfl rfl hl.1 rfl (lv_room (Nat.le_of_ble_eq_true rfl)) dX0_turnPage_1 ⟨Nat.le_of_ble_eq_true rfl, Nat.le_of_ble_eq_true rfl⟩) hS hA hP (fun r_2 H locs hw hP hS => ?_)
  obtain ⟨hb_2, h01_2⟩ : (∀ tm lk, f (g 12) = .inr (0, [.ref (g 20), .ref (g 21), .int tm, .int lk]) → r_2.toInt = 0 → tm.toInt < 60) ∧ (r_2.toInt = 0 ∨ r_2.toInt = 1) := hw
  have htm := hb_2 _ _ fg_1
  refine a_if_eq (u := r_2.toInt) (tgt := 8) hx hb dX0_turnPage_4 (by decide) (rfl) (fun c_3 => ?_) (fun c_3 => ?_)
  · refine lv_iconst (v := 0) hx hb dX0_turnPage_8 (by decide) ?_
    refine lv_istore_n (lv' := [(1, .int 0), (0, .ref (g 12))]) hx hb dX0_turnPage_9 rfl hl (by decide) rfl (fun ls hl => ?_)
    have loop10 : ∀ (ddloop10 : Nat) (le : Int32) (tm9 : Int32) (lk9 : Int32) (f_4 : Nat → va_E) (H : Heap) (locs : List Loc) (ls : Array Slot), (10 - le.toInt).toNat < ddloop10 → IN jn cI cR cM g L S f_4 → FR S [12, 20, 21] f f_4 → (f_4 (g 12) = .inr (0, [.ref (g 20), .ref (g 21), .int tm9, .int lk9])) → (0 ≤ le.toInt ∧ le.toInt ≤ 8) → (tm9.toInt < 60) → va_P D vwCl (va_pl L f_4) H → va_D A (va_pl L f_4) → va_S A s.heap H locs → lv_has ls 2 [(0, .ref (g 12)), (1, .int le)] → W p l e ({ frames := 1, cells := 0, slots := 0, locals := 20 }) s m args below meth c H locs 0 0 Q (F0 m 10 ls []) := by
      intro ddloop10
      induction ddloop10 with
      | zero =>
        intro le tm9 lk9 f_4 H locs ls hdd
        exact absurd hdd (Nat.not_lt_zero _)
      | succ ddloop10 ih10 =>
        intro le tm9 lk9 f_4 H locs ls hdd hI hF fc_4_g12 hi htm hP hD hS hl
        obtain ⟨iv0_5, iv1_5, iv2_5⟩ := iv_12 hI (gm_12 hG) (gs_12 hG) fc_4_g12
        refine lv_iload_n hx hb dX0_turnPage_10 rfl (lv_at hl 1 rfl) ?_
        refine lv_bipush (v := 8) hx hb dX0_turnPage_11 (by decide) ?_
        refine a_icmp_ge (u := le.toInt) (v := 8) (tgt := 52) hx hb dX0_turnPage_13 (by decide) (rfl) (by decide) (fun c_6 => ?_) (fun c_6 => ?_)
        · refine lv_aload_n hx hb dX0_turnPage_52 rfl (lv_at hl 0 rfl) ?_
          refine t_get (D := D) (L := L) (f := f_4) (ci := 0) (v := .ref (g 21)) (C := RX0) (T := TX0) (N := 4) hx hb hts (by decide +kernel) hown hK.1 hP (gm_12 hG) fc_4_g12 rfl 1 (by decide) (hts (.fieldLink RX0 19 "JugglingHall$Book" "marks" "[LJugglingHall$Marks;") (by decide +kernel)) (fun _ h9 => h9) rfl dX0_turnPage_53 ?_
          refine lv_aload_n hx hb dX0_turnPage_56 rfl (lv_at hl 0 rfl) ?_
          refine t_get (D := D) (L := L) (f := f_4) (ci := 0) (v := .int tm9) (C := RX0) (T := TX0) (N := 4) hx hb hts (by decide +kernel) hown hK.1 hP (gm_12 hG) fc_4_g12 rfl 2 (by decide) (hts (.fieldLink RX0 23 "JugglingHall$Book" "time" "I") (by decide +kernel)) (fun _ h9 => h9) rfl dX0_turnPage_57 ?_
          refine lv_iconst (v := 1) hx hb dX0_turnPage_60 (by decide) ?_
          refine a_iadd (u := tm9.toInt) (v := 1) hx hb dX0_turnPage_61 (rfl) (by decide) (by omega) (fun z_7 e_7 => ?_)
          refine lv_aload_n hx hb dX0_turnPage_62 rfl (lv_at hl 0 rfl) ?_
          refine t_get (D := D) (L := L) (f := f_4) (ci := 0) (v := .ref (g 21)) (C := RX0) (T := TX0) (N := 4) hx hb hts (by decide +kernel) hown hK.1 hP (gm_12 hG) fc_4_g12 rfl 1 (by decide) (hts (.fieldLink RX0 19 "JugglingHall$Book" "marks" "[LJugglingHall$Marks;") (by decide +kernel)) (fun _ h9 => h9) rfl dX0_turnPage_63 ?_
          refine lv_aload_n hx hb dX0_turnPage_66 rfl (lv_at hl 0 rfl) ?_
          refine t_get (D := D) (L := L) (f := f_4) (ci := 0) (v := .int tm9) (C := RX0) (T := TX0) (N := 4) hx hb hts (by decide +kernel) hown hK.1 hP (gm_12 hG) fc_4_g12 rfl 2 (by decide) (hts (.fieldLink RX0 23 "JugglingHall$Book" "time" "I") (by decide +kernel)) (fun _ h9 => h9) rfl dX0_turnPage_67 ?_
          obtain ⟨c_8, fg_8, iv0_8⟩ := op_21 hI (gm_21 hG) (gs_21 hG)
          refine t_aald (L := L) (f := f_4) (y := c_8) (u := tm9.toInt) hx hb hK.1 hP (gm_21 hG) 2 fg_8 rfl dX0_turnPage_70 (rfl) (by omega) (fun w_9 q_9 => ?_)
          have ho_9 : ∀ r, w_9 = some r → ∃ p, isMk L S r p := fun r h => iv0_8 tm9.toInt (by omega) (by omega) r (q_9 ▸ h)
          rcases x_opt w_9 with e_10 | ⟨r_10, e_10⟩
          · subst e_10
            refine W.eq (g2 := F0 m 71 ls [.null, .int z_7, .ref (g 21)]) rfl ?_
            have hl : lv_has ls 2 [(0, .ref (g 12)), (1, .int le)] := hl
            refine t_aastN (L := L) (f := f_4) (y := c_8) (u := (tm9.toInt + 1)) hx hb hK.1 hP hD hS (gm_21 hG) 2 fg_8 rfl dX0_turnPage_71 (e_7) (by omega) (fun f_11 H locs e9_11 o_11 hP hD hS => ?_)
            have ok_11 := opt_set (P := fun r => ∃ p, isMk L S r p) iv0_8 (k := (tm9.toInt + 1)) (x := none) (by omega) (fun r9 h9 => by cases h9)
            have fa_11 : f_11 (g 21) = .inl (cM, 61, .inr (.inr (.inr (.inr (va_up c_8 (tm9.toInt + 1).toNat none))))) := e9_11
            have hI := IN_set (e := .inl (cM, 61, .inr (.inr (.inr (.inr (va_up c_8 (tm9.toInt + 1).toNat none)))))) hI (gs_21 hG) (mk_21 ok_11) fa_11 o_11
            have hF := FR_set hF (gs_21 hG) (show (21 : Nat) ∈ ([12, 20, 21] : List Nat) by decide) o_11
            have fb_12 : f_11 (g 12) = .inr (0, [.ref (g 20), .ref (g 21), .int tm9, .int lk9]) := f_at o_11 (S_ne (gs_12 hG) (gs_21 hG) (show (12 : Nat) ≠ 21 by decide)) fc_4_g12
            refine lv_aload_n hx hb dX0_turnPage_72 rfl (lv_at hl 0 rfl) ?_
            refine lv_dup hx hb dX0_turnPage_73 rfl ?_
            refine t_get (D := D) (L := L) (f := f_11) (ci := 0) (v := .int tm9) (C := RX0) (T := TX0) (N := 4) hx hb hts (by decide +kernel) hown hK.1 hP (gm_12 hG) fb_12 rfl 2 (by decide) (hts (.fieldLink RX0 23 "JugglingHall$Book" "time" "I") (by decide +kernel)) (fun _ h9 => h9) rfl dX0_turnPage_74 ?_
            refine lv_iconst (v := 1) hx hb dX0_turnPage_77 (by decide) ?_
            refine a_iadd (u := tm9.toInt) (v := 1) hx hb dX0_turnPage_78 (rfl) (by decide) (by omega) (fun z_13 e_13 => ?_)
            refine t_put (D := D) (L := L) (f := f_11) (ci := 0) (v := .int z_13) (ty := .int) (C := RX0) (T := TX0) (N := 4) hx hb hts (by decide +kernel) tyX0 tyX0_ok nmX0 hown hK.1 hP hD hS (gm_12 hG) fb_12 rfl 2 (by decide) (hts (.fieldLink RX0 23 "JugglingHall$Book" "time" "I") (by decide +kernel)) (fun _ h9 => h9) rfl (by decide +kernel) rfl rfl (Nat.le_of_ble_eq_true rfl) dX0_turnPage_79 (fun f_14 H locs e9_14 o_14 hP hD hS => ?_)
            have fa_14 : f_14 (g 12) = .inr (0, [.ref (g 20), .ref (g 21), .int z_13, .int lk9]) := e9_14
            have hI := IN_set (e := .inr (0, [.ref (g 20), .ref (g 21), .int z_13, .int lk9])) hI (gs_12 hG) (mk_12 (by first | assumption | omega) (by first | assumption | omega) (by first | assumption | omega)) fa_14 o_14
            have hF := FR_set hF (gs_12 hG) (show (12 : Nat) ∈ ([12, 20, 21] : List Nat) by decide) o_14
            have fb_15 : f_14 (g 21) = .inl (cM, 61, .inr (.inr (.inr (.inr (va_up c_8 (tm9.toInt + 1).toNat none))))) := f_at o_14 (S_ne (gs_21 hG) (gs_12 hG) (show (21 : Nat) ≠ 12 by decide)) fa_11
            refine lv_aload_n hx hb dX0_turnPage_82 rfl (lv_at hl 0 rfl) ?_
            refine lv_aload_n hx hb dX0_turnPage_83 rfl (lv_at hl 0 rfl) ?_
            refine t_get (D := D) (L := L) (f := f_14) (ci := 0) (v := .int z_13) (C := RX0) (T := TX0) (N := 4) hx hb hts (by decide +kernel) hown hK.1 hP (gm_12 hG) fa_14 rfl 2 (by decide) (hts (.fieldLink RX0 23 "JugglingHall$Book" "time" "I") (by decide +kernel)) (fun _ h9 => h9) rfl dX0_turnPage_84 ?_
            refine t_put (D := D) (L := L) (f := f_14) (ci := 0) (v := .int z_13) (ty := .int) (C := RX0) (T := TX0) (N := 4) hx hb hts (by decide +kernel) tyX0 tyX0_ok nmX0 hown hK.1 hP hD hS (gm_12 hG) fa_14 rfl 3 (by decide) (hts (.fieldLink RX0 31 "JugglingHall$Book" "lookTime" "I") (by decide +kernel)) (fun _ h9 => h9) rfl (by decide +kernel) rfl rfl (Nat.le_of_ble_eq_true rfl) dX0_turnPage_87 (fun f_16 H locs e9_16 o_16 hP hD hS => ?_)
            have fa_16 : f_16 (g 12) = .inr (0, [.ref (g 20), .ref (g 21), .int z_13, .int z_13]) := e9_16
            have hI := IN_set (e := .inr (0, [.ref (g 20), .ref (g 21), .int z_13, .int z_13])) hI (gs_12 hG) (mk_12 (by first | assumption | omega) (by first | assumption | omega) (by first | assumption | omega)) fa_16 o_16
            have hF := FR_set hF (gs_12 hG) (show (12 : Nat) ∈ ([12, 20, 21] : List Nat) by decide) o_16
            have fb_17 : f_16 (g 21) = .inl (cM, 61, .inr (.inr (.inr (.inr (va_up c_8 (tm9.toInt + 1).toNat none))))) := f_at o_16 (S_ne (gs_21 hG) (gs_12 hG) (show (21 : Nat) ≠ 12 by decide)) fb_15
            exact g_vret f_16 hx hb hr hlocks hS rfl (⟨hI, hF⟩) hP hD hQ (Nat.le_of_ble_eq_true rfl) (Nat.le_of_ble_eq_true rfl) dX0_turnPage_90
          · subst e_10
            refine W.eq (g2 := F0 m 71 ls [.ref r_10, .int z_7, .ref (g 21)]) rfl ?_
            have hl : lv_has ls 2 [(0, .ref (g 12)), (1, .int le)] := hl
            obtain ⟨p_18, m_18, s_18⟩ := ho_9 _ rfl
            obtain ⟨cnt_20, fg_20, v1_20, v2_20, mp_20, sp_20⟩ := op_2 hI m_18 s_18
            refine t_aast (L := L) (f := f_4) (y := c_8) (u := (tm9.toInt + 1)) hx hb hK.1 hP hD hS (gm_21 hG) 2 3 fg_8 rfl m_18 fg_20 rfl dX0_turnPage_71 (e_7) (by omega) (fun f_19 H locs e9_19 o_19 hP hD hS => ?_)
            have ok_19 := opt_set (P := fun r => ∃ p, isMk L S r p) iv0_8 (k := (tm9.toInt + 1)) (x := (some r_10)) (by omega) (fun r9 h9 => by cases h9; exact ⟨_, m_18, s_18⟩)
            have fa_19 : f_19 (g 21) = .inl (cM, 61, .inr (.inr (.inr (.inr (va_up c_8 (tm9.toInt + 1).toNat (some r_10)))))) := e9_19
            have hI := IN_set (e := .inl (cM, 61, .inr (.inr (.inr (.inr (va_up c_8 (tm9.toInt + 1).toNat (some r_10))))))) hI (gs_21 hG) (mk_21 ok_19) fa_19 o_19
            have hF := FR_set hF (gs_21 hG) (show (21 : Nat) ∈ ([12, 20, 21] : List Nat) by decide) o_19
            have fb_21 : f_19 (g 12) = .inr (0, [.ref (g 20), .ref (g 21), .int tm9, .int lk9]) := f_at o_19 (S_ne (gs_12 hG) (gs_21 hG) (show (12 : Nat) ≠ 21 by decide)) fc_4_g12
            have fb_22 : f_19 r_10 = .inr (3, [.ref p_18, .int cnt_20]) := f_at o_19 (S_ne s_18 (gs_21 hG) (show (2 : Nat) ≠ 21 by decide)) fg_20
            refine lv_aload_n hx hb dX0_turnPage_72 rfl (lv_at hl 0 rfl) ?_
            refine lv_dup hx hb dX0_turnPage_73 rfl ?_
            refine t_get (D := D) (L := L) (f := f_19) (ci := 0) (v := .int tm9) (C := RX0) (T := TX0) (N := 4) hx hb hts (by decide +kernel) hown hK.1 hP (gm_12 hG) fb_21 rfl 2 (by decide) (hts (.fieldLink RX0 23 "JugglingHall$Book" "time" "I") (by decide +kernel)) (fun _ h9 => h9) rfl dX0_turnPage_74 ?_
            refine lv_iconst (v := 1) hx hb dX0_turnPage_77 (by decide) ?_
            refine a_iadd (u := tm9.toInt) (v := 1) hx hb dX0_turnPage_78 (rfl) (by decide) (by omega) (fun z_23 e_23 => ?_)
            refine t_put (D := D) (L := L) (f := f_19) (ci := 0) (v := .int z_23) (ty := .int) (C := RX0) (T := TX0) (N := 4) hx hb hts (by decide +kernel) tyX0 tyX0_ok nmX0 hown hK.1 hP hD hS (gm_12 hG) fb_21 rfl 2 (by decide) (hts (.fieldLink RX0 23 "JugglingHall$Book" "time" "I") (by decide +kernel)) (fun _ h9 => h9) rfl (by decide +kernel) rfl rfl (Nat.le_of_ble_eq_true rfl) dX0_turnPage_79 (fun f_24 H locs e9_24 o_24 hP hD hS => ?_)
            have fa_24 : f_24 (g 12) = .inr (0, [.ref (g 20), .ref (g 21), .int z_23, .int lk9]) := e9_24
            have hI := IN_set (e := .inr (0, [.ref (g 20), .ref (g 21), .int z_23, .int lk9])) hI (gs_12 hG) (mk_12 (by first | assumption | omega) (by first | assumption | omega) (by first | assumption | omega)) fa_24 o_24
            have hF := FR_set hF (gs_12 hG) (show (12 : Nat) ∈ ([12, 20, 21] : List Nat) by decide) o_24
            have fb_25 : f_24 (g 21) = .inl (cM, 61, .inr (.inr (.inr (.inr (va_up c_8 (tm9.toInt + 1).toNat (some r_10)))))) := f_at o_24 (S_ne (gs_21 hG) (gs_12 hG) (show (21 : Nat) ≠ 12 by decide)) fa_19
            have fb_26 : f_24 r_10 = .inr (3, [.ref p_18, .int cnt_20]) := f_at o_24 (S_ne s_18 (gs_12 hG) (show (2 : Nat) ≠ 12 by decide)) fb_22
            refine lv_aload_n hx hb dX0_turnPage_82 rfl (lv_at hl 0 rfl) ?_
            refine lv_aload_n hx hb dX0_turnPage_83 rfl (lv_at hl 0 rfl) ?_
            refine t_get (D := D) (L := L) (f := f_24) (ci := 0) (v := .int z_23) (C := RX0) (T := TX0) (N := 4) hx hb hts (by decide +kernel) hown hK.1 hP (gm_12 hG) fa_24 rfl 2 (by decide) (hts (.fieldLink RX0 23 "JugglingHall$Book" "time" "I") (by decide +kernel)) (fun _ h9 => h9) rfl dX0_turnPage_84 ?_
            refine t_put (D := D) (L := L) (f := f_24) (ci := 0) (v := .int z_23) (ty := .int) (C := RX0) (T := TX0) (N := 4) hx hb hts (by decide +kernel) tyX0 tyX0_ok nmX0 hown hK.1 hP hD hS (gm_12 hG) fa_24 rfl 3 (by decide) (hts (.fieldLink RX0 31 "JugglingHall$Book" "lookTime" "I") (by decide +kernel)) (fun _ h9 => h9) rfl (by decide +kernel) rfl rfl (Nat.le_of_ble_eq_true rfl) dX0_turnPage_87 (fun f_27 H locs e9_27 o_27 hP hD hS => ?_)
            have fa_27 : f_27 (g 12) = .inr (0, [.ref (g 20), .ref (g 21), .int z_23, .int z_23]) := e9_27
            have hI := IN_set (e := .inr (0, [.ref (g 20), .ref (g 21), .int z_23, .int z_23])) hI (gs_12 hG) (mk_12 (by first | assumption | omega) (by first | assumption | omega) (by first | assumption | omega)) fa_27 o_27
            have hF := FR_set hF (gs_12 hG) (show (12 : Nat) ∈ ([12, 20, 21] : List Nat) by decide) o_27
            have fb_28 : f_27 (g 21) = .inl (cM, 61, .inr (.inr (.inr (.inr (va_up c_8 (tm9.toInt + 1).toNat (some r_10)))))) := f_at o_27 (S_ne (gs_21 hG) (gs_12 hG) (show (21 : Nat) ≠ 12 by decide)) fb_25
            have fb_29 : f_27 r_10 = .inr (3, [.ref p_18, .int cnt_20]) := f_at o_27 (S_ne s_18 (gs_12 hG) (show (2 : Nat) ≠ 12 by decide)) fb_26
            exact g_vret f_27 hx hb hr hlocks hS rfl (⟨hI, hF⟩) hP hD hQ (Nat.le_of_ble_eq_true rfl) (Nat.le_of_ble_eq_true rfl) dX0_turnPage_90
        · refine lv_aload_n hx hb dX0_turnPage_16 rfl (lv_at hl 0 rfl) ?_
          refine t_get (D := D) (L := L) (f := f_4) (ci := 0) (v := .ref (g 20)) (C := RX0) (T := TX0) (N := 4) hx hb hts (by decide +kernel) hown hK.1 hP (gm_12 hG) fc_4_g12 rfl 0 (by decide) (hts (.fieldLink RX0 11 "JugglingHall$Book" "rows" "[LJugglingHall$Row;") (by decide +kernel)) (fun _ h9 => h9) rfl dX0_turnPage_17 ?_
          refine lv_aload_n hx hb dX0_turnPage_20 rfl (lv_at hl 0 rfl) ?_
          refine t_get (D := D) (L := L) (f := f_4) (ci := 0) (v := .int tm9) (C := RX0) (T := TX0) (N := 4) hx hb hts (by decide +kernel) hown hK.1 hP (gm_12 hG) fc_4_g12 rfl 2 (by decide) (hts (.fieldLink RX0 23 "JugglingHall$Book" "time" "I") (by decide +kernel)) (fun _ h9 => h9) rfl dX0_turnPage_21 ?_
          refine lv_iconst (v := 1) hx hb dX0_turnPage_24 (by decide) ?_
          refine a_iadd (u := tm9.toInt) (v := 1) hx hb dX0_turnPage_25 (rfl) (by decide) (by omega) (fun z_30 e_30 => ?_)
          refine lv_bipush (v := 8) hx hb dX0_turnPage_26 (by decide) ?_
          refine a_imul (u := (tm9.toInt + 1)) (v := 8) hx hb dX0_turnPage_28 (e_30) (by decide) (by omega) (fun z_31 e_31 => ?_)
          refine lv_iload_n hx hb dX0_turnPage_29 rfl (lv_at hl 1 rfl) ?_
          refine a_iadd (u := ((tm9.toInt + 1) * 8)) (v := le.toInt) hx hb dX0_turnPage_30 (e_31) (rfl) (by omega) (fun z_32 e_32 => ?_)
          refine lv_aload_n hx hb dX0_turnPage_31 rfl (lv_at hl 0 rfl) ?_
          refine t_get (D := D) (L := L) (f := f_4) (ci := 0) (v := .ref (g 20)) (C := RX0) (T := TX0) (N := 4) hx hb hts (by decide +kernel) hown hK.1 hP (gm_12 hG) fc_4_g12 rfl 0 (by decide) (hts (.fieldLink RX0 11 "JugglingHall$Book" "rows" "[LJugglingHall$Row;") (by decide +kernel)) (fun _ h9 => h9) rfl dX0_turnPage_32 ?_
          refine lv_aload_n hx hb dX0_turnPage_35 rfl (lv_at hl 0 rfl) ?_
          refine t_get (D := D) (L := L) (f := f_4) (ci := 0) (v := .int tm9) (C := RX0) (T := TX0) (N := 4) hx hb hts (by decide +kernel) hown hK.1 hP (gm_12 hG) fc_4_g12 rfl 2 (by decide) (hts (.fieldLink RX0 23 "JugglingHall$Book" "time" "I") (by decide +kernel)) (fun _ h9 => h9) rfl dX0_turnPage_36 ?_
          refine lv_bipush (v := 8) hx hb dX0_turnPage_39 (by decide) ?_
          refine a_imul (u := tm9.toInt) (v := 8) hx hb dX0_turnPage_41 (rfl) (by decide) (by omega) (fun z_33 e_33 => ?_)
          refine lv_iload_n hx hb dX0_turnPage_42 rfl (lv_at hl 1 rfl) ?_
          refine a_iadd (u := (tm9.toInt * 8)) (v := le.toInt) hx hb dX0_turnPage_43 (e_33) (rfl) (by omega) (fun z_34 e_34 => ?_)
          obtain ⟨c_35, fg_35, iv0_35⟩ := op_20 hI (gm_20 hG) (gs_20 hG)
          refine t_aald (L := L) (f := f_4) (y := c_35) (u := ((tm9.toInt * 8) + le.toInt)) hx hb hK.1 hP (gm_20 hG) 1 fg_35 rfl dX0_turnPage_44 (e_34) (by omega) (fun w_36 q_36 => ?_)
          have ho_36 : ∀ r, w_36 = some r → ∃ p n, isRow L S r p n := fun r h => iv0_35 ((tm9.toInt * 8) + le.toInt) (by omega) (by omega) r (q_36 ▸ h)
          rcases x_opt w_36 with e_37 | ⟨r_37, e_37⟩
          · subst e_37
            refine W.eq (g2 := F0 m 45 ls [.null, .int z_32, .ref (g 20)]) rfl ?_
            have hl : lv_has ls 2 [(0, .ref (g 12)), (1, .int le)] := hl
            refine t_aastN (L := L) (f := f_4) (y := c_35) (u := (((tm9.toInt + 1) * 8) + le.toInt)) hx hb hK.1 hP hD hS (gm_20 hG) 1 fg_35 rfl dX0_turnPage_45 (e_32) (by omega) (fun f_38 H locs e9_38 o_38 hP hD hS => ?_)
            have ok_38 := opt_set (P := fun r => ∃ p n, isRow L S r p n) iv0_35 (k := (((tm9.toInt + 1) * 8) + le.toInt)) (x := none) (by omega) (fun r9 h9 => by cases h9)
            have fa_38 : f_38 (g 20) = .inl (cR, 488, .inr (.inr (.inr (.inr (va_up c_35 (((tm9.toInt + 1) * 8) + le.toInt).toNat none))))) := e9_38
            have hI := IN_set (e := .inl (cR, 488, .inr (.inr (.inr (.inr (va_up c_35 (((tm9.toInt + 1) * 8) + le.toInt).toNat none)))))) hI (gs_20 hG) (mk_20 ok_38) fa_38 o_38
            have hF := FR_set hF (gs_20 hG) (show (20 : Nat) ∈ ([12, 20, 21] : List Nat) by decide) o_38
            have fb_39 : f_38 (g 12) = .inr (0, [.ref (g 20), .ref (g 21), .int tm9, .int lk9]) := f_at o_38 (S_ne (gs_12 hG) (gs_20 hG) (show (12 : Nat) ≠ 20 by decide)) fc_4_g12
            obtain ⟨z_40, q_40, e_40⟩ := i_inc (a := le.toInt) (1) (rfl) (by decide) (by omega) (by omega)
            refine lv_iinc (v := z_40) (lv' := [(1, .int z_40), (0, .ref (g 12))]) hx hb dX0_turnPage_46 hl (k := 1) rfl q_40 (by decide) rfl (fun ls hl => ?_)
            refine lv_goto (tgt := 10) hx hb dX0_turnPage_49 (by decide) ?_
            exact ih10 z_40 tm9 lk9 f_38 _ _ _ (by omega) hI hF fb_39 (by first | assumption | omega) (by first | assumption | omega) hP hD hS (lv_sub hl [1, 0] rfl)
          · subst e_37
            refine W.eq (g2 := F0 m 45 ls [.ref r_37, .int z_32, .ref (g 20)]) rfl ?_
            have hl : lv_has ls 2 [(0, .ref (g 12)), (1, .int le)] := hl
            obtain ⟨p_41, n_41, m_41, s_41⟩ := ho_36 _ rfl
            obtain ⟨len_43, fg_43, v1_43, v2_43, v3_43, mp_43, sp_43⟩ := op_0 hI m_41 s_41
            obtain ⟨w1_43, w2_43, w3_43, w4_43, w5_43⟩ := lenw hj v1_43 v2_43 v3_43
            refine t_aast (L := L) (f := f_4) (y := c_35) (u := (((tm9.toInt + 1) * 8) + le.toInt)) hx hb hK.1 hP hD hS (gm_20 hG) 1 5 fg_35 rfl m_41 fg_43 rfl dX0_turnPage_45 (e_32) (by omega) (fun f_42 H locs e9_42 o_42 hP hD hS => ?_)
            have ok_42 := opt_set (P := fun r => ∃ p n, isRow L S r p n) iv0_35 (k := (((tm9.toInt + 1) * 8) + le.toInt)) (x := (some r_37)) (by omega) (fun r9 h9 => by cases h9; exact ⟨_, _, m_41, s_41⟩)
            have fa_42 : f_42 (g 20) = .inl (cR, 488, .inr (.inr (.inr (.inr (va_up c_35 (((tm9.toInt + 1) * 8) + le.toInt).toNat (some r_37)))))) := e9_42
            have hI := IN_set (e := .inl (cR, 488, .inr (.inr (.inr (.inr (va_up c_35 (((tm9.toInt + 1) * 8) + le.toInt).toNat (some r_37))))))) hI (gs_20 hG) (mk_20 ok_42) fa_42 o_42
            have hF := FR_set hF (gs_20 hG) (show (20 : Nat) ∈ ([12, 20, 21] : List Nat) by decide) o_42
            have fb_44 : f_42 (g 12) = .inr (0, [.ref (g 20), .ref (g 21), .int tm9, .int lk9]) := f_at o_42 (S_ne (gs_12 hG) (gs_20 hG) (show (12 : Nat) ≠ 20 by decide)) fc_4_g12
            have fb_45 : f_42 r_37 = .inr (5, [.int (nI jn), .int (nI (2 * jn)), .ref p_41, .int len_43]) := f_at o_42 (S_ne s_41 (gs_20 hG) (show (0 : Nat) ≠ 20 by decide)) fg_43
            obtain ⟨z_46, q_46, e_46⟩ := i_inc (a := le.toInt) (1) (rfl) (by decide) (by omega) (by omega)
            refine lv_iinc (v := z_46) (lv' := [(1, .int z_46), (0, .ref (g 12))]) hx hb dX0_turnPage_46 hl (k := 1) rfl q_46 (by decide) rfl (fun ls hl => ?_)
            refine lv_goto (tgt := 10) hx hb dX0_turnPage_49 (by decide) ?_
            exact ih10 z_46 tm9 lk9 f_42 _ _ _ (by omega) hI hF fb_44 (by first | assumption | omega) (by first | assumption | omega) hP hD hS (lv_sub hl [1, 0] rfl)
    have hz_47 : (0 : Int32).toInt = 0 := by decide
    exact loop10 ((10 - (0 : Int32).toInt).toNat + 1) (0 : Int32) tm_1 lk_1 f _ _ _ (by omega) hI hF fg_1 (by first | assumption | omega) (by first | assumption | omega) hP hD hS (lv_sub hl [1, 0] rfl)
  · exact g_vret f hx hb hr hlocks hS rfl (⟨hI, hF⟩) hP hD hQ (Nat.le_of_ble_eq_true rfl) (Nat.le_of_ble_eq_true rfl) dX0_turnPage_7
set_option maxRecDepth 100000 in
set_option maxHeartbeats 4000000 in
theorem t_X0_writeRow (l : Launch) (D : va_G) (cI cR cM : ClassId) (sz : Nat) {jn : Nat} {g : Nat → Nat} {L : List Nat} {S : Sg} {f : Nat → va_E} {b b_p b_n : Nat} {b_l : Int32} {b_c : Nat → Int32} {x : Int32}  (hj : 1 ≤ jn ∧ jn ≤ 3) (hG : SG g L S) (hI : IN jn cI cR cM g L S f) (m_b : b ∈ L) (s_b : S b = (0, b_p, b_n)) (f_b : f b = .inr (5, [.int (nI jn), .int (nI (2 * jn)), .ref b_p, .int b_l])) (f_b_p : f b_p = .inl (cI, b_n, .inl b_c))  : Met l yX0_writeRow wsX0_writeRow ({ frames := 0, cells := 0, slots := 0, locals := 0 }) (P0 D cI cR cM [.ref (g 12), .int x, .ref b] sz (va_pl L f)) (QG (S := Nat → va_E) (fun u => none) (fun u => va_pl L u) (fun u => IN jn cI cR cM g L S u ∧ FR S [20] f u) D (va_A (va_pl L f) sz)) 0 0 (va_A (va_pl L f) sz) := by
  refine go (cc := cX0_writeRow) (maxL := 3) (ret := none) (by decide +kernel) rfl (Nat.le_of_ble_eq_true rfl) ?_
  intro p e s m below meth c ls args Q hQ hsz hx hb hr hml hts hown hlocks hnm hP hK hD hl
  subst hsz
  have hD := hD.self (sz := s.heap.size)
  generalize hAe : va_A (va_pl L f) s.heap.size = A at hD hQ
  have hA : ∀ q, s.heap.size ≤ q → A q := fun q h => by rw [← hAe]; exact Or.inr h
  have hS : va_S A s.heap s.heap [] := va_S.rf
  have hF : FR S [20] f f := FR_rf
  have hl : lv_has ls 3 [(0, .ref (g 12)), (1, .int x), (2, .ref b)] := hl
  obtain ⟨v1_b, v2_b, v3_b, m_b_p, s_b_p⟩ := iv_0 hI m_b s_b f_b
  obtain ⟨w1_b, w2_b, w3_b, w4_b, w5_b⟩ := lenw hj v1_b v2_b v3_b
  have k_b := iv_1 hI m_b_p s_b_p f_b_p
  refine lv_iload_n hx hb dX0_writeRow_0 rfl (lv_at hl 1 rfl) ?_
  refine a_if_lt (u := x.toInt) (tgt := 25) hx hb dX0_writeRow_1 (by decide) (rfl) (fun c_1 => ?_) (fun c_1 => ?_)
  · exact g_vret f hx hb hr hlocks hS rfl (⟨hI, hF⟩) hP hD hQ (Nat.le_of_ble_eq_true rfl) (Nat.le_of_ble_eq_true rfl) dX0_writeRow_25
  · refine lv_iload_n hx hb dX0_writeRow_4 rfl (lv_at hl 1 rfl) ?_
    refine lv_bipush (v := 8) hx hb dX0_writeRow_5 (by decide) ?_
    refine a_icmp_ge (u := x.toInt) (v := 8) (tgt := 25) hx hb dX0_writeRow_7 (by decide) (rfl) (by decide) (fun c_2 => ?_) (fun c_2 => ?_)
    · exact g_vret f hx hb hr hlocks hS rfl (⟨hI, hF⟩) hP hD hQ (Nat.le_of_ble_eq_true rfl) (Nat.le_of_ble_eq_true rfl) dX0_writeRow_25
    · refine lv_aload_n hx hb dX0_writeRow_10 rfl (lv_at hl 0 rfl) ?_
      obtain ⟨tm_3, lk_3, fg_3, iv0_3, iv1_3, iv2_3⟩ := op_12 hI (gm_12 hG) (gs_12 hG)
      refine t_get (D := D) (L := L) (f := f) (ci := 0) (v := .ref (g 20)) (C := RX0) (T := TX0) (N := 4) hx hb hts (by decide +kernel) hown hK.1 hP (gm_12 hG) fg_3 rfl 0 (by decide) (hts (.fieldLink RX0 11 "JugglingHall$Book" "rows" "[LJugglingHall$Row;") (by decide +kernel)) (fun _ h9 => h9) rfl dX0_writeRow_11 ?_
      refine lv_aload_n hx hb dX0_writeRow_14 rfl (lv_at hl 0 rfl) ?_
      refine t_get (D := D) (L := L) (f := f) (ci := 0) (v := .int tm_3) (C := RX0) (T := TX0) (N := 4) hx hb hts (by decide +kernel) hown hK.1 hP (gm_12 hG) fg_3 rfl 2 (by decide) (hts (.fieldLink RX0 23 "JugglingHall$Book" "time" "I") (by decide +kernel)) (fun _ h9 => h9) rfl dX0_writeRow_15 ?_
      refine lv_bipush (v := 8) hx hb dX0_writeRow_18 (by decide) ?_
      refine a_imul (u := tm_3.toInt) (v := 8) hx hb dX0_writeRow_20 (rfl) (by decide) (by omega) (fun z_4 e_4 => ?_)
      refine lv_iload_n hx hb dX0_writeRow_21 rfl (lv_at hl 1 rfl) ?_
      refine a_iadd (u := (tm_3.toInt * 8)) (v := x.toInt) hx hb dX0_writeRow_22 (e_4) (rfl) (by omega) (fun z_5 e_5 => ?_)
      refine lv_aload_n hx hb dX0_writeRow_23 rfl (lv_at hl 2 rfl) ?_
      obtain ⟨c_6, fg_6, iv0_6⟩ := op_20 hI (gm_20 hG) (gs_20 hG)
      refine t_aast (L := L) (f := f) (y := c_6) (u := ((tm_3.toInt * 8) + x.toInt)) hx hb hK.1 hP hD hS (gm_20 hG) 1 5 fg_6 rfl m_b f_b rfl dX0_writeRow_24 (e_5) (by omega) (fun f_7 H locs e9_7 o_7 hP hD hS => ?_)
      have ok_7 := opt_set (P := fun r => ∃ p n, isRow L S r p n) iv0_6 (k := ((tm_3.toInt * 8) + x.toInt)) (x := (some b)) (by omega) (fun r9 h9 => by cases h9; exact ⟨_, _, m_b, s_b⟩)
      have fa_7 : f_7 (g 20) = .inl (cR, 488, .inr (.inr (.inr (.inr (va_up c_6 ((tm_3.toInt * 8) + x.toInt).toNat (some b)))))) := e9_7
      have hI := IN_set (e := .inl (cR, 488, .inr (.inr (.inr (.inr (va_up c_6 ((tm_3.toInt * 8) + x.toInt).toNat (some b))))))) hI (gs_20 hG) (mk_20 ok_7) fa_7 o_7
      have hF := FR_set hF (gs_20 hG) (show (20 : Nat) ∈ ([20] : List Nat) by decide) o_7
      have fb_8 : f_7 b = .inr (5, [.int (nI jn), .int (nI (2 * jn)), .ref b_p, .int b_l]) := f_at o_7 (S_ne s_b (gs_20 hG) (show (0 : Nat) ≠ 20 by decide)) f_b
      have fb_9 : f_7 b_p = .inl (cI, b_n, .inl b_c) := f_at o_7 (S_ne s_b_p (gs_20 hG) (show (1 : Nat) ≠ 20 by decide)) f_b_p
      have fb_10 : f_7 (g 12) = .inr (0, [.ref (g 20), .ref (g 21), .int tm_3, .int lk_3]) := f_at o_7 (S_ne (gs_12 hG) (gs_20 hG) (show (12 : Nat) ≠ 20 by decide)) fg_3
      exact g_vret f_7 hx hb hr hlocks hS rfl (⟨hI, hF⟩) hP hD hQ (Nat.le_of_ble_eq_true rfl) (Nat.le_of_ble_eq_true rfl) dX0_writeRow_25
set_option maxRecDepth 100000 in
set_option maxHeartbeats 4000000 in
theorem t_X0_writeMarks (l : Launch) (D : va_G) (cI cR cM : ClassId) (sz : Nat) {jn : Nat} {g : Nat → Nat} {L : List Nat} {S : Sg} {f : Nat → va_E} {k k_p : Nat} {k_l : Int32} {k_c : Nat → Int32}  (hj : 1 ≤ jn ∧ jn ≤ 3) (hG : SG g L S) (hI : IN jn cI cR cM g L S f) (m_k : k ∈ L) (s_k : S k = (2, k_p, 0)) (f_k : f k = .inr (3, [.ref k_p, .int k_l])) (f_k_p : f k_p = .inl (cI, 7, .inl k_c))  : Met l yX0_writeMarks wsX0_writeMarks ({ frames := 0, cells := 0, slots := 0, locals := 0 }) (P0 D cI cR cM [.ref (g 12), .ref k] sz (va_pl L f)) (QG (S := Nat → va_E) (fun u => none) (fun u => va_pl L u) (fun u => IN jn cI cR cM g L S u ∧ FR S [21] f u) D (va_A (va_pl L f) sz)) 0 0 (va_A (va_pl L f) sz) := by
  refine go (cc := cX0_writeMarks) (maxL := 2) (ret := none) (by decide +kernel) rfl (Nat.le_of_ble_eq_true rfl) ?_
  intro p e s m below meth c ls args Q hQ hsz hx hb hr hml hts hown hlocks hnm hP hK hD hl
  subst hsz
  have hD := hD.self (sz := s.heap.size)
  generalize hAe : va_A (va_pl L f) s.heap.size = A at hD hQ
  have hA : ∀ q, s.heap.size ≤ q → A q := fun q h => by rw [← hAe]; exact Or.inr h
  have hS : va_S A s.heap s.heap [] := va_S.rf
  have hF : FR S [21] f f := FR_rf
  have hl : lv_has ls 2 [(0, .ref (g 12)), (1, .ref k)] := hl
  obtain ⟨v1_k, v2_k, m_k_p, s_k_p⟩ := iv_2 hI m_k s_k f_k
  refine lv_aload_n hx hb dX0_writeMarks_0 rfl (lv_at hl 0 rfl) ?_
  obtain ⟨tm_1, lk_1, fg_1, iv0_1, iv1_1, iv2_1⟩ := op_12 hI (gm_12 hG) (gs_12 hG)
  refine t_get (D := D) (L := L) (f := f) (ci := 0) (v := .ref (g 21)) (C := RX0) (T := TX0) (N := 4) hx hb hts (by decide +kernel) hown hK.1 hP (gm_12 hG) fg_1 rfl 1 (by decide) (hts (.fieldLink RX0 19 "JugglingHall$Book" "marks" "[LJugglingHall$Marks;") (by decide +kernel)) (fun _ h9 => h9) rfl dX0_writeMarks_1 ?_
  refine lv_aload_n hx hb dX0_writeMarks_4 rfl (lv_at hl 0 rfl) ?_
  refine t_get (D := D) (L := L) (f := f) (ci := 0) (v := .int tm_1) (C := RX0) (T := TX0) (N := 4) hx hb hts (by decide +kernel) hown hK.1 hP (gm_12 hG) fg_1 rfl 2 (by decide) (hts (.fieldLink RX0 23 "JugglingHall$Book" "time" "I") (by decide +kernel)) (fun _ h9 => h9) rfl dX0_writeMarks_5 ?_
  refine lv_aload_n hx hb dX0_writeMarks_8 rfl (lv_at hl 1 rfl) ?_
  obtain ⟨c_2, fg_2, iv0_2⟩ := op_21 hI (gm_21 hG) (gs_21 hG)
  refine t_aast (L := L) (f := f) (y := c_2) (u := tm_1.toInt) hx hb hK.1 hP hD hS (gm_21 hG) 2 3 fg_2 rfl m_k f_k rfl dX0_writeMarks_9 (rfl) (by omega) (fun f_3 H locs e9_3 o_3 hP hD hS => ?_)
  have ok_3 := opt_set (P := fun r => ∃ p, isMk L S r p) iv0_2 (k := tm_1.toInt) (x := (some k)) (by omega) (fun r9 h9 => by cases h9; exact ⟨_, m_k, s_k⟩)
  have fa_3 : f_3 (g 21) = .inl (cM, 61, .inr (.inr (.inr (.inr (va_up c_2 tm_1.toInt.toNat (some k)))))) := e9_3
  have hI := IN_set (e := .inl (cM, 61, .inr (.inr (.inr (.inr (va_up c_2 tm_1.toInt.toNat (some k))))))) hI (gs_21 hG) (mk_21 ok_3) fa_3 o_3
  have hF := FR_set hF (gs_21 hG) (show (21 : Nat) ∈ ([21] : List Nat) by decide) o_3
  have fb_4 : f_3 k = .inr (3, [.ref k_p, .int k_l]) := f_at o_3 (S_ne s_k (gs_21 hG) (show (2 : Nat) ≠ 21 by decide)) f_k
  have fb_5 : f_3 k_p = .inl (cI, 7, .inl k_c) := f_at o_3 (S_ne s_k_p (gs_21 hG) (show (3 : Nat) ≠ 21 by decide)) f_k_p
  have fb_6 : f_3 (g 12) = .inr (0, [.ref (g 20), .ref (g 21), .int tm_1, .int lk_1]) := f_at o_3 (S_ne (gs_12 hG) (gs_21 hG) (show (12 : Nat) ≠ 21 by decide)) fg_1
  exact g_vret f_3 hx hb hr hlocks hS rfl (⟨hI, hF⟩) hP hD hQ (Nat.le_of_ble_eq_true rfl) (Nat.le_of_ble_eq_true rfl) dX0_writeMarks_10
set_option maxRecDepth 100000 in
set_option maxHeartbeats 4000000 in
theorem t_X6_hasRoom (l : Launch) (D : va_G) (cI cR cM : ClassId) (sz : Nat) {jn : Nat} {g : Nat → Nat} {L : List Nat} {S : Sg} {f : Nat → va_E} {x : Int32}  (hj : 1 ≤ jn ∧ jn ≤ 3) (hG : SG g L S) (hI : IN jn cI cR cM g L S f) (hx0 : -10000000 ≤ x.toInt ∧ x.toInt ≤ 10000000) : Met l yX6_hasRoom wsX6_hasRoom ({ frames := 0, cells := 0, slots := 0, locals := 0 }) (P0 D cI cR cM [.ref (g 17), .int x] sz (va_pl L f)) (QP (fun r => (r.toInt = 0 ∨ r.toInt = 1)) sz) 0 0 (va_A [] sz) := by
  refine go (cc := cX6_hasRoom) (maxL := 2) (ret := (some .boolean)) (by decide +kernel) rfl (Nat.le_of_ble_eq_true rfl) ?_
  intro p e s m below meth c ls args Q hQ hsz hx hb hr hml hts hown hlocks hnm hP hK hD hl
  subst hsz
  have hS : va_S (va_A [] s.heap.size) s.heap s.heap [] := va_S.rf
  have hA : ∀ q, s.heap.size ≤ q → va_A [] s.heap.size q := fun q h => Or.inr h
  have hl : lv_has ls 2 [(0, .ref (g 17)), (1, .int x)] := hl
  refine lv_aload_n hx hb dX6_hasRoom_0 rfl (lv_at hl 0 rfl) ?_
  obtain ⟨len_1, st_1, fg_1, iv0_1, iv1_1⟩ := op_17 hI (gm_17 hG) (gs_17 hG)
  refine t_get (D := D) (L := L) (f := f) (ci := 6) (v := .int len_1) (C := RX6) (T := TX6) (N := 4) hx hb hts (by decide +kernel) hown hK.1 hP (gm_17 hG) fg_1 rfl 2 (by decide) (hts (.fieldLink RX6 16 "JugglingHall$Sheet" "length" "I") (by decide +kernel)) (fun _ h9 => h9) rfl dX6_hasRoom_1 ?_
  refine lv_iload_n hx hb dX6_hasRoom_4 rfl (lv_at hl 1 rfl) ?_
  refine a_iadd (u := len_1.toInt) (v := x.toInt) hx hb dX6_hasRoom_5 (rfl) (rfl) (by omega) (fun z_2 e_2 => ?_)
  refine lv_sipush (v := 300) hx hb dX6_hasRoom_6 (by decide) ?_
  refine a_icmp_gt (u := (len_1.toInt + x.toInt)) (v := 300) (tgt := 16) hx hb dX6_hasRoom_9 (by decide) (e_2) (by decide) (fun c_3 => ?_) (fun c_3 => ?_)
  · refine lv_iconst (v := 0) hx hb dX6_hasRoom_16 (by decide) ?_
    have hz_4 : (0 : Int32).toInt = 0 := by decide
    exact rp_zret hx hb hr hlocks hS (by first | exact Or.inl rfl | exact Or.inr rfl) (show (0 : Int32).toInt = 0 ∨ (0 : Int32).toInt = 1 from (by first | assumption | omega)) hQ dX6_hasRoom_17
  · refine lv_iconst (v := 1) hx hb dX6_hasRoom_12 (by decide) ?_
    refine lv_goto (tgt := 17) hx hb dX6_hasRoom_13 (by decide) ?_
    have hz_5 : (1 : Int32).toInt = 1 := by decide
    exact rp_zret hx hb hr hlocks hS (by first | exact Or.inl rfl | exact Or.inr rfl) (show (1 : Int32).toInt = 0 ∨ (1 : Int32).toInt = 1 from (by first | assumption | omega)) hQ dX6_hasRoom_17
set_option maxRecDepth 100000 in
set_option maxHeartbeats 4000000 in
theorem t_X6_write (l : Launch) (D : va_G) (cI cR cM : ClassId) (sz : Nat) {jn : Nat} {g : Nat → Nat} {L : List Nat} {S : Sg} {f : Nat → va_E} {x y : Int32}  (hj : 1 ≤ jn ∧ jn ≤ 3) (hG : SG g L S) (hI : IN jn cI cR cM g L S f)  : Met l yX6_write wsX6_write ({ frames := 0, cells := 0, slots := 0, locals := 0 }) (P0 D cI cR cM [.ref (g 17), .int x, .int y] sz (va_pl L f)) (QG (S := Nat → va_E) (fun u => none) (fun u => va_pl L u) (fun u => IN jn cI cR cM g L S u ∧ FR S [17, 44, 45] f u) D (va_A (va_pl L f) sz)) 0 0 (va_A (va_pl L f) sz) := by
  refine go (cc := cX6_write) (maxL := 3) (ret := none) (by decide +kernel) rfl (Nat.le_of_ble_eq_true rfl) ?_
  intro p e s m below meth c ls args Q hQ hsz hx hb hr hml hts hown hlocks hnm hP hK hD hl
  subst hsz
  have hD := hD.self (sz := s.heap.size)
  generalize hAe : va_A (va_pl L f) s.heap.size = A at hD hQ
  have hA : ∀ q, s.heap.size ≤ q → A q := fun q h => by rw [← hAe]; exact Or.inr h
  have hS : va_S A s.heap s.heap [] := va_S.rf
  have hF : FR S [17, 44, 45] f f := FR_rf
  have hl : lv_has ls 3 [(0, .ref (g 17)), (1, .int x), (2, .int y)] := hl
  refine lv_aload_n hx hb dX6_write_0 rfl (lv_at hl 0 rfl) ?_
  obtain ⟨len_1, st_1, fg_1, iv0_1, iv1_1⟩ := op_17 hI (gm_17 hG) (gs_17 hG)
  refine t_get (D := D) (L := L) (f := f) (ci := 6) (v := .int len_1) (C := RX6) (T := TX6) (N := 4) hx hb hts (by decide +kernel) hown hK.1 hP (gm_17 hG) fg_1 rfl 2 (by decide) (hts (.fieldLink RX6 16 "JugglingHall$Sheet" "length" "I") (by decide +kernel)) (fun _ h9 => h9) rfl dX6_write_1 ?_
  refine lv_sipush (v := 300) hx hb dX6_write_4 (by decide) ?_
  refine a_icmp_ge (u := len_1.toInt) (v := 300) (tgt := 40) hx hb dX6_write_7 (by decide) (rfl) (by decide) (fun c_2 => ?_) (fun c_2 => ?_)
  · exact g_vret f hx hb hr hlocks hS rfl (⟨hI, hF⟩) hP hD hQ (Nat.le_of_ble_eq_true rfl) (Nat.le_of_ble_eq_true rfl) dX6_write_40
  · refine lv_aload_n hx hb dX6_write_10 rfl (lv_at hl 0 rfl) ?_
    refine t_get (D := D) (L := L) (f := f) (ci := 6) (v := .ref (g 44)) (C := RX6) (T := TX6) (N := 4) hx hb hts (by decide +kernel) hown hK.1 hP (gm_17 hG) fg_1 rfl 0 (by decide) (hts (.fieldLink RX6 9 "JugglingHall$Sheet" "heights" "[I") (by decide +kernel)) (fun _ h9 => h9) rfl dX6_write_11 ?_
    refine lv_aload_n hx hb dX6_write_14 rfl (lv_at hl 0 rfl) ?_
    refine t_get (D := D) (L := L) (f := f) (ci := 6) (v := .int len_1) (C := RX6) (T := TX6) (N := 4) hx hb hts (by decide +kernel) hown hK.1 hP (gm_17 hG) fg_1 rfl 2 (by decide) (hts (.fieldLink RX6 16 "JugglingHall$Sheet" "length" "I") (by decide +kernel)) (fun _ h9 => h9) rfl dX6_write_15 ?_
    refine lv_iload_n hx hb dX6_write_18 rfl (lv_at hl 1 rfl) ?_
    obtain ⟨c_3, fg_3⟩ := op_44 hI (gm_44 hG) (gs_44 hG)
    refine t_iast (L := L) (f := f) (h := c_3) (u := len_1.toInt) hx hb hK.1 hP hD hS (gm_44 hG) 0 fg_3 rfl dX6_write_19 (rfl) (by omega) (fun g_4 f_4 H locs eg_4 e9_4 o_4 hP hD hS => ?_)
    have fa_4 : f_4 (g 44) = .inl (cI, 300, .inl g_4) := e9_4
    have hI := IN_set (e := .inl (cI, 300, .inl g_4)) hI (gs_44 hG) (mk_44) fa_4 o_4
    have hF := FR_set hF (gs_44 hG) (show (44 : Nat) ∈ ([17, 44, 45] : List Nat) by decide) o_4
    have fb_5 : f_4 (g 17) = .inr (6, [.ref (g 44), .ref (g 45), .int len_1, .int st_1]) := f_at o_4 (S_ne (gs_17 hG) (gs_44 hG) (show (17 : Nat) ≠ 44 by decide)) fg_1
    refine lv_aload_n hx hb dX6_write_20 rfl (lv_at hl 0 rfl) ?_
    refine t_get (D := D) (L := L) (f := f_4) (ci := 6) (v := .ref (g 45)) (C := RX6) (T := TX6) (N := 4) hx hb hts (by decide +kernel) hown hK.1 hP (gm_17 hG) fb_5 rfl 1 (by decide) (hts (.fieldLink RX6 13 "JugglingHall$Sheet" "letters" "[I") (by decide +kernel)) (fun _ h9 => h9) rfl dX6_write_21 ?_
    refine lv_aload_n hx hb dX6_write_24 rfl (lv_at hl 0 rfl) ?_
    refine t_get (D := D) (L := L) (f := f_4) (ci := 6) (v := .int len_1) (C := RX6) (T := TX6) (N := 4) hx hb hts (by decide +kernel) hown hK.1 hP (gm_17 hG) fb_5 rfl 2 (by decide) (hts (.fieldLink RX6 16 "JugglingHall$Sheet" "length" "I") (by decide +kernel)) (fun _ h9 => h9) rfl dX6_write_25 ?_
    refine lv_iload_n hx hb dX6_write_28 rfl (lv_at hl 2 rfl) ?_
    obtain ⟨c_6, fg_6⟩ := op_45 hI (gm_45 hG) (gs_45 hG)
    refine t_iast (L := L) (f := f_4) (h := c_6) (u := len_1.toInt) hx hb hK.1 hP hD hS (gm_45 hG) 0 fg_6 rfl dX6_write_29 (rfl) (by omega) (fun g_7 f_7 H locs eg_7 e9_7 o_7 hP hD hS => ?_)
    have fa_7 : f_7 (g 45) = .inl (cI, 300, .inl g_7) := e9_7
    have hI := IN_set (e := .inl (cI, 300, .inl g_7)) hI (gs_45 hG) (mk_45) fa_7 o_7
    have hF := FR_set hF (gs_45 hG) (show (45 : Nat) ∈ ([17, 44, 45] : List Nat) by decide) o_7
    have fb_8 : f_7 (g 17) = .inr (6, [.ref (g 44), .ref (g 45), .int len_1, .int st_1]) := f_at o_7 (S_ne (gs_17 hG) (gs_45 hG) (show (17 : Nat) ≠ 45 by decide)) fb_5
    have fb_9 : f_7 (g 44) = .inl (cI, 300, .inl g_4) := f_at o_7 (S_ne (gs_44 hG) (gs_45 hG) (show (44 : Nat) ≠ 45 by decide)) fa_4
    refine lv_aload_n hx hb dX6_write_30 rfl (lv_at hl 0 rfl) ?_
    refine lv_dup hx hb dX6_write_31 rfl ?_
    refine t_get (D := D) (L := L) (f := f_7) (ci := 6) (v := .int len_1) (C := RX6) (T := TX6) (N := 4) hx hb hts (by decide +kernel) hown hK.1 hP (gm_17 hG) fb_8 rfl 2 (by decide) (hts (.fieldLink RX6 16 "JugglingHall$Sheet" "length" "I") (by decide +kernel)) (fun _ h9 => h9) rfl dX6_write_32 ?_
    refine lv_iconst (v := 1) hx hb dX6_write_35 (by decide) ?_
    refine a_iadd (u := len_1.toInt) (v := 1) hx hb dX6_write_36 (rfl) (by decide) (by omega) (fun z_10 e_10 => ?_)
    refine t_put (D := D) (L := L) (f := f_7) (ci := 6) (v := .int z_10) (ty := .int) (C := RX6) (T := TX6) (N := 4) hx hb hts (by decide +kernel) tyX6 tyX6_ok nmX6 hown hK.1 hP hD hS (gm_17 hG) fb_8 rfl 2 (by decide) (hts (.fieldLink RX6 16 "JugglingHall$Sheet" "length" "I") (by decide +kernel)) (fun _ h9 => h9) rfl (by decide +kernel) rfl rfl (Nat.le_of_ble_eq_true rfl) dX6_write_37 (fun f_11 H locs e9_11 o_11 hP hD hS => ?_)
    have fa_11 : f_11 (g 17) = .inr (6, [.ref (g 44), .ref (g 45), .int z_10, .int st_1]) := e9_11
    have hI := IN_set (e := .inr (6, [.ref (g 44), .ref (g 45), .int z_10, .int st_1])) hI (gs_17 hG) (mk_17 (by first | assumption | omega) (by first | assumption | omega)) fa_11 o_11
    have hF := FR_set hF (gs_17 hG) (show (17 : Nat) ∈ ([17, 44, 45] : List Nat) by decide) o_11
    have fb_12 : f_11 (g 44) = .inl (cI, 300, .inl g_4) := f_at o_11 (S_ne (gs_44 hG) (gs_17 hG) (show (44 : Nat) ≠ 17 by decide)) fb_9
    have fb_13 : f_11 (g 45) = .inl (cI, 300, .inl g_7) := f_at o_11 (S_ne (gs_45 hG) (gs_17 hG) (show (45 : Nat) ≠ 17 by decide)) fa_7
    exact g_vret f_11 hx hb hr hlocks hS rfl (⟨hI, hF⟩) hP hD hQ (Nat.le_of_ble_eq_true rfl) (Nat.le_of_ble_eq_true rfl) dX6_write_40
set_option maxRecDepth 100000 in
set_option maxHeartbeats 4000000 in
theorem t_X6_writeRow (l : Launch) (D : va_G) (cI cR cM : ClassId) (sz : Nat) {jn : Nat} {g : Nat → Nat} {L : List Nat} {S : Sg} {f : Nat → va_E} {b b_p b_n : Nat} {b_l : Int32} {b_c : Nat → Int32} {y : Int32}  (hj : 1 ≤ jn ∧ jn ≤ 3) (hG : SG g L S) (hI : IN jn cI cR cM g L S f) (m_b : b ∈ L) (s_b : S b = (0, b_p, b_n)) (f_b : f b = .inr (5, [.int (nI jn), .int (nI (2 * jn)), .ref b_p, .int b_l])) (f_b_p : f b_p = .inl (cI, b_n, .inl b_c))  : Met l yX6_writeRow wsX6_writeRow ({ frames := 1, cells := 0, slots := 0, locals := 23 }) (P0 D cI cR cM [.ref (g 17), .ref b, .int y] sz (va_pl L f)) (QG (S := Nat → va_E) (fun u => none) (fun u => va_pl L u) (fun u => IN jn cI cR cM g L S u ∧ FR S [17, 44, 45] f u) D (va_A (va_pl L f) sz)) 0 0 (va_A (va_pl L f) sz) := by
  refine go (cc := cX6_writeRow) (maxL := 4) (ret := none) (by decide +kernel) rfl (Nat.le_of_ble_eq_true rfl) ?_
  intro p e s m below meth c ls args Q hQ hsz hx hb hr hml hts hown hlocks hnm hP hK hD hl
  subst hsz
  have hD := hD.self (sz := s.heap.size)
  generalize hAe : va_A (va_pl L f) s.heap.size = A at hD hQ
  have hA : ∀ q, s.heap.size ≤ q → A q := fun q h => by rw [← hAe]; exact Or.inr h
  have hS : va_S A s.heap s.heap [] := va_S.rf
  have hF : FR S [17, 44, 45] f f := FR_rf
  have hl : lv_has ls 4 [(0, .ref (g 17)), (1, .ref b), (2, .int y)] := hl
  obtain ⟨v1_b, v2_b, v3_b, m_b_p, s_b_p⟩ := iv_0 hI m_b s_b f_b
  obtain ⟨w1_b, w2_b, w3_b, w4_b, w5_b⟩ := lenw hj v1_b v2_b v3_b
  have k_b := iv_1 hI m_b_p s_b_p f_b_p
  refine lv_iconst (v := 0) hx hb dX6_writeRow_0 (by decide) ?_
  refine lv_istore_n (lv' := [(3, .int 0), (0, .ref (g 17)), (1, .ref b), (2, .int y)]) hx hb dX6_writeRow_1 rfl hl (by decide) rfl (fun ls hl => ?_)
  have loop2 : ∀ (ddloop2 : Nat) (be : Int32) (f_1 : Nat → va_E) (H : Heap) (locs : List Loc) (ls : Array Slot), (100 - be.toInt).toNat < ddloop2 → IN jn cI cR cM g L S f_1 → FR S [17, 44, 45] f f_1 → (0 ≤ be.toInt ∧ be.toInt ≤ 72) → va_P D vwCl (va_pl L f_1) H → va_D A (va_pl L f_1) → va_S A s.heap H locs → lv_has ls 4 [(0, .ref (g 17)), (1, .ref b), (2, .int y), (3, .int be)] → W p l e ({ frames := 1, cells := 0, slots := 0, locals := 23 }) s m args below meth c H locs 0 0 Q (F0 m 2 ls []) := by
    intro ddloop2
    induction ddloop2 with
    | zero =>
      intro be f_1 H locs ls hdd
      exact absurd hdd (Nat.not_lt_zero _)
    | succ ddloop2 ih2 =>
      intro be f_1 H locs ls hdd hI hF hi hP hD hS hl
      have fb_2 : f_1 b = .inr (5, [.int (nI jn), .int (nI (2 * jn)), .ref b_p, .int b_l]) := FR_at hF s_b (show (0 : Nat) ∉ ([17, 44, 45] : List Nat) by decide) f_b
      have fb_3 : f_1 b_p = .inl (cI, b_n, .inl b_c) := FR_at hF s_b_p (show (1 : Nat) ∉ ([17, 44, 45] : List Nat) by decide) f_b_p
      refine lv_iload_n hx hb dX6_writeRow_2 rfl (lv_at hl 3 rfl) ?_
      refine lv_aload_n hx hb dX6_writeRow_3 rfl (lv_at hl 1 rfl) ?_
      refine t_getN (D := D) (L := L) (f := f_1) (ci := 5) (v := .int b_l) (C := RX5) (T := TX5) (N := 4) (host := "JugglingHall") hx hb hts (by decide +kernel) hown hK.1 hP m_b fb_2 rfl 3 (by decide) (hK.nw (.fieldLinkNest RX6 20 "JugglingHall$Row" "length" "I" "JugglingHall") (by decide +kernel) rfl) (fun _ h9 => h9) rfl dX6_writeRow_4 ?_
      refine a_icmp_ge (u := be.toInt) (v := b_l.toInt) (tgt := 32) hx hb dX6_writeRow_7 (by decide) (rfl) (rfl) (fun c_4 => ?_) (fun c_4 => ?_)
      · exact g_vret f_1 hx hb hr hlocks hS rfl (⟨hI, hF⟩) hP hD hQ (Nat.le_of_ble_eq_true rfl) (Nat.le_of_ble_eq_true rfl) dX6_writeRow_32
      · refine lv_aload_n hx hb dX6_writeRow_10 rfl (lv_at hl 0 rfl) ?_
        refine lv_aload_n hx hb dX6_writeRow_11 rfl (lv_at hl 1 rfl) ?_
        refine lv_aload_n hx hb dX6_writeRow_12 rfl (lv_at hl 1 rfl) ?_
        refine lv_iload_n hx hb dX6_writeRow_13 rfl (lv_at hl 3 rfl) ?_
        refine lv_iconst (v := 0) hx hb dX6_writeRow_14 (by decide) ?_
        refine lv_iconst (v := 0) hx hb dX6_writeRow_15 (by decide) ?_
        have hz_5 : (0 : Int32).toInt = 0 := by decide
        have hz_6 : (0 : Int32).toInt = 0 := by decide
        refine roP (va_runV (As := [.int be, .int 0, .int 0]) (rest := [.ref b, .ref (g 17)]) ⟨hx, hb, hml, hown, hts⟩ (t_X5_cellAt l D cI cR cM _  hj hG hI m_b s_b fb_2 fb_3 ) (cwV 3 hts gX6_writeRow_X5_cellAt rfl rfl rfl (by decide +kernel) ⟨Nat.le_of_ble_eq_true rfl, Nat.le_of_ble_eq_true rfl⟩) (pre_T hK hP hD m_b fb_2 rfl) rfl rfl hl.1 rfl (lv_room (Nat.le_of_ble_eq_true rfl)) dX6_writeRow_16 ⟨Nat.le_of_ble_eq_true rfl, Nat.le_of_ble_eq_true rfl⟩) hS hA hP (fun r_7 H locs hw hP hS => ?_)
        have h_7 : (r_7.toInt = -1 ∨ (0 ≤ r_7.toInt ∧ r_7.toInt < b_l.toInt * (2 * (jn : Int)))) := hw
        refine roP (va_runV (As := [.int r_7]) (rest := [.ref (g 17)]) ⟨hx, hb, hml, hown, hts⟩ (t_X5_height l D cI cR cM _  hj hG hI m_b s_b fb_2 fb_3 ) (cwV 1 hts gX6_writeRow_X5_height rfl rfl rfl (by decide +kernel) ⟨Nat.le_of_ble_eq_true rfl, Nat.le_of_ble_eq_true rfl⟩) (pre_T hK hP hD m_b fb_2 rfl) rfl rfl hl.1 rfl (lv_room (Nat.le_of_ble_eq_true rfl)) dX6_writeRow_19 ⟨Nat.le_of_ble_eq_true rfl, Nat.le_of_ble_eq_true rfl⟩) hS hA hP (fun r_8 H locs hw hP hS => ?_)
        have h_8 : (0 ≤ r_8.toInt ∧ r_8.toInt ≤ 9) := hw
        refine lv_iload_n hx hb dX6_writeRow_22 rfl (lv_at hl 2 rfl) ?_
        obtain ⟨len_9, st_9, fg_9, iv0_9, iv1_9⟩ := op_17 hI (gm_17 hG) (gs_17 hG)
        refine call_p (va_runV (As := [.int r_8, .int y]) (rest := []) ⟨hx, hb, hml, hown, hts⟩ (t_X6_write l D cI cR cM _  hj hG hI  ) (cwV 2 hts gX6_writeRow_X6_write rfl rfl rfl (by decide +kernel) ⟨Nat.le_of_ble_eq_true rfl, Nat.le_of_ble_eq_true rfl⟩) (pre_T hK hP hD (gm_17 hG) fg_9 rfl) rfl rfl hl.1 rfl (lv_room (Nat.le_of_ble_eq_true rfl)) dX6_writeRow_23 ⟨Nat.le_of_ble_eq_true rfl, Nat.le_of_ble_eq_true rfl⟩) hD hS hA (fun u_10 H locs hw hP hD hS => ?_)
        obtain ⟨f_10, e0_10⟩ : ∃ x, x = u_10 := ⟨_, rfl⟩
        subst e0_10
        obtain ⟨hI, hF_10⟩ : IN jn cI cR cM g L S f_10 ∧ FR S [17, 44, 45] f_1 f_10 := hw
        have hP : va_P D vwCl (va_pl L f_10) H := hP
        have hD : va_D A (va_pl L f_10) := hD
        have hF := FR_tr hF hF_10 (by decide)
        have fb_11 : f_10 b = .inr (5, [.int (nI jn), .int (nI (2 * jn)), .ref b_p, .int b_l]) := FR_at hF_10 s_b (show (0 : Nat) ∉ ([17, 44, 45] : List Nat) by decide) fb_2
        have fb_12 : f_10 b_p = .inl (cI, b_n, .inl b_c) := FR_at hF_10 s_b_p (show (1 : Nat) ∉ ([17, 44, 45] : List Nat) by decide) fb_3
        obtain ⟨z_13, q_13, e_13⟩ := i_inc (a := be.toInt) (1) (rfl) (by decide) (by omega) (by omega)
        refine lv_iinc (v := z_13) (lv' := [(3, .int z_13), (0, .ref (g 17)), (1, .ref b), (2, .int y)]) hx hb dX6_writeRow_26 hl (k := 3) rfl q_13 (by decide) rfl (fun ls hl => ?_)
        refine lv_goto (tgt := 2) hx hb dX6_writeRow_29 (by decide) ?_
        exact ih2 z_13 f_10 _ _ _ (by omega) hI hF (by first | assumption | omega) hP hD hS (lv_sub hl [1, 2, 3, 0] rfl)
  have hz_14 : (0 : Int32).toInt = 0 := by decide
  exact loop2 ((100 - (0 : Int32).toInt).toNat + 1) (0 : Int32) f _ _ _ (by omega) hI hF (by first | assumption | omega) hP hD hS (lv_sub hl [1, 2, 3, 0] rfl)
set_option maxRecDepth 100000 in
set_option maxHeartbeats 4000000 in
theorem t_X9_stateOf (l : Launch) (D : va_G) (cI cR cM : ClassId) (sz : Nat) {jn : Nat} {g : Nat → Nat} {L : List Nat} {S : Sg} {f : Nat → va_E} {b b_p b_n : Nat} {b_l : Int32} {b_c : Nat → Int32} {x : Int32}  (hj : 1 ≤ jn ∧ jn ≤ 3) (hG : SG g L S) (hI : IN jn cI cR cM g L S f) (m_b : b ∈ L) (s_b : S b = (0, b_p, b_n)) (f_b : f b = .inr (5, [.int (nI jn), .int (nI (2 * jn)), .ref b_p, .int b_l])) (f_b_p : f b_p = .inl (cI, b_n, .inl b_c)) (hx0 : -1000 ≤ x.toInt ∧ x.toInt ≤ 1000) : Met l yX9_stateOf wsX9_stateOf ({ frames := 2, cells := 0, slots := 0, locals := 43 }) (P0 D cI cR cM [.ref b, .int x] sz (va_pl L f)) (QP (fun r => True) sz) 0 0 (va_A [] sz) := by
  refine go (cc := cX9_stateOf) (maxL := 5) (ret := (some .int)) (by decide +kernel) rfl (Nat.le_of_ble_eq_true rfl) ?_
  intro p e s m below meth c ls args Q hQ hsz hx hb hr hml hts hown hlocks hnm hP hK hD hl
  subst hsz
  have hS : va_S (va_A [] s.heap.size) s.heap s.heap [] := va_S.rf
  have hA : ∀ q, s.heap.size ≤ q → va_A [] s.heap.size q := fun q h => Or.inr h
  have hl : lv_has ls 5 [(0, .ref b), (1, .int x)] := hl
  obtain ⟨v1_b, v2_b, v3_b, m_b_p, s_b_p⟩ := iv_0 hI m_b s_b f_b
  obtain ⟨w1_b, w2_b, w3_b, w4_b, w5_b⟩ := lenw hj v1_b v2_b v3_b
  have k_b := iv_1 hI m_b_p s_b_p f_b_p
  refine lv_iconst (v := 0) hx hb dX9_stateOf_0 (by decide) ?_
  refine lv_istore_n (lv' := [(2, .int 0), (0, .ref b), (1, .int x)]) hx hb dX9_stateOf_1 rfl hl (by decide) rfl (fun ls hl => ?_)
  refine lv_iconst (v := 1) hx hb dX9_stateOf_2 (by decide) ?_
  refine lv_istore_n (lv' := [(3, .int 1), (2, .int 0), (0, .ref b), (1, .int x)]) hx hb dX9_stateOf_3 rfl hl (by decide) rfl (fun ls hl => ?_)
  have loop4 : ∀ (ddloop4 : Nat) (se : Int32) (ag : Int32) (H : Heap) (locs : List Loc) (ls : Array Slot), (20 - ag.toInt).toNat < ddloop4 → (1 ≤ ag.toInt ∧ ag.toInt ≤ 10) → va_P D vwCl (va_pl L f) H → va_S (va_A [] s.heap.size) s.heap H locs → lv_has ls 5 [(0, .ref b), (1, .int x), (2, .int se), (3, .int ag)] → W p l e ({ frames := 2, cells := 0, slots := 0, locals := 43 }) s m args below meth c H locs 0 0 Q (F0 m 4 ls []) := by
    intro ddloop4
    induction ddloop4 with
    | zero =>
      intro se ag H locs ls hdd
      exact absurd hdd (Nat.not_lt_zero _)
    | succ ddloop4 ih4 =>
      intro se ag H locs ls hdd hi hP hS hl
      refine lv_iload_n hx hb dX9_stateOf_4 rfl (lv_at hl 3 rfl) ?_
      refine lv_bipush (v := 9) hx hb dX9_stateOf_5 (by decide) ?_
      refine a_icmp_gt (u := ag.toInt) (v := 9) (tgt := 50) hx hb dX9_stateOf_7 (by decide) (rfl) (by decide) (fun c_2 => ?_) (fun c_2 => ?_)
      · refine lv_iload_n hx hb dX9_stateOf_50 rfl (lv_at hl 2 rfl) ?_
        exact rp_iret hx hb hr hlocks hS (trivial) hQ dX9_stateOf_51
      · refine lv_aload_n hx hb dX9_stateOf_10 rfl (lv_at hl 0 rfl) ?_
        refine lv_aload_n hx hb dX9_stateOf_11 rfl (lv_at hl 0 rfl) ?_
        refine lv_aload_n hx hb dX9_stateOf_12 rfl (lv_at hl 0 rfl) ?_
        refine lv_iload_n hx hb dX9_stateOf_13 rfl (lv_at hl 1 rfl) ?_
        refine lv_iload_n hx hb dX9_stateOf_14 rfl (lv_at hl 3 rfl) ?_
        refine a_isub (u := x.toInt) (v := ag.toInt) hx hb dX9_stateOf_15 (rfl) (rfl) (by omega) (fun z_3 e_3 => ?_)
        refine roP (va_runV (As := [.int z_3]) (rest := [.ref b, .ref b]) ⟨hx, hb, hml, hown, hts⟩ (t_X5_beatInRound l D cI cR cM _  hj hG hI m_b s_b f_b f_b_p ) (cwV 1 hts gX9_stateOf_X5_beatInRound rfl rfl rfl (by decide +kernel) ⟨Nat.le_of_ble_eq_true rfl, Nat.le_of_ble_eq_true rfl⟩) (pre_T hK hP hD m_b f_b rfl) rfl rfl hl.1 rfl (lv_room (Nat.le_of_ble_eq_true rfl)) dX9_stateOf_16 ⟨Nat.le_of_ble_eq_true rfl, Nat.le_of_ble_eq_true rfl⟩) hS hA hP (fun r_4 H locs hw hP hS => ?_)
        have h_4 : (0 ≤ r_4.toInt ∧ (r_4.toInt < b_l.toInt ∨ r_4.toInt = 0)) := hw
        refine lv_iconst (v := 0) hx hb dX9_stateOf_19 (by decide) ?_
        refine lv_iconst (v := 0) hx hb dX9_stateOf_20 (by decide) ?_
        have hz_5 : (0 : Int32).toInt = 0 := by decide
        have hz_6 : (0 : Int32).toInt = 0 := by decide
        refine roP (va_runV (As := [.int r_4, .int 0, .int 0]) (rest := [.ref b]) ⟨hx, hb, hml, hown, hts⟩ (t_X5_cellAt l D cI cR cM _  hj hG hI m_b s_b f_b f_b_p ) (cwV 3 hts gX9_stateOf_X5_cellAt rfl rfl rfl (by decide +kernel) ⟨Nat.le_of_ble_eq_true rfl, Nat.le_of_ble_eq_true rfl⟩) (pre_T hK hP hD m_b f_b rfl) rfl rfl hl.1 rfl (lv_room (Nat.le_of_ble_eq_true rfl)) dX9_stateOf_21 ⟨Nat.le_of_ble_eq_true rfl, Nat.le_of_ble_eq_true rfl⟩) hS hA hP (fun r_7 H locs hw hP hS => ?_)
        have h_7 : (r_7.toInt = -1 ∨ (0 ≤ r_7.toInt ∧ r_7.toInt < b_l.toInt * (2 * (jn : Int)))) := hw
        refine roP (va_runV (As := [.int r_7]) (rest := []) ⟨hx, hb, hml, hown, hts⟩ (t_X5_height l D cI cR cM _  hj hG hI m_b s_b f_b f_b_p ) (cwV 1 hts gX9_stateOf_X5_height rfl rfl rfl (by decide +kernel) ⟨Nat.le_of_ble_eq_true rfl, Nat.le_of_ble_eq_true rfl⟩) (pre_T hK hP hD m_b f_b rfl) rfl rfl hl.1 rfl (lv_room (Nat.le_of_ble_eq_true rfl)) dX9_stateOf_24 ⟨Nat.le_of_ble_eq_true rfl, Nat.le_of_ble_eq_true rfl⟩) hS hA hP (fun r_8 H locs hw hP hS => ?_)
        have h_8 : (0 ≤ r_8.toInt ∧ r_8.toInt ≤ 9) := hw
        refine lv_istore (lv' := [(4, .int r_8), (0, .ref b), (1, .int x), (2, .int se), (3, .int ag)]) hx hb dX9_stateOf_27 hl (by decide) rfl (fun ls hl => ?_)
        refine lv_iload hx hb dX9_stateOf_29 (lv_at hl 0 rfl) ?_
        refine lv_iload_n hx hb dX9_stateOf_31 rfl (lv_at hl 4 rfl) ?_
        refine a_icmp_lt (u := r_8.toInt) (v := ag.toInt) (tgt := 44) hx hb dX9_stateOf_32 (by decide) (rfl) (rfl) (fun c_9 => ?_) (fun c_9 => ?_)
        · obtain ⟨z_10, q_10, e_10⟩ := i_inc (a := ag.toInt) (1) (rfl) (by decide) (by omega) (by omega)
          refine lv_iinc (v := z_10) (lv' := [(3, .int z_10), (4, .int r_8), (0, .ref b), (1, .int x), (2, .int se)]) hx hb dX9_stateOf_44 hl (k := 4) rfl q_10 (by decide) rfl (fun ls hl => ?_)
          refine lv_goto (tgt := 4) hx hb dX9_stateOf_47 (by decide) ?_
          exact ih4 se z_10 _ _ _ (by omega) (by first | assumption | omega) hP hS (lv_sub hl [2, 3, 4, 0] rfl)
        · refine lv_iload_n hx hb dX9_stateOf_35 rfl (lv_at hl 3 rfl) ?_
          refine lv_iconst (v := 1) hx hb dX9_stateOf_36 (by decide) ?_
          refine lv_iload hx hb dX9_stateOf_37 (lv_at hl 0 rfl) ?_
          refine lv_iload_n hx hb dX9_stateOf_39 rfl (lv_at hl 4 rfl) ?_
          refine a_isub (u := r_8.toInt) (v := ag.toInt) hx hb dX9_stateOf_40 (rfl) (rfl) (by omega) (fun z_11 e_11 => ?_)
          refine lv_ishl hx hb dX9_stateOf_41 ?_
          refine lv_topi (fun z_12 q_12 => ?_)
          refine lv_ior hx hb dX9_stateOf_42 ?_
          refine lv_topi (fun z_13 q_13 => ?_)
          refine lv_istore_n (lv' := [(2, .int z_13), (4, .int r_8), (0, .ref b), (1, .int x), (3, .int ag)]) hx hb dX9_stateOf_43 rfl hl (by decide) rfl (fun ls hl => ?_)
          obtain ⟨z_14, q_14, e_14⟩ := i_inc (a := ag.toInt) (1) (rfl) (by decide) (by omega) (by omega)
          refine lv_iinc (v := z_14) (lv' := [(3, .int z_14), (2, .int z_13), (4, .int r_8), (0, .ref b), (1, .int x)]) hx hb dX9_stateOf_44 hl (k := 4) rfl q_14 (by decide) rfl (fun ls hl => ?_)
          refine lv_goto (tgt := 4) hx hb dX9_stateOf_47 (by decide) ?_
          exact ih4 z_13 z_14 _ _ _ (by omega) (by first | assumption | omega) hP hS (lv_sub hl [3, 4, 1, 0] rfl)
  have hz_15 : (0 : Int32).toInt = 0 := by decide
  have hz_16 : (1 : Int32).toInt = 1 := by decide
  exact loop4 ((20 - (1 : Int32).toInt).toNat + 1) (0 : Int32) (1 : Int32) _ _ _ (by omega) (by first | assumption | omega) hP hS (lv_sub hl [2, 3, 1, 0] rfl)
