/-- a token that is a digit has a value of 0 .. 9 -/
def TK (g : Nat → Nat) (cI : ClassId) (f : Nat → va_E) : Prop := ∀ (cnt nx kd vl st ls : Int32) (ck cv : Nat → Int32), f (g 14) = .inr (8, [.ref (g 11), .ref (g 31), .ref (g 32), .ref (g 33), .int cnt, .int nx, .int kd, .int vl, .int st, .int ls]) → f (g 31) = .inl (cI, 301, .inl ck) → f (g 32) = .inl (cI, 301, .inl cv) → (kd.toInt = 2 → 0 ≤ vl.toInt ∧ vl.toInt ≤ 9) ∧ ∀ i : Int, 0 ≤ i → i < cnt.toInt → (ck i.toNat).toInt = 2 → 0 ≤ (cv i.toNat).toInt ∧ (cv i.toNat).toInt ≤ 9
theorem TK_eq {g : Nat → Nat} {cI : ClassId} {f f1 : Nat → va_E} (h : TK g cI f) (h14 : f1 (g 14) = f (g 14)) (h31 : f1 (g 31) = f (g 31)) (h32 : f1 (g 32) = f (g 32)) : TK g cI f1 := by
  intro a1 a2 a3 a4 a5 a6 b1 b2 q1 q2 q3
  rw [h14] at q1
  rw [h31] at q2
  rw [h32] at q3
  exact h a1 a2 a3 a4 a5 a6 b1 b2 q1 q2 q3
theorem TK_set {g : Nat → Nat} {cI : ClassId} {L : List Nat} {S : Sg} {f f1 : Nat → va_E} {a : Nat} {q : Nat × Nat × Nat} (h : TK g cI f) (hG : SG g L S) (hs : S a = q) (ht : q.1 ∉ ([14, 31, 32] : List Nat)) (o1 : ∀ b, b ≠ a → f1 b = f b) : TK g cI f1 := by
  have k : ∀ k, k ∈ ([14, 31, 32] : List Nat) → S (g k) = (k, 0, 0) → g k ≠ a := fun k hk hk2 e => ht (by rw [← hs, ← e, hk2]; exact hk)
  exact TK_eq h (o1 _ (k 14 (by decide) (gs_14 hG))) (o1 _ (k 31 (by decide) (gs_31 hG))) (o1 _ (k 32 (by decide) (gs_32 hG)))
theorem TK_fr {g : Nat → Nat} {cI : ClassId} {L : List Nat} {S : Sg} {f f1 : Nat → va_E} {T : List Nat} (h : TK g cI f) (hG : SG g L S) (hF : FR S T f f1) (ht : ∀ t ∈ ([14, 31, 32] : List Nat), t ∉ T) : TK g cI f1 :=
  TK_eq h (hF _ (by rw [gs_14 hG]; exact ht 14 (by decide))) (hF _ (by rw [gs_31 hG]; exact ht 31 (by decide))) (hF _ (by rw [gs_32 hG]; exact ht 32 (by decide)))
theorem dX4_fail_0 : decode cX4_fail 0 = .ok (.aload_n 0, 1) := by decide +kernel
theorem dX4_fail_1 : decode cX4_fail 1 = .ok (.iload_n 1, 1) := by decide +kernel
theorem dX4_fail_2 : decode cX4_fail 2 = .ok (.putfield 31, 3) := by decide +kernel
theorem dX4_fail_5 : decode cX4_fail 5 = .ok (.aload_n 0, 1) := by decide +kernel
theorem dX4_fail_6 : decode cX4_fail 6 = .ok (.aload_n 0, 1) := by decide +kernel
theorem dX4_fail_7 : decode cX4_fail 7 = .ok (.getfield 41, 3) := by decide +kernel
theorem dX4_fail_10 : decode cX4_fail 10 = .ok (.getfield 104, 3) := by decide +kernel
theorem dX4_fail_13 : decode cX4_fail 13 = .ok (.putfield 35, 3) := by decide +kernel
theorem dX4_fail_16 : decode cX4_fail 16 = .ok (.iconst 0, 1) := by decide +kernel
theorem dX4_fail_17 : decode cX4_fail 17 = .ok (.ireturn, 1) := by decide +kernel
theorem dX4_failBehind_0 : decode cX4_failBehind 0 = .ok (.aload_n 0, 1) := by decide +kernel
theorem dX4_failBehind_1 : decode cX4_failBehind 1 = .ok (.iload_n 1, 1) := by decide +kernel
theorem dX4_failBehind_2 : decode cX4_failBehind 2 = .ok (.putfield 31, 3) := by decide +kernel
theorem dX4_failBehind_5 : decode cX4_failBehind 5 = .ok (.aload_n 0, 1) := by decide +kernel
theorem dX4_failBehind_6 : decode cX4_failBehind 6 = .ok (.aload_n 0, 1) := by decide +kernel
theorem dX4_failBehind_7 : decode cX4_failBehind 7 = .ok (.getfield 41, 3) := by decide +kernel
theorem dX4_failBehind_10 : decode cX4_failBehind 10 = .ok (.getfield 107, 3) := by decide +kernel
theorem dX4_failBehind_13 : decode cX4_failBehind 13 = .ok (.putfield 35, 3) := by decide +kernel
theorem dX4_failBehind_16 : decode cX4_failBehind 16 = .ok (.iconst 0, 1) := by decide +kernel
theorem dX4_failBehind_17 : decode cX4_failBehind 17 = .ok (.ireturn, 1) := by decide +kernel
theorem dX4_expect_0 : decode cX4_expect 0 = .ok (.aload_n 0, 1) := by decide +kernel
theorem dX4_expect_1 : decode cX4_expect 1 = .ok (.getfield 41, 3) := by decide +kernel
theorem dX4_expect_4 : decode cX4_expect 4 = .ok (.getfield 70, 3) := by decide +kernel
theorem dX4_expect_7 : decode cX4_expect 7 = .ok (.iload_n 1, 1) := by decide +kernel
theorem dX4_expect_8 : decode cX4_expect 8 = .ok (.if_icmp .eq 9, 3) := by decide +kernel
theorem dX4_expect_11 : decode cX4_expect 11 = .ok (.aload_n 0, 1) := by decide +kernel
theorem dX4_expect_12 : decode cX4_expect 12 = .ok (.iconst 1, 1) := by decide +kernel
theorem dX4_expect_13 : decode cX4_expect 13 = .ok (.invokevirtual 80, 3) := by decide +kernel
theorem dX4_expect_16 : decode cX4_expect 16 = .ok (.ireturn, 1) := by decide +kernel
theorem dX4_expect_17 : decode cX4_expect 17 = .ok (.aload_n 0, 1) := by decide +kernel
theorem dX4_expect_18 : decode cX4_expect 18 = .ok (.getfield 41, 3) := by decide +kernel
theorem dX4_expect_21 : decode cX4_expect 21 = .ok (.invokevirtual 110, 3) := by decide +kernel
theorem dX4_expect_24 : decode cX4_expect 24 = .ok (.iconst 1, 1) := by decide +kernel
theorem dX4_expect_25 : decode cX4_expect 25 = .ok (.ireturn, 1) := by decide +kernel
theorem dX4_readMarks_0 : decode cX4_readMarks 0 = .ok (.aload_n 0, 1) := by decide +kernel
theorem dX4_readMarks_1 : decode cX4_readMarks 1 = .ok (.getfield 41, 3) := by decide +kernel
theorem dX4_readMarks_4 : decode cX4_readMarks 4 = .ok (.invokevirtual 110, 3) := by decide +kernel
theorem dX4_readMarks_7 : decode cX4_readMarks 7 = .ok (.aload_n 0, 1) := by decide +kernel
theorem dX4_readMarks_8 : decode cX4_readMarks 8 = .ok (.getfield 27, 3) := by decide +kernel
theorem dX4_readMarks_11 : decode cX4_readMarks 11 = .ok (.iconst 0, 1) := by decide +kernel
theorem dX4_readMarks_12 : decode cX4_readMarks 12 = .ok (.putfield 59, 3) := by decide +kernel
theorem dX4_readMarks_15 : decode cX4_readMarks 15 = .ok (.iconst 0, 1) := by decide +kernel
theorem dX4_readMarks_16 : decode cX4_readMarks 16 = .ok (.istore_n 1, 1) := by decide +kernel
theorem dX4_readMarks_17 : decode cX4_readMarks 17 = .ok (.iload_n 1, 1) := by decide +kernel
theorem dX4_readMarks_18 : decode cX4_readMarks 18 = .ok (.bipush 7, 2) := by decide +kernel
theorem dX4_readMarks_20 : decode cX4_readMarks 20 = .ok (.if_icmp .gt 77, 3) := by decide +kernel
theorem dX4_readMarks_23 : decode cX4_readMarks 23 = .ok (.aload_n 0, 1) := by decide +kernel
theorem dX4_readMarks_24 : decode cX4_readMarks 24 = .ok (.getfield 41, 3) := by decide +kernel
theorem dX4_readMarks_27 : decode cX4_readMarks 27 = .ok (.getfield 70, 3) := by decide +kernel
theorem dX4_readMarks_30 : decode cX4_readMarks 30 = .ok (.iconst 2, 1) := by decide +kernel
theorem dX4_readMarks_31 : decode cX4_readMarks 31 = .ok (.if_icmp .eq 15, 3) := by decide +kernel
theorem dX4_readMarks_34 : decode cX4_readMarks 34 = .ok (.aload_n 0, 1) := by decide +kernel
theorem dX4_readMarks_35 : decode cX4_readMarks 35 = .ok (.getfield 41, 3) := by decide +kernel
theorem dX4_readMarks_38 : decode cX4_readMarks 38 = .ok (.getfield 70, 3) := by decide +kernel
theorem dX4_readMarks_41 : decode cX4_readMarks 41 = .ok (.bipush 63, 2) := by decide +kernel
theorem dX4_readMarks_43 : decode cX4_readMarks 43 = .ok (.if_icmp .ne 54, 3) := by decide +kernel
theorem dX4_readMarks_46 : decode cX4_readMarks 46 = .ok (.aload_n 0, 1) := by decide +kernel
theorem dX4_readMarks_47 : decode cX4_readMarks 47 = .ok (.getfield 27, 3) := by decide +kernel
theorem dX4_readMarks_50 : decode cX4_readMarks 50 = .ok (.aload_n 0, 1) := by decide +kernel
theorem dX4_readMarks_51 : decode cX4_readMarks 51 = .ok (.getfield 41, 3) := by decide +kernel
theorem dX4_readMarks_54 : decode cX4_readMarks 54 = .ok (.getfield 70, 3) := by decide +kernel
theorem dX4_readMarks_57 : decode cX4_readMarks 57 = .ok (.iconst 2, 1) := by decide +kernel
theorem dX4_readMarks_58 : decode cX4_readMarks 58 = .ok (.if_icmp .ne 13, 3) := by decide +kernel
theorem dX4_readMarks_61 : decode cX4_readMarks 61 = .ok (.aload_n 0, 1) := by decide +kernel
theorem dX4_readMarks_62 : decode cX4_readMarks 62 = .ok (.getfield 41, 3) := by decide +kernel
theorem dX4_readMarks_65 : decode cX4_readMarks 65 = .ok (.getfield 113, 3) := by decide +kernel
theorem dX4_readMarks_68 : decode cX4_readMarks 68 = .ok (.goto 4, 3) := by decide +kernel
theorem dX4_readMarks_71 : decode cX4_readMarks 71 = .ok (.iconst (-1), 1) := by decide +kernel
theorem dX4_readMarks_72 : decode cX4_readMarks 72 = .ok (.invokevirtual 126, 3) := by decide +kernel
theorem dX4_readMarks_75 : decode cX4_readMarks 75 = .ok (.ifCond .ne 9, 3) := by decide +kernel
theorem dX4_readMarks_78 : decode cX4_readMarks 78 = .ok (.aload_n 0, 1) := by decide +kernel
theorem dX4_readMarks_79 : decode cX4_readMarks 79 = .ok (.iconst 4, 1) := by decide +kernel
theorem dX4_readMarks_80 : decode cX4_readMarks 80 = .ok (.invokevirtual 80, 3) := by decide +kernel
theorem dX4_readMarks_83 : decode cX4_readMarks 83 = .ok (.ireturn, 1) := by decide +kernel
theorem dX4_readMarks_84 : decode cX4_readMarks 84 = .ok (.aload_n 0, 1) := by decide +kernel
theorem dX4_readMarks_85 : decode cX4_readMarks 85 = .ok (.getfield 41, 3) := by decide +kernel
theorem dX4_readMarks_88 : decode cX4_readMarks 88 = .ok (.invokevirtual 110, 3) := by decide +kernel
theorem dX4_readMarks_91 : decode cX4_readMarks 91 = .ok (.iinc 1 1, 3) := by decide +kernel
theorem dX4_readMarks_94 : decode cX4_readMarks 94 = .ok (.goto (-77), 3) := by decide +kernel
theorem dX4_readMarks_97 : decode cX4_readMarks 97 = .ok (.aload_n 0, 1) := by decide +kernel
theorem dX4_readMarks_98 : decode cX4_readMarks 98 = .ok (.getfield 27, 3) := by decide +kernel
theorem dX4_readMarks_101 : decode cX4_readMarks 101 = .ok (.getfield 59, 3) := by decide +kernel
theorem dX4_readMarks_104 : decode cX4_readMarks 104 = .ok (.ifCond .le 12, 3) := by decide +kernel
theorem dX4_readMarks_107 : decode cX4_readMarks 107 = .ok (.aload_n 0, 1) := by decide +kernel
theorem dX4_readMarks_108 : decode cX4_readMarks 108 = .ok (.bipush 59, 2) := by decide +kernel
theorem dX4_readMarks_110 : decode cX4_readMarks 110 = .ok (.invokevirtual 116, 3) := by decide +kernel
theorem dX4_readMarks_113 : decode cX4_readMarks 113 = .ok (.goto 8, 3) := by decide +kernel
theorem dX4_readMarks_116 : decode cX4_readMarks 116 = .ok (.aload_n 0, 1) := by decide +kernel
theorem dX4_readMarks_117 : decode cX4_readMarks 117 = .ok (.iconst 1, 1) := by decide +kernel
theorem dX4_readMarks_118 : decode cX4_readMarks 118 = .ok (.invokevirtual 80, 3) := by decide +kernel
theorem dX4_readMarks_121 : decode cX4_readMarks 121 = .ok (.ireturn, 1) := by decide +kernel
theorem dX4_beginsOne_0 : decode cX4_beginsOne 0 = .ok (.aload_n 0, 1) := by decide +kernel
theorem dX4_beginsOne_1 : decode cX4_beginsOne 1 = .ok (.getfield 41, 3) := by decide +kernel
theorem dX4_beginsOne_4 : decode cX4_beginsOne 4 = .ok (.getfield 70, 3) := by decide +kernel
theorem dX4_beginsOne_7 : decode cX4_beginsOne 7 = .ok (.lookupswitch 111 #[(2, 83), (3, 81), (6, 81), (7, 81), (8, 81), (9, 81), (40, 81), (60, 97), (91, 83)], 81) := by decide +kernel
theorem dX4_beginsOne_88 : decode cX4_beginsOne 88 = .ok (.iconst 1, 1) := by decide +kernel
theorem dX4_beginsOne_89 : decode cX4_beginsOne 89 = .ok (.ireturn, 1) := by decide +kernel
theorem dX4_beginsOne_90 : decode cX4_beginsOne 90 = .ok (.aload_n 0, 1) := by decide +kernel
theorem dX4_beginsOne_91 : decode cX4_beginsOne 91 = .ok (.getfield 38, 3) := by decide +kernel
theorem dX4_beginsOne_94 : decode cX4_beginsOne 94 = .ok (.iconst 1, 1) := by decide +kernel
theorem dX4_beginsOne_95 : decode cX4_beginsOne 95 = .ok (.if_icmp .ne 7, 3) := by decide +kernel
theorem dX4_beginsOne_98 : decode cX4_beginsOne 98 = .ok (.iconst 1, 1) := by decide +kernel
theorem dX4_beginsOne_99 : decode cX4_beginsOne 99 = .ok (.goto 4, 3) := by decide +kernel
theorem dX4_beginsOne_102 : decode cX4_beginsOne 102 = .ok (.iconst 0, 1) := by decide +kernel
theorem dX4_beginsOne_103 : decode cX4_beginsOne 103 = .ok (.ireturn, 1) := by decide +kernel
theorem dX4_beginsOne_104 : decode cX4_beginsOne 104 = .ok (.aload_n 0, 1) := by decide +kernel
theorem dX4_beginsOne_105 : decode cX4_beginsOne 105 = .ok (.getfield 38, 3) := by decide +kernel
theorem dX4_beginsOne_108 : decode cX4_beginsOne 108 = .ok (.iconst 1, 1) := by decide +kernel
theorem dX4_beginsOne_109 : decode cX4_beginsOne 109 = .ok (.if_icmp .le 7, 3) := by decide +kernel
theorem dX4_beginsOne_112 : decode cX4_beginsOne 112 = .ok (.iconst 1, 1) := by decide +kernel
theorem dX4_beginsOne_113 : decode cX4_beginsOne 113 = .ok (.goto 4, 3) := by decide +kernel
theorem dX4_beginsOne_116 : decode cX4_beginsOne 116 = .ok (.iconst 0, 1) := by decide +kernel
theorem dX4_beginsOne_117 : decode cX4_beginsOne 117 = .ok (.ireturn, 1) := by decide +kernel
theorem dX4_beginsOne_118 : decode cX4_beginsOne 118 = .ok (.iconst 0, 1) := by decide +kernel
theorem dX4_beginsOne_119 : decode cX4_beginsOne 119 = .ok (.ireturn, 1) := by decide +kernel
theorem dX4_readTimes_0 : decode cX4_readTimes 0 = .ok (.aload_n 0, 1) := by decide +kernel
theorem dX4_readTimes_1 : decode cX4_readTimes 1 = .ok (.getfield 41, 3) := by decide +kernel
theorem dX4_readTimes_4 : decode cX4_readTimes 4 = .ok (.getfield 70, 3) := by decide +kernel
theorem dX4_readTimes_7 : decode cX4_readTimes 7 = .ok (.bipush 42, 2) := by decide +kernel
theorem dX4_readTimes_9 : decode cX4_readTimes 9 = .ok (.if_icmp .eq 5, 3) := by decide +kernel
theorem dX4_readTimes_12 : decode cX4_readTimes 12 = .ok (.iconst 1, 1) := by decide +kernel
theorem dX4_readTimes_13 : decode cX4_readTimes 13 = .ok (.ireturn, 1) := by decide +kernel
theorem dX4_readTimes_14 : decode cX4_readTimes 14 = .ok (.aload_n 0, 1) := by decide +kernel
theorem dX4_readTimes_15 : decode cX4_readTimes 15 = .ok (.getfield 41, 3) := by decide +kernel
theorem dX4_readTimes_18 : decode cX4_readTimes 18 = .ok (.invokevirtual 110, 3) := by decide +kernel
theorem dX4_readTimes_21 : decode cX4_readTimes 21 = .ok (.aload_n 0, 1) := by decide +kernel
theorem dX4_readTimes_22 : decode cX4_readTimes 22 = .ok (.getfield 41, 3) := by decide +kernel
theorem dX4_readTimes_25 : decode cX4_readTimes 25 = .ok (.getfield 70, 3) := by decide +kernel
theorem dX4_readTimes_28 : decode cX4_readTimes 28 = .ok (.iconst 2, 1) := by decide +kernel
theorem dX4_readTimes_29 : decode cX4_readTimes 29 = .ok (.if_icmp .eq 9, 3) := by decide +kernel
theorem dX4_readTimes_32 : decode cX4_readTimes 32 = .ok (.aload_n 0, 1) := by decide +kernel
theorem dX4_readTimes_33 : decode cX4_readTimes 33 = .ok (.iconst 1, 1) := by decide +kernel
theorem dX4_readTimes_34 : decode cX4_readTimes 34 = .ok (.invokevirtual 80, 3) := by decide +kernel
theorem dX4_readTimes_37 : decode cX4_readTimes 37 = .ok (.ireturn, 1) := by decide +kernel
theorem dX4_readTimes_38 : decode cX4_readTimes 38 = .ok (.aload_n 0, 1) := by decide +kernel
theorem dX4_readTimes_39 : decode cX4_readTimes 39 = .ok (.getfield 41, 3) := by decide +kernel
theorem dX4_readTimes_42 : decode cX4_readTimes 42 = .ok (.getfield 113, 3) := by decide +kernel
theorem dX4_readTimes_45 : decode cX4_readTimes 45 = .ok (.ifCond .ne 9, 3) := by decide +kernel
theorem dX4_readTimes_48 : decode cX4_readTimes 48 = .ok (.aload_n 0, 1) := by decide +kernel
theorem dX4_readTimes_49 : decode cX4_readTimes 49 = .ok (.iconst 2, 1) := by decide +kernel
theorem dX4_readTimes_50 : decode cX4_readTimes 50 = .ok (.invokevirtual 80, 3) := by decide +kernel
theorem dX4_readTimes_53 : decode cX4_readTimes 53 = .ok (.ireturn, 1) := by decide +kernel
theorem dX4_readTimes_54 : decode cX4_readTimes 54 = .ok (.aload_n 1, 1) := by decide +kernel
theorem dX4_readTimes_55 : decode cX4_readTimes 55 = .ok (.getfield 62, 3) := by decide +kernel
theorem dX4_readTimes_58 : decode cX4_readTimes 58 = .ok (.istore_n 3, 1) := by decide +kernel
theorem dX4_readTimes_59 : decode cX4_readTimes 59 = .ok (.iconst 1, 1) := by decide +kernel
theorem dX4_readTimes_60 : decode cX4_readTimes 60 = .ok (.istore 4, 2) := by decide +kernel
theorem dX4_readTimes_62 : decode cX4_readTimes 62 = .ok (.iload 4, 2) := by decide +kernel
theorem dX4_readTimes_64 : decode cX4_readTimes 64 = .ok (.aload_n 0, 1) := by decide +kernel
theorem dX4_readTimes_65 : decode cX4_readTimes 65 = .ok (.getfield 41, 3) := by decide +kernel
theorem dX4_readTimes_68 : decode cX4_readTimes 68 = .ok (.getfield 113, 3) := by decide +kernel
theorem dX4_readTimes_71 : decode cX4_readTimes 71 = .ok (.if_icmp .ge 25, 3) := by decide +kernel
theorem dX4_readTimes_74 : decode cX4_readTimes 74 = .ok (.aload_n 1, 1) := by decide +kernel
theorem dX4_readTimes_75 : decode cX4_readTimes 75 = .ok (.aload_n 1, 1) := by decide +kernel
theorem dX4_readTimes_76 : decode cX4_readTimes 76 = .ok (.iload_n 2, 1) := by decide +kernel
theorem dX4_readTimes_77 : decode cX4_readTimes 77 = .ok (.iload_n 3, 1) := by decide +kernel
theorem dX4_readTimes_78 : decode cX4_readTimes 78 = .ok (.invokevirtual 152, 3) := by decide +kernel
theorem dX4_readTimes_81 : decode cX4_readTimes 81 = .ok (.ifCond .ne 9, 3) := by decide +kernel
theorem dX4_readTimes_84 : decode cX4_readTimes 84 = .ok (.aload_n 0, 1) := by decide +kernel
theorem dX4_readTimes_85 : decode cX4_readTimes 85 = .ok (.iconst 4, 1) := by decide +kernel
theorem dX4_readTimes_86 : decode cX4_readTimes 86 = .ok (.invokevirtual 80, 3) := by decide +kernel
theorem dX4_readTimes_89 : decode cX4_readTimes 89 = .ok (.ireturn, 1) := by decide +kernel
theorem dX4_readTimes_90 : decode cX4_readTimes 90 = .ok (.iinc 4 1, 3) := by decide +kernel
theorem dX4_readTimes_93 : decode cX4_readTimes 93 = .ok (.goto (-31), 3) := by decide +kernel
theorem dX4_readTimes_96 : decode cX4_readTimes 96 = .ok (.aload_n 0, 1) := by decide +kernel
theorem dX4_readTimes_97 : decode cX4_readTimes 97 = .ok (.getfield 41, 3) := by decide +kernel
theorem dX4_readTimes_100 : decode cX4_readTimes 100 = .ok (.invokevirtual 110, 3) := by decide +kernel
theorem dX4_readTimes_103 : decode cX4_readTimes 103 = .ok (.iconst 1, 1) := by decide +kernel
theorem dX4_readTimes_104 : decode cX4_readTimes 104 = .ok (.ireturn, 1) := by decide +kernel
theorem dX4_readLetter_0 : decode cX4_readLetter 0 = .ok (.aload_n 0, 1) := by decide +kernel
theorem dX4_readLetter_1 : decode cX4_readLetter 1 = .ok (.getfield 41, 3) := by decide +kernel
theorem dX4_readLetter_4 : decode cX4_readLetter 4 = .ok (.getfield 113, 3) := by decide +kernel
theorem dX4_readLetter_7 : decode cX4_readLetter 7 = .ok (.istore_n 2, 1) := by decide +kernel
theorem dX4_readLetter_8 : decode cX4_readLetter 8 = .ok (.iload_n 2, 1) := by decide +kernel
theorem dX4_readLetter_9 : decode cX4_readLetter 9 = .ok (.ifCond .lt 9, 3) := by decide +kernel
theorem dX4_readLetter_12 : decode cX4_readLetter 12 = .ok (.iload_n 2, 1) := by decide +kernel
theorem dX4_readLetter_13 : decode cX4_readLetter 13 = .ok (.bipush 8, 2) := by decide +kernel
theorem dX4_readLetter_15 : decode cX4_readLetter 15 = .ok (.if_icmp .lt 9, 3) := by decide +kernel
theorem dX4_readLetter_18 : decode cX4_readLetter 18 = .ok (.aload_n 0, 1) := by decide +kernel
theorem dX4_readLetter_19 : decode cX4_readLetter 19 = .ok (.iconst 1, 1) := by decide +kernel
theorem dX4_readLetter_20 : decode cX4_readLetter 20 = .ok (.invokevirtual 80, 3) := by decide +kernel
theorem dX4_readLetter_23 : decode cX4_readLetter 23 = .ok (.ireturn, 1) := by decide +kernel
theorem dX4_readLetter_24 : decode cX4_readLetter 24 = .ok (.aload_n 0, 1) := by decide +kernel
theorem dX4_readLetter_25 : decode cX4_readLetter 25 = .ok (.getfield 21, 3) := by decide +kernel
theorem dX4_readLetter_28 : decode cX4_readLetter 28 = .ok (.iload_n 2, 1) := by decide +kernel
theorem dX4_readLetter_29 : decode cX4_readLetter 29 = .ok (.aaload, 1) := by decide +kernel
theorem dX4_readLetter_30 : decode cX4_readLetter 30 = .ok (.getfield 62, 3) := by decide +kernel
theorem dX4_readLetter_33 : decode cX4_readLetter 33 = .ok (.ifCond .le 12, 3) := by decide +kernel
theorem dX4_readLetter_36 : decode cX4_readLetter 36 = .ok (.aload_n 0, 1) := by decide +kernel
theorem dX4_readLetter_37 : decode cX4_readLetter 37 = .ok (.getfield 21, 3) := by decide +kernel
theorem dX4_readLetter_40 : decode cX4_readLetter 40 = .ok (.iload_n 2, 1) := by decide +kernel
theorem dX4_readLetter_41 : decode cX4_readLetter 41 = .ok (.aaload, 1) := by decide +kernel
theorem dX4_readLetter_42 : decode cX4_readLetter 42 = .ok (.goto 11, 3) := by decide +kernel
theorem dX4_readLetter_45 : decode cX4_readLetter 45 = .ok (.aload_n 0, 1) := by decide +kernel
theorem dX4_readLetter_46 : decode cX4_readLetter 46 = .ok (.getfield 45, 3) := by decide +kernel
theorem dX4_readLetter_49 : decode cX4_readLetter 49 = .ok (.iload_n 2, 1) := by decide +kernel
theorem dX4_readLetter_50 : decode cX4_readLetter 50 = .ok (.invokevirtual 156, 3) := by decide +kernel
theorem dX4_readLetter_53 : decode cX4_readLetter 53 = .ok (.astore_n 3, 1) := by decide +kernel
theorem dX4_readLetter_54 : decode cX4_readLetter 54 = .ok (.aload_n 3, 1) := by decide +kernel
theorem dX4_readLetter_55 : decode cX4_readLetter 55 = .ok (.ifnonnull 10, 3) := by decide +kernel
theorem dX4_readLetter_58 : decode cX4_readLetter 58 = .ok (.aload_n 0, 1) := by decide +kernel
theorem dX4_readLetter_59 : decode cX4_readLetter 59 = .ok (.bipush 6, 2) := by decide +kernel
theorem dX4_readLetter_61 : decode cX4_readLetter 61 = .ok (.invokevirtual 80, 3) := by decide +kernel
theorem dX4_readLetter_64 : decode cX4_readLetter 64 = .ok (.ireturn, 1) := by decide +kernel
theorem dX4_readLetter_65 : decode cX4_readLetter 65 = .ok (.aload_n 0, 1) := by decide +kernel
theorem dX4_readLetter_66 : decode cX4_readLetter 66 = .ok (.getfield 41, 3) := by decide +kernel
theorem dX4_readLetter_69 : decode cX4_readLetter 69 = .ok (.invokevirtual 110, 3) := by decide +kernel
theorem dX4_readLetter_72 : decode cX4_readLetter 72 = .ok (.aload_n 1, 1) := by decide +kernel
theorem dX4_readLetter_73 : decode cX4_readLetter 73 = .ok (.aload_n 3, 1) := by decide +kernel
theorem dX4_readLetter_74 : decode cX4_readLetter 74 = .ok (.iconst 0, 1) := by decide +kernel
theorem dX4_readLetter_75 : decode cX4_readLetter 75 = .ok (.aload_n 3, 1) := by decide +kernel
theorem dX4_readLetter_76 : decode cX4_readLetter 76 = .ok (.getfield 62, 3) := by decide +kernel
theorem dX4_readLetter_79 : decode cX4_readLetter 79 = .ok (.invokevirtual 152, 3) := by decide +kernel
theorem dX4_readLetter_82 : decode cX4_readLetter 82 = .ok (.ifCond .ne 11, 3) := by decide +kernel
theorem dX4_readLetter_85 : decode cX4_readLetter 85 = .ok (.aload_n 0, 1) := by decide +kernel
theorem dX4_readLetter_86 : decode cX4_readLetter 86 = .ok (.iconst 4, 1) := by decide +kernel
theorem dX4_readLetter_87 : decode cX4_readLetter 87 = .ok (.invokevirtual 160, 3) := by decide +kernel
theorem dX4_readLetter_90 : decode cX4_readLetter 90 = .ok (.ifCond .eq 7, 3) := by decide +kernel
theorem dX4_readLetter_93 : decode cX4_readLetter 93 = .ok (.iconst 1, 1) := by decide +kernel
theorem dX4_readLetter_94 : decode cX4_readLetter 94 = .ok (.goto 4, 3) := by decide +kernel
theorem dX4_readLetter_97 : decode cX4_readLetter 97 = .ok (.iconst 0, 1) := by decide +kernel
theorem dX4_readLetter_98 : decode cX4_readLetter 98 = .ok (.ireturn, 1) := by decide +kernel
theorem dX4_openGroup_0 : decode cX4_openGroup 0 = .ok (.iload_n 1, 1) := by decide +kernel
theorem dX4_openGroup_1 : decode cX4_openGroup 1 = .ok (.bipush 40, 2) := by decide +kernel
theorem dX4_openGroup_3 : decode cX4_openGroup 3 = .ok (.if_icmp .eq 10, 3) := by decide +kernel
theorem dX4_openGroup_6 : decode cX4_openGroup 6 = .ok (.aload_n 0, 1) := by decide +kernel
theorem dX4_openGroup_7 : decode cX4_openGroup 7 = .ok (.getfield 41, 3) := by decide +kernel
theorem dX4_openGroup_10 : decode cX4_openGroup 10 = .ok (.invokevirtual 110, 3) := by decide +kernel
theorem dX4_openGroup_13 : decode cX4_openGroup 13 = .ok (.iload_n 1, 1) := by decide +kernel
theorem dX4_openGroup_14 : decode cX4_openGroup 14 = .ok (.bipush 9, 2) := by decide +kernel
theorem dX4_openGroup_16 : decode cX4_openGroup 16 = .ok (.if_icmp .ne 26, 3) := by decide +kernel
theorem dX4_openGroup_19 : decode cX4_openGroup 19 = .ok (.aload_n 0, 1) := by decide +kernel
theorem dX4_openGroup_20 : decode cX4_openGroup 20 = .ok (.getfield 17, 3) := by decide +kernel
theorem dX4_openGroup_23 : decode cX4_openGroup 23 = .ok (.iload_n 2, 1) := by decide +kernel
theorem dX4_openGroup_24 : decode cX4_openGroup 24 = .ok (.aload_n 0, 1) := by decide +kernel
theorem dX4_openGroup_25 : decode cX4_openGroup 25 = .ok (.getfield 41, 3) := by decide +kernel
theorem dX4_openGroup_28 : decode cX4_openGroup 28 = .ok (.getfield 113, 3) := by decide +kernel
theorem dX4_openGroup_31 : decode cX4_openGroup 31 = .ok (.iastore, 1) := by decide +kernel
theorem dX4_openGroup_32 : decode cX4_openGroup 32 = .ok (.aload_n 0, 1) := by decide +kernel
theorem dX4_openGroup_33 : decode cX4_openGroup 33 = .ok (.iconst 2, 1) := by decide +kernel
theorem dX4_openGroup_34 : decode cX4_openGroup 34 = .ok (.invokevirtual 116, 3) := by decide +kernel
theorem dX4_openGroup_37 : decode cX4_openGroup 37 = .ok (.ifCond .ne 5, 3) := by decide +kernel
theorem dX4_openGroup_40 : decode cX4_openGroup 40 = .ok (.iconst 0, 1) := by decide +kernel
theorem dX4_openGroup_41 : decode cX4_openGroup 41 = .ok (.ireturn, 1) := by decide +kernel
theorem dX4_openGroup_42 : decode cX4_openGroup 42 = .ok (.aload_n 0, 1) := by decide +kernel
theorem dX4_openGroup_43 : decode cX4_openGroup 43 = .ok (.getfield 41, 3) := by decide +kernel
theorem dX4_openGroup_46 : decode cX4_openGroup 46 = .ok (.getfield 70, 3) := by decide +kernel
theorem dX4_openGroup_49 : decode cX4_openGroup 49 = .ok (.bipush 40, 2) := by decide +kernel
theorem dX4_openGroup_51 : decode cX4_openGroup 51 = .ok (.if_icmp .ne 14, 3) := by decide +kernel
theorem dX4_openGroup_54 : decode cX4_openGroup 54 = .ok (.iload_n 2, 1) := by decide +kernel
theorem dX4_openGroup_55 : decode cX4_openGroup 55 = .ok (.iconst 5, 1) := by decide +kernel
theorem dX4_openGroup_56 : decode cX4_openGroup 56 = .ok (.if_icmp .lt 9, 3) := by decide +kernel
theorem dX4_openGroup_59 : decode cX4_openGroup 59 = .ok (.aload_n 0, 1) := by decide +kernel
theorem dX4_openGroup_60 : decode cX4_openGroup 60 = .ok (.iconst 3, 1) := by decide +kernel
theorem dX4_openGroup_61 : decode cX4_openGroup 61 = .ok (.invokevirtual 80, 3) := by decide +kernel
theorem dX4_openGroup_64 : decode cX4_openGroup 64 = .ok (.ireturn, 1) := by decide +kernel
theorem dX4_openGroup_65 : decode cX4_openGroup 65 = .ok (.aload_n 0, 1) := by decide +kernel
theorem dX4_openGroup_66 : decode cX4_openGroup 66 = .ok (.bipush 40, 2) := by decide +kernel
theorem dX4_openGroup_68 : decode cX4_openGroup 68 = .ok (.invokevirtual 116, 3) := by decide +kernel
theorem dX4_openGroup_71 : decode cX4_openGroup 71 = .ok (.ireturn, 1) := by decide +kernel
theorem dX4_joinGroup_0 : decode cX4_joinGroup 0 = .ok (.aload_n 0, 1) := by decide +kernel
theorem dX4_joinGroup_1 : decode cX4_joinGroup 1 = .ok (.getfield 13, 3) := by decide +kernel
theorem dX4_joinGroup_4 : decode cX4_joinGroup 4 = .ok (.iload_n 2, 1) := by decide +kernel
theorem dX4_joinGroup_5 : decode cX4_joinGroup 5 = .ok (.aaload, 1) := by decide +kernel
theorem dX4_joinGroup_6 : decode cX4_joinGroup 6 = .ok (.astore_n 3, 1) := by decide +kernel
theorem dX4_joinGroup_7 : decode cX4_joinGroup 7 = .ok (.aload_n 0, 1) := by decide +kernel
theorem dX4_joinGroup_8 : decode cX4_joinGroup 8 = .ok (.getfield 13, 3) := by decide +kernel
theorem dX4_joinGroup_11 : decode cX4_joinGroup 11 = .ok (.iload_n 2, 1) := by decide +kernel
theorem dX4_joinGroup_12 : decode cX4_joinGroup 12 = .ok (.iconst 1, 1) := by decide +kernel
theorem dX4_joinGroup_13 : decode cX4_joinGroup 13 = .ok (.iadd, 1) := by decide +kernel
theorem dX4_joinGroup_14 : decode cX4_joinGroup 14 = .ok (.aaload, 1) := by decide +kernel
theorem dX4_joinGroup_15 : decode cX4_joinGroup 15 = .ok (.astore 4, 2) := by decide +kernel
theorem dX4_joinGroup_17 : decode cX4_joinGroup 17 = .ok (.aload_n 3, 1) := by decide +kernel
theorem dX4_joinGroup_18 : decode cX4_joinGroup 18 = .ok (.getfield 62, 3) := by decide +kernel
theorem dX4_joinGroup_21 : decode cX4_joinGroup 21 = .ok (.aload 4, 2) := by decide +kernel
theorem dX4_joinGroup_23 : decode cX4_joinGroup 23 = .ok (.getfield 62, 3) := by decide +kernel
theorem dX4_joinGroup_26 : decode cX4_joinGroup 26 = .ok (.iadd, 1) := by decide +kernel
theorem dX4_joinGroup_27 : decode cX4_joinGroup 27 = .ok (.bipush 24, 2) := by decide +kernel
theorem dX4_joinGroup_29 : decode cX4_joinGroup 29 = .ok (.if_icmp .le 9, 3) := by decide +kernel
theorem dX4_joinGroup_32 : decode cX4_joinGroup 32 = .ok (.aload_n 0, 1) := by decide +kernel
theorem dX4_joinGroup_33 : decode cX4_joinGroup 33 = .ok (.iconst 4, 1) := by decide +kernel
theorem dX4_joinGroup_34 : decode cX4_joinGroup 34 = .ok (.invokevirtual 160, 3) := by decide +kernel
theorem dX4_joinGroup_37 : decode cX4_joinGroup 37 = .ok (.ireturn, 1) := by decide +kernel
theorem dX4_joinGroup_38 : decode cX4_joinGroup 38 = .ok (.iconst 1, 1) := by decide +kernel
theorem dX4_joinGroup_39 : decode cX4_joinGroup 39 = .ok (.istore 5, 2) := by decide +kernel
theorem dX4_joinGroup_41 : decode cX4_joinGroup 41 = .ok (.iload_n 1, 1) := by decide +kernel
theorem dX4_joinGroup_42 : decode cX4_joinGroup 42 = .ok (.tableswitch 88 6 9 #[30, 44, 56, 70], 30) := by decide +kernel
theorem dX4_joinGroup_72 : decode cX4_joinGroup 72 = .ok (.aload_n 0, 1) := by decide +kernel
theorem dX4_joinGroup_73 : decode cX4_joinGroup 73 = .ok (.getfield 56, 3) := by decide +kernel
theorem dX4_joinGroup_76 : decode cX4_joinGroup 76 = .ok (.aload 4, 2) := by decide +kernel
theorem dX4_joinGroup_78 : decode cX4_joinGroup 78 = .ok (.invokevirtual 163, 3) := by decide +kernel
theorem dX4_joinGroup_81 : decode cX4_joinGroup 81 = .ok (.istore 5, 2) := by decide +kernel
theorem dX4_joinGroup_83 : decode cX4_joinGroup 83 = .ok (.goto 57, 3) := by decide +kernel
theorem dX4_joinGroup_86 : decode cX4_joinGroup 86 = .ok (.aload_n 0, 1) := by decide +kernel
theorem dX4_joinGroup_87 : decode cX4_joinGroup 87 = .ok (.getfield 56, 3) := by decide +kernel
theorem dX4_joinGroup_90 : decode cX4_joinGroup 90 = .ok (.aload 4, 2) := by decide +kernel
theorem dX4_joinGroup_92 : decode cX4_joinGroup 92 = .ok (.invokevirtual 166, 3) := by decide +kernel
theorem dX4_joinGroup_95 : decode cX4_joinGroup 95 = .ok (.goto 45, 3) := by decide +kernel
theorem dX4_joinGroup_98 : decode cX4_joinGroup 98 = .ok (.aload_n 0, 1) := by decide +kernel
theorem dX4_joinGroup_99 : decode cX4_joinGroup 99 = .ok (.getfield 56, 3) := by decide +kernel
theorem dX4_joinGroup_102 : decode cX4_joinGroup 102 = .ok (.aload 4, 2) := by decide +kernel
theorem dX4_joinGroup_104 : decode cX4_joinGroup 104 = .ok (.invokevirtual 170, 3) := by decide +kernel
theorem dX4_joinGroup_107 : decode cX4_joinGroup 107 = .ok (.istore 5, 2) := by decide +kernel
theorem dX4_joinGroup_109 : decode cX4_joinGroup 109 = .ok (.goto 31, 3) := by decide +kernel
theorem dX4_joinGroup_112 : decode cX4_joinGroup 112 = .ok (.aload_n 0, 1) := by decide +kernel
theorem dX4_joinGroup_113 : decode cX4_joinGroup 113 = .ok (.getfield 56, 3) := by decide +kernel
theorem dX4_joinGroup_116 : decode cX4_joinGroup 116 = .ok (.aload 4, 2) := by decide +kernel
theorem dX4_joinGroup_118 : decode cX4_joinGroup 118 = .ok (.aload_n 0, 1) := by decide +kernel
theorem dX4_joinGroup_119 : decode cX4_joinGroup 119 = .ok (.getfield 17, 3) := by decide +kernel
theorem dX4_joinGroup_122 : decode cX4_joinGroup 122 = .ok (.iload_n 2, 1) := by decide +kernel
theorem dX4_joinGroup_123 : decode cX4_joinGroup 123 = .ok (.iaload, 1) := by decide +kernel
theorem dX4_joinGroup_124 : decode cX4_joinGroup 124 = .ok (.invokevirtual 173, 3) := by decide +kernel
theorem dX4_joinGroup_127 : decode cX4_joinGroup 127 = .ok (.goto 13, 3) := by decide +kernel
theorem dX4_joinGroup_130 : decode cX4_joinGroup 130 = .ok (.aload_n 0, 1) := by decide +kernel
theorem dX4_joinGroup_131 : decode cX4_joinGroup 131 = .ok (.getfield 56, 3) := by decide +kernel
theorem dX4_joinGroup_134 : decode cX4_joinGroup 134 = .ok (.aload 4, 2) := by decide +kernel
theorem dX4_joinGroup_136 : decode cX4_joinGroup 136 = .ok (.invokevirtual 122, 3) := by decide +kernel
theorem dX4_joinGroup_139 : decode cX4_joinGroup 139 = .ok (.pop, 1) := by decide +kernel
theorem dX4_joinGroup_140 : decode cX4_joinGroup 140 = .ok (.iload 5, 2) := by decide +kernel
theorem dX4_joinGroup_142 : decode cX4_joinGroup 142 = .ok (.ifCond .eq 22, 3) := by decide +kernel
theorem dX4_joinGroup_145 : decode cX4_joinGroup 145 = .ok (.aload_n 3, 1) := by decide +kernel
theorem dX4_joinGroup_146 : decode cX4_joinGroup 146 = .ok (.aload_n 0, 1) := by decide +kernel
theorem dX4_joinGroup_147 : decode cX4_joinGroup 147 = .ok (.getfield 56, 3) := by decide +kernel
theorem dX4_joinGroup_150 : decode cX4_joinGroup 150 = .ok (.iconst 0, 1) := by decide +kernel
theorem dX4_joinGroup_151 : decode cX4_joinGroup 151 = .ok (.aload_n 0, 1) := by decide +kernel
theorem dX4_joinGroup_152 : decode cX4_joinGroup 152 = .ok (.getfield 56, 3) := by decide +kernel
theorem dX4_joinGroup_155 : decode cX4_joinGroup 155 = .ok (.getfield 62, 3) := by decide +kernel
theorem dX4_joinGroup_158 : decode cX4_joinGroup 158 = .ok (.invokevirtual 152, 3) := by decide +kernel
theorem dX4_joinGroup_161 : decode cX4_joinGroup 161 = .ok (.goto 8, 3) := by decide +kernel
theorem dX4_joinGroup_164 : decode cX4_joinGroup 164 = .ok (.aload_n 0, 1) := by decide +kernel
theorem dX4_joinGroup_165 : decode cX4_joinGroup 165 = .ok (.iconst 5, 1) := by decide +kernel
theorem dX4_joinGroup_166 : decode cX4_joinGroup 166 = .ok (.invokevirtual 160, 3) := by decide +kernel
theorem dX4_joinGroup_169 : decode cX4_joinGroup 169 = .ok (.ireturn, 1) := by decide +kernel
theorem dX4_readBeat_0 : decode cX4_readBeat 0 = .ok (.aload_n 0, 1) := by decide +kernel
theorem dX4_readBeat_1 : decode cX4_readBeat 1 = .ok (.getfield 52, 3) := by decide +kernel
theorem dX4_readBeat_4 : decode cX4_readBeat 4 = .ok (.iconst 1, 1) := by decide +kernel
theorem dX4_readBeat_5 : decode cX4_readBeat 5 = .ok (.invokevirtual 177, 3) := by decide +kernel
theorem dX4_readBeat_8 : decode cX4_readBeat 8 = .ok (.iconst 0, 1) := by decide +kernel
theorem dX4_readBeat_9 : decode cX4_readBeat 9 = .ok (.istore_n 2, 1) := by decide +kernel
theorem dX4_readBeat_10 : decode cX4_readBeat 10 = .ok (.iload_n 2, 1) := by decide +kernel
theorem dX4_readBeat_11 : decode cX4_readBeat 11 = .ok (.aload_n 0, 1) := by decide +kernel
theorem dX4_readBeat_12 : decode cX4_readBeat 12 = .ok (.getfield 38, 3) := by decide +kernel
theorem dX4_readBeat_15 : decode cX4_readBeat 15 = .ok (.if_icmp .ge 97, 3) := by decide +kernel
theorem dX4_readBeat_18 : decode cX4_readBeat 18 = .ok (.aload_n 0, 1) := by decide +kernel
theorem dX4_readBeat_19 : decode cX4_readBeat 19 = .ok (.getfield 38, 3) := by decide +kernel
theorem dX4_readBeat_22 : decode cX4_readBeat 22 = .ok (.iconst 1, 1) := by decide +kernel
theorem dX4_readBeat_23 : decode cX4_readBeat 23 = .ok (.if_icmp .le 23, 3) := by decide +kernel
theorem dX4_readBeat_26 : decode cX4_readBeat 26 = .ok (.aload_n 0, 1) := by decide +kernel
theorem dX4_readBeat_27 : decode cX4_readBeat 27 = .ok (.iload_n 2, 1) := by decide +kernel
theorem dX4_readBeat_28 : decode cX4_readBeat 28 = .ok (.ifCond .ne 8, 3) := by decide +kernel
theorem dX4_readBeat_31 : decode cX4_readBeat 31 = .ok (.bipush 60, 2) := by decide +kernel
theorem dX4_readBeat_33 : decode cX4_readBeat 33 = .ok (.goto 5, 3) := by decide +kernel
theorem dX4_readBeat_36 : decode cX4_readBeat 36 = .ok (.bipush 124, 2) := by decide +kernel
theorem dX4_readBeat_38 : decode cX4_readBeat 38 = .ok (.invokevirtual 116, 3) := by decide +kernel
theorem dX4_readBeat_41 : decode cX4_readBeat 41 = .ok (.ifCond .ne 5, 3) := by decide +kernel
theorem dX4_readBeat_44 : decode cX4_readBeat 44 = .ok (.iconst 0, 1) := by decide +kernel
theorem dX4_readBeat_45 : decode cX4_readBeat 45 = .ok (.ireturn, 1) := by decide +kernel
theorem dX4_readBeat_46 : decode cX4_readBeat 46 = .ok (.aload_n 0, 1) := by decide +kernel
theorem dX4_readBeat_47 : decode cX4_readBeat 47 = .ok (.getfield 41, 3) := by decide +kernel
theorem dX4_readBeat_50 : decode cX4_readBeat 50 = .ok (.getfield 70, 3) := by decide +kernel
theorem dX4_readBeat_53 : decode cX4_readBeat 53 = .ok (.bipush 91, 2) := by decide +kernel
theorem dX4_readBeat_55 : decode cX4_readBeat 55 = .ok (.if_icmp .ne 7, 3) := by decide +kernel
theorem dX4_readBeat_58 : decode cX4_readBeat 58 = .ok (.iconst 1, 1) := by decide +kernel
theorem dX4_readBeat_59 : decode cX4_readBeat 59 = .ok (.goto 4, 3) := by decide +kernel
theorem dX4_readBeat_62 : decode cX4_readBeat 62 = .ok (.iconst 0, 1) := by decide +kernel
theorem dX4_readBeat_63 : decode cX4_readBeat 63 = .ok (.istore_n 3, 1) := by decide +kernel
theorem dX4_readBeat_64 : decode cX4_readBeat 64 = .ok (.iload_n 3, 1) := by decide +kernel
theorem dX4_readBeat_65 : decode cX4_readBeat 65 = .ok (.ifCond .eq 10, 3) := by decide +kernel
theorem dX4_readBeat_68 : decode cX4_readBeat 68 = .ok (.aload_n 0, 1) := by decide +kernel
theorem dX4_readBeat_69 : decode cX4_readBeat 69 = .ok (.getfield 41, 3) := by decide +kernel
theorem dX4_readBeat_72 : decode cX4_readBeat 72 = .ok (.invokevirtual 110, 3) := by decide +kernel
theorem dX4_readBeat_75 : decode cX4_readBeat 75 = .ok (.aload_n 0, 1) := by decide +kernel
theorem dX4_readBeat_76 : decode cX4_readBeat 76 = .ok (.iload_n 2, 1) := by decide +kernel
theorem dX4_readBeat_77 : decode cX4_readBeat 77 = .ok (.invokevirtual 181, 3) := by decide +kernel
theorem dX4_readBeat_80 : decode cX4_readBeat 80 = .ok (.ifCond .eq 24, 3) := by decide +kernel
theorem dX4_readBeat_83 : decode cX4_readBeat 83 = .ok (.iload_n 3, 1) := by decide +kernel
theorem dX4_readBeat_84 : decode cX4_readBeat 84 = .ok (.ifCond .eq 22, 3) := by decide +kernel
theorem dX4_readBeat_87 : decode cX4_readBeat 87 = .ok (.aload_n 0, 1) := by decide +kernel
theorem dX4_readBeat_88 : decode cX4_readBeat 88 = .ok (.iload_n 2, 1) := by decide +kernel
theorem dX4_readBeat_89 : decode cX4_readBeat 89 = .ok (.invokevirtual 181, 3) := by decide +kernel
theorem dX4_readBeat_92 : decode cX4_readBeat 92 = .ok (.ifCond .eq 12, 3) := by decide +kernel
theorem dX4_readBeat_95 : decode cX4_readBeat 95 = .ok (.aload_n 0, 1) := by decide +kernel
theorem dX4_readBeat_96 : decode cX4_readBeat 96 = .ok (.bipush 93, 2) := by decide +kernel
theorem dX4_readBeat_98 : decode cX4_readBeat 98 = .ok (.invokevirtual 116, 3) := by decide +kernel
theorem dX4_readBeat_101 : decode cX4_readBeat 101 = .ok (.ifCond .ne 5, 3) := by decide +kernel
theorem dX4_readBeat_104 : decode cX4_readBeat 104 = .ok (.iconst 0, 1) := by decide +kernel
theorem dX4_readBeat_105 : decode cX4_readBeat 105 = .ok (.ireturn, 1) := by decide +kernel
theorem dX4_readBeat_106 : decode cX4_readBeat 106 = .ok (.iinc 2 1, 3) := by decide +kernel
theorem dX4_readBeat_109 : decode cX4_readBeat 109 = .ok (.goto (-99), 3) := by decide +kernel
theorem dX4_readBeat_112 : decode cX4_readBeat 112 = .ok (.aload_n 0, 1) := by decide +kernel
theorem dX4_readBeat_113 : decode cX4_readBeat 113 = .ok (.getfield 38, 3) := by decide +kernel
theorem dX4_readBeat_116 : decode cX4_readBeat 116 = .ok (.iconst 1, 1) := by decide +kernel
theorem dX4_readBeat_117 : decode cX4_readBeat 117 = .ok (.if_icmp .le 14, 3) := by decide +kernel
theorem dX4_readBeat_120 : decode cX4_readBeat 120 = .ok (.aload_n 0, 1) := by decide +kernel
theorem dX4_readBeat_121 : decode cX4_readBeat 121 = .ok (.bipush 62, 2) := by decide +kernel
theorem dX4_readBeat_123 : decode cX4_readBeat 123 = .ok (.invokevirtual 116, 3) := by decide +kernel
theorem dX4_readBeat_126 : decode cX4_readBeat 126 = .ok (.ifCond .ne 5, 3) := by decide +kernel
theorem dX4_readBeat_129 : decode cX4_readBeat 129 = .ok (.iconst 0, 1) := by decide +kernel
theorem dX4_readBeat_130 : decode cX4_readBeat 130 = .ok (.ireturn, 1) := by decide +kernel
theorem dX4_readBeat_131 : decode cX4_readBeat 131 = .ok (.aload_n 1, 1) := by decide +kernel
theorem dX4_readBeat_132 : decode cX4_readBeat 132 = .ok (.aload_n 0, 1) := by decide +kernel
theorem dX4_readBeat_133 : decode cX4_readBeat 133 = .ok (.getfield 52, 3) := by decide +kernel
theorem dX4_readBeat_136 : decode cX4_readBeat 136 = .ok (.iconst 0, 1) := by decide +kernel
theorem dX4_readBeat_137 : decode cX4_readBeat 137 = .ok (.iconst 1, 1) := by decide +kernel
theorem dX4_readBeat_138 : decode cX4_readBeat 138 = .ok (.invokevirtual 152, 3) := by decide +kernel
theorem dX4_readBeat_141 : decode cX4_readBeat 141 = .ok (.ifCond .ne 11, 3) := by decide +kernel
theorem dX4_readBeat_144 : decode cX4_readBeat 144 = .ok (.aload_n 0, 1) := by decide +kernel
theorem dX4_readBeat_145 : decode cX4_readBeat 145 = .ok (.iconst 4, 1) := by decide +kernel
theorem dX4_readBeat_146 : decode cX4_readBeat 146 = .ok (.invokevirtual 160, 3) := by decide +kernel
theorem dX4_readBeat_149 : decode cX4_readBeat 149 = .ok (.ifCond .eq 7, 3) := by decide +kernel
theorem dX4_readBeat_152 : decode cX4_readBeat 152 = .ok (.iconst 1, 1) := by decide +kernel
theorem dX4_readBeat_153 : decode cX4_readBeat 153 = .ok (.goto 4, 3) := by decide +kernel
theorem dX4_readBeat_156 : decode cX4_readBeat 156 = .ok (.iconst 0, 1) := by decide +kernel
theorem dX4_readBeat_157 : decode cX4_readBeat 157 = .ok (.ireturn, 1) := by decide +kernel
theorem dX4_readThrow_0 : decode cX4_readThrow 0 = .ok (.aload_n 0, 1) := by decide +kernel
theorem dX4_readThrow_1 : decode cX4_readThrow 1 = .ok (.getfield 41, 3) := by decide +kernel
theorem dX4_readThrow_4 : decode cX4_readThrow 4 = .ok (.getfield 70, 3) := by decide +kernel
theorem dX4_readThrow_7 : decode cX4_readThrow 7 = .ok (.iconst 2, 1) := by decide +kernel
theorem dX4_readThrow_8 : decode cX4_readThrow 8 = .ok (.if_icmp .eq 9, 3) := by decide +kernel
theorem dX4_readThrow_11 : decode cX4_readThrow 11 = .ok (.aload_n 0, 1) := by decide +kernel
theorem dX4_readThrow_12 : decode cX4_readThrow 12 = .ok (.iconst 1, 1) := by decide +kernel
theorem dX4_readThrow_13 : decode cX4_readThrow 13 = .ok (.invokevirtual 80, 3) := by decide +kernel
theorem dX4_readThrow_16 : decode cX4_readThrow 16 = .ok (.ireturn, 1) := by decide +kernel
theorem dX4_readThrow_17 : decode cX4_readThrow 17 = .ok (.aload_n 0, 1) := by decide +kernel
theorem dX4_readThrow_18 : decode cX4_readThrow 18 = .ok (.getfield 41, 3) := by decide +kernel
theorem dX4_readThrow_21 : decode cX4_readThrow 21 = .ok (.getfield 113, 3) := by decide +kernel
theorem dX4_readThrow_24 : decode cX4_readThrow 24 = .ok (.istore_n 2, 1) := by decide +kernel
theorem dX4_readThrow_25 : decode cX4_readThrow 25 = .ok (.iload_n 1, 1) := by decide +kernel
theorem dX4_readThrow_26 : decode cX4_readThrow 26 = .ok (.istore_n 3, 1) := by decide +kernel
theorem dX4_readThrow_27 : decode cX4_readThrow 27 = .ok (.aload_n 0, 1) := by decide +kernel
theorem dX4_readThrow_28 : decode cX4_readThrow 28 = .ok (.getfield 41, 3) := by decide +kernel
theorem dX4_readThrow_31 : decode cX4_readThrow 31 = .ok (.invokevirtual 110, 3) := by decide +kernel
theorem dX4_readThrow_34 : decode cX4_readThrow 34 = .ok (.aload_n 0, 1) := by decide +kernel
theorem dX4_readThrow_35 : decode cX4_readThrow 35 = .ok (.getfield 41, 3) := by decide +kernel
theorem dX4_readThrow_38 : decode cX4_readThrow 38 = .ok (.getfield 70, 3) := by decide +kernel
theorem dX4_readThrow_41 : decode cX4_readThrow 41 = .ok (.bipush 10, 2) := by decide +kernel
theorem dX4_readThrow_43 : decode cX4_readThrow 43 = .ok (.if_icmp .ne 56, 3) := by decide +kernel
theorem dX4_readThrow_46 : decode cX4_readThrow 46 = .ok (.aload_n 0, 1) := by decide +kernel
theorem dX4_readThrow_47 : decode cX4_readThrow 47 = .ok (.getfield 41, 3) := by decide +kernel
theorem dX4_readThrow_50 : decode cX4_readThrow 50 = .ok (.invokevirtual 110, 3) := by decide +kernel
theorem dX4_readThrow_53 : decode cX4_readThrow 53 = .ok (.aload_n 0, 1) := by decide +kernel
theorem dX4_readThrow_54 : decode cX4_readThrow 54 = .ok (.getfield 41, 3) := by decide +kernel
theorem dX4_readThrow_57 : decode cX4_readThrow 57 = .ok (.getfield 70, 3) := by decide +kernel
theorem dX4_readThrow_60 : decode cX4_readThrow 60 = .ok (.iconst 2, 1) := by decide +kernel
theorem dX4_readThrow_61 : decode cX4_readThrow 61 = .ok (.if_icmp .eq 9, 3) := by decide +kernel
theorem dX4_readThrow_64 : decode cX4_readThrow 64 = .ok (.aload_n 0, 1) := by decide +kernel
theorem dX4_readThrow_65 : decode cX4_readThrow 65 = .ok (.iconst 1, 1) := by decide +kernel
theorem dX4_readThrow_66 : decode cX4_readThrow 66 = .ok (.invokevirtual 80, 3) := by decide +kernel
theorem dX4_readThrow_69 : decode cX4_readThrow 69 = .ok (.ireturn, 1) := by decide +kernel
theorem dX4_readThrow_70 : decode cX4_readThrow 70 = .ok (.aload_n 0, 1) := by decide +kernel
theorem dX4_readThrow_71 : decode cX4_readThrow 71 = .ok (.getfield 41, 3) := by decide +kernel
theorem dX4_readThrow_74 : decode cX4_readThrow 74 = .ok (.getfield 113, 3) := by decide +kernel
theorem dX4_readThrow_77 : decode cX4_readThrow 77 = .ok (.istore_n 3, 1) := by decide +kernel
theorem dX4_readThrow_78 : decode cX4_readThrow 78 = .ok (.iload_n 3, 1) := by decide +kernel
theorem dX4_readThrow_79 : decode cX4_readThrow 79 = .ok (.aload_n 0, 1) := by decide +kernel
theorem dX4_readThrow_80 : decode cX4_readThrow 80 = .ok (.getfield 38, 3) := by decide +kernel
theorem dX4_readThrow_83 : decode cX4_readThrow 83 = .ok (.if_icmp .lt 9, 3) := by decide +kernel
theorem dX4_readThrow_86 : decode cX4_readThrow 86 = .ok (.aload_n 0, 1) := by decide +kernel
theorem dX4_readThrow_87 : decode cX4_readThrow 87 = .ok (.iconst 2, 1) := by decide +kernel
theorem dX4_readThrow_88 : decode cX4_readThrow 88 = .ok (.invokevirtual 80, 3) := by decide +kernel
theorem dX4_readThrow_91 : decode cX4_readThrow 91 = .ok (.ireturn, 1) := by decide +kernel
theorem dX4_readThrow_92 : decode cX4_readThrow 92 = .ok (.aload_n 0, 1) := by decide +kernel
theorem dX4_readThrow_93 : decode cX4_readThrow 93 = .ok (.getfield 41, 3) := by decide +kernel
theorem dX4_readThrow_96 : decode cX4_readThrow 96 = .ok (.invokevirtual 110, 3) := by decide +kernel
theorem dX4_readThrow_99 : decode cX4_readThrow 99 = .ok (.aload_n 0, 1) := by decide +kernel
theorem dX4_readThrow_100 : decode cX4_readThrow 100 = .ok (.getfield 52, 3) := by decide +kernel
theorem dX4_readThrow_103 : decode cX4_readThrow 103 = .ok (.iconst 0, 1) := by decide +kernel
theorem dX4_readThrow_104 : decode cX4_readThrow 104 = .ok (.iload_n 1, 1) := by decide +kernel
theorem dX4_readThrow_105 : decode cX4_readThrow 105 = .ok (.iload_n 2, 1) := by decide +kernel
theorem dX4_readThrow_106 : decode cX4_readThrow 106 = .ok (.iload_n 3, 1) := by decide +kernel
theorem dX4_readThrow_107 : decode cX4_readThrow 107 = .ok (.invokevirtual 184, 3) := by decide +kernel
theorem dX4_readThrow_110 : decode cX4_readThrow 110 = .ok (.ireturn, 1) := by decide +kernel
theorem dX8_advance_0 : decode cX8_advance 0 = .ok (.aload_n 0, 1) := by decide +kernel
theorem dX8_advance_1 : decode cX8_advance 1 = .ok (.aload_n 0, 1) := by decide +kernel
theorem dX8_advance_2 : decode cX8_advance 2 = .ok (.getfield 56, 3) := by decide +kernel
theorem dX8_advance_5 : decode cX8_advance 5 = .ok (.putfield 62, 3) := by decide +kernel
theorem dX8_advance_8 : decode cX8_advance 8 = .ok (.aload_n 0, 1) := by decide +kernel
theorem dX8_advance_9 : decode cX8_advance 9 = .ok (.getfield 53, 3) := by decide +kernel
theorem dX8_advance_12 : decode cX8_advance 12 = .ok (.aload_n 0, 1) := by decide +kernel
theorem dX8_advance_13 : decode cX8_advance 13 = .ok (.getfield 25, 3) := by decide +kernel
theorem dX8_advance_16 : decode cX8_advance 16 = .ok (.if_icmp .ge 52, 3) := by decide +kernel
theorem dX8_advance_19 : decode cX8_advance 19 = .ok (.aload_n 0, 1) := by decide +kernel
theorem dX8_advance_20 : decode cX8_advance 20 = .ok (.aload_n 0, 1) := by decide +kernel
theorem dX8_advance_21 : decode cX8_advance 21 = .ok (.getfield 9, 3) := by decide +kernel
theorem dX8_advance_24 : decode cX8_advance 24 = .ok (.aload_n 0, 1) := by decide +kernel
theorem dX8_advance_25 : decode cX8_advance 25 = .ok (.getfield 53, 3) := by decide +kernel
theorem dX8_advance_28 : decode cX8_advance 28 = .ok (.iaload, 1) := by decide +kernel
theorem dX8_advance_29 : decode cX8_advance 29 = .ok (.putfield 65, 3) := by decide +kernel
theorem dX8_advance_32 : decode cX8_advance 32 = .ok (.aload_n 0, 1) := by decide +kernel
theorem dX8_advance_33 : decode cX8_advance 33 = .ok (.aload_n 0, 1) := by decide +kernel
theorem dX8_advance_34 : decode cX8_advance 34 = .ok (.getfield 15, 3) := by decide +kernel
theorem dX8_advance_37 : decode cX8_advance 37 = .ok (.aload_n 0, 1) := by decide +kernel
theorem dX8_advance_38 : decode cX8_advance 38 = .ok (.getfield 53, 3) := by decide +kernel
theorem dX8_advance_41 : decode cX8_advance 41 = .ok (.iaload, 1) := by decide +kernel
theorem dX8_advance_42 : decode cX8_advance 42 = .ok (.putfield 68, 3) := by decide +kernel
theorem dX8_advance_45 : decode cX8_advance 45 = .ok (.aload_n 0, 1) := by decide +kernel
theorem dX8_advance_46 : decode cX8_advance 46 = .ok (.aload_n 0, 1) := by decide +kernel
theorem dX8_advance_47 : decode cX8_advance 47 = .ok (.getfield 18, 3) := by decide +kernel
theorem dX8_advance_50 : decode cX8_advance 50 = .ok (.aload_n 0, 1) := by decide +kernel
theorem dX8_advance_51 : decode cX8_advance 51 = .ok (.getfield 53, 3) := by decide +kernel
theorem dX8_advance_54 : decode cX8_advance 54 = .ok (.iaload, 1) := by decide +kernel
theorem dX8_advance_55 : decode cX8_advance 55 = .ok (.putfield 56, 3) := by decide +kernel
theorem dX8_advance_58 : decode cX8_advance 58 = .ok (.aload_n 0, 1) := by decide +kernel
theorem dX8_advance_59 : decode cX8_advance 59 = .ok (.dup, 1) := by decide +kernel
theorem dX8_advance_60 : decode cX8_advance 60 = .ok (.getfield 53, 3) := by decide +kernel
theorem dX8_advance_63 : decode cX8_advance 63 = .ok (.iconst 1, 1) := by decide +kernel
theorem dX8_advance_64 : decode cX8_advance 64 = .ok (.iadd, 1) := by decide +kernel
theorem dX8_advance_65 : decode cX8_advance 65 = .ok (.putfield 53, 3) := by decide +kernel
theorem dX8_advance_68 : decode cX8_advance 68 = .ok (.return_, 1) := by decide +kernel
theorem dX8_keep_0 : decode cX8_keep 0 = .ok (.aload_n 0, 1) := by decide +kernel
theorem dX8_keep_1 : decode cX8_keep 1 = .ok (.getfield 25, 3) := by decide +kernel
theorem dX8_keep_4 : decode cX8_keep 4 = .ok (.aload_n 0, 1) := by decide +kernel
theorem dX8_keep_5 : decode cX8_keep 5 = .ok (.getfield 9, 3) := by decide +kernel
theorem dX8_keep_8 : decode cX8_keep 8 = .ok (.arraylength, 1) := by decide +kernel
theorem dX8_keep_9 : decode cX8_keep 9 = .ok (.if_icmp .ge 43, 3) := by decide +kernel
theorem dX8_keep_12 : decode cX8_keep 12 = .ok (.aload_n 0, 1) := by decide +kernel
theorem dX8_keep_13 : decode cX8_keep 13 = .ok (.getfield 9, 3) := by decide +kernel
theorem dX8_keep_16 : decode cX8_keep 16 = .ok (.aload_n 0, 1) := by decide +kernel
theorem dX8_keep_17 : decode cX8_keep 17 = .ok (.getfield 25, 3) := by decide +kernel
theorem dX8_keep_20 : decode cX8_keep 20 = .ok (.iload_n 1, 1) := by decide +kernel
theorem dX8_keep_21 : decode cX8_keep 21 = .ok (.iastore, 1) := by decide +kernel
theorem dX8_keep_22 : decode cX8_keep 22 = .ok (.aload_n 0, 1) := by decide +kernel
theorem dX8_keep_23 : decode cX8_keep 23 = .ok (.getfield 15, 3) := by decide +kernel
theorem dX8_keep_26 : decode cX8_keep 26 = .ok (.aload_n 0, 1) := by decide +kernel
theorem dX8_keep_27 : decode cX8_keep 27 = .ok (.getfield 25, 3) := by decide +kernel
theorem dX8_keep_30 : decode cX8_keep 30 = .ok (.iload_n 2, 1) := by decide +kernel
theorem dX8_keep_31 : decode cX8_keep 31 = .ok (.iastore, 1) := by decide +kernel
theorem dX8_keep_32 : decode cX8_keep 32 = .ok (.aload_n 0, 1) := by decide +kernel
theorem dX8_keep_33 : decode cX8_keep 33 = .ok (.getfield 18, 3) := by decide +kernel
theorem dX8_keep_36 : decode cX8_keep 36 = .ok (.aload_n 0, 1) := by decide +kernel
theorem dX8_keep_37 : decode cX8_keep 37 = .ok (.getfield 25, 3) := by decide +kernel
theorem dX8_keep_40 : decode cX8_keep 40 = .ok (.iload_n 3, 1) := by decide +kernel
theorem dX8_keep_41 : decode cX8_keep 41 = .ok (.iastore, 1) := by decide +kernel
theorem dX8_keep_42 : decode cX8_keep 42 = .ok (.aload_n 0, 1) := by decide +kernel
theorem dX8_keep_43 : decode cX8_keep 43 = .ok (.dup, 1) := by decide +kernel
theorem dX8_keep_44 : decode cX8_keep 44 = .ok (.getfield 25, 3) := by decide +kernel
theorem dX8_keep_47 : decode cX8_keep 47 = .ok (.iconst 1, 1) := by decide +kernel
theorem dX8_keep_48 : decode cX8_keep 48 = .ok (.iadd, 1) := by decide +kernel
theorem dX8_keep_49 : decode cX8_keep 49 = .ok (.putfield 25, 3) := by decide +kernel
theorem dX8_keep_52 : decode cX8_keep 52 = .ok (.return_, 1) := by decide +kernel
theorem dX8_isLetter_0 : decode cX8_isLetter 0 = .ok (.iload_n 0, 1) := by decide +kernel
theorem dX8_isLetter_1 : decode cX8_isLetter 1 = .ok (.bipush 97, 2) := by decide +kernel
theorem dX8_isLetter_3 : decode cX8_isLetter 3 = .ok (.if_icmp .lt 9, 3) := by decide +kernel
theorem dX8_isLetter_6 : decode cX8_isLetter 6 = .ok (.iload_n 0, 1) := by decide +kernel
theorem dX8_isLetter_7 : decode cX8_isLetter 7 = .ok (.bipush 122, 2) := by decide +kernel
theorem dX8_isLetter_9 : decode cX8_isLetter 9 = .ok (.if_icmp .le 15, 3) := by decide +kernel
theorem dX8_isLetter_12 : decode cX8_isLetter 12 = .ok (.iload_n 0, 1) := by decide +kernel
theorem dX8_isLetter_13 : decode cX8_isLetter 13 = .ok (.bipush 65, 2) := by decide +kernel
theorem dX8_isLetter_15 : decode cX8_isLetter 15 = .ok (.if_icmp .lt 13, 3) := by decide +kernel
theorem dX8_isLetter_18 : decode cX8_isLetter 18 = .ok (.iload_n 0, 1) := by decide +kernel
theorem dX8_isLetter_19 : decode cX8_isLetter 19 = .ok (.bipush 90, 2) := by decide +kernel
theorem dX8_isLetter_21 : decode cX8_isLetter 21 = .ok (.if_icmp .gt 7, 3) := by decide +kernel
theorem dX8_isLetter_24 : decode cX8_isLetter 24 = .ok (.iconst 1, 1) := by decide +kernel
theorem dX8_isLetter_25 : decode cX8_isLetter 25 = .ok (.goto 4, 3) := by decide +kernel
theorem dX8_isLetter_28 : decode cX8_isLetter 28 = .ok (.iconst 0, 1) := by decide +kernel
theorem dX8_isLetter_29 : decode cX8_isLetter 29 = .ok (.ireturn, 1) := by decide +kernel
set_option maxRecDepth 20000 in
theorem ggX4_expect_X4_fail : GoodIn wsX4_expect wsX4_fail := goodIn_r _ [6, 7, 1, 8, 23, 24, 25, 26, 27, 28, 29, 30, 31, 32, 33, 34, 35, 36, 37, 38, 39, 40, 41, 42, 43] (by decide +kernel) (by decide +kernel)
set_option maxRecDepth 20000 in
theorem gX4_expect_X4_fail : GoodIn wsX4_expect (wsV RX4 80 RX4 yX4_fail wsX4_fail) := goodIn_app (goodIn_of _ (by decide +kernel)) ggX4_expect_X4_fail
set_option maxRecDepth 20000 in
theorem ggX4_expect_X8_advance : GoodIn wsX4_expect wsX8_advance := goodIn_r _ [13, 14, 15, 16, 17, 18, 19, 20, 21, 22, 34, 35, 36, 37, 38, 39, 40, 41, 42, 43] (by decide +kernel) (by decide +kernel)
set_option maxRecDepth 20000 in
theorem gX4_expect_X8_advance : GoodIn wsX4_expect (wsV RX4 110 RX8 yX8_advance wsX8_advance) := goodIn_app (goodIn_of _ (by decide +kernel)) ggX4_expect_X8_advance
set_option maxRecDepth 20000 in
theorem ggX4_readMarks_X8_advance : GoodIn wsX4_readMarks wsX8_advance := goodIn_r _ [7, 8, 9, 10, 11, 12, 13, 14, 15, 16, 48, 49, 50, 51, 52, 53, 54, 55, 56, 57] (by decide +kernel) (by decide +kernel)
set_option maxRecDepth 20000 in
theorem gX4_readMarks_X8_advance : GoodIn wsX4_readMarks (wsV RX4 110 RX8 yX8_advance wsX8_advance) := goodIn_app (goodIn_of _ (by decide +kernel)) ggX4_readMarks_X8_advance
set_option maxRecDepth 20000 in
theorem ggX4_readMarks_X3_write : GoodIn wsX4_readMarks wsX3_write := goodIn_r _ [21, 22, 23, 46, 47] (by decide +kernel) (by decide +kernel)
set_option maxRecDepth 20000 in
theorem gX4_readMarks_X3_write : GoodIn wsX4_readMarks (wsV RX4 126 RX3 yX3_write wsX3_write) := goodIn_app (goodIn_of _ (by decide +kernel)) ggX4_readMarks_X3_write
set_option maxRecDepth 20000 in
theorem ggX4_readMarks_X4_fail : GoodIn wsX4_readMarks wsX4_fail := goodIn_r _ [28, 29, 1, 30, 35, 36, 37, 38, 39, 40, 41, 42, 43, 44, 45, 48, 49, 50, 51, 52, 53, 54, 55, 56, 57] (by decide +kernel) (by decide +kernel)
set_option maxRecDepth 20000 in
theorem gX4_readMarks_X4_fail : GoodIn wsX4_readMarks (wsV RX4 80 RX4 yX4_fail wsX4_fail) := goodIn_app (goodIn_of _ (by decide +kernel)) ggX4_readMarks_X4_fail
set_option maxRecDepth 20000 in
theorem ggX4_readMarks_X4_expect : GoodIn wsX4_readMarks wsX4_expect := goodIn_r _ [34, 1, 24, 25, 26, 27, 28, 29, 30, 3, 4, 5, 6, 7, 8, 9, 10, 11, 12, 13, 14, 15, 16, 35, 36, 37, 38, 39, 40, 41, 42, 43, 44, 45, 48, 49, 50, 51, 52, 53, 54, 55, 56, 57] (by decide +kernel) (by decide +kernel)
set_option maxRecDepth 20000 in
theorem gX4_readMarks_X4_expect : GoodIn wsX4_readMarks (wsV RX4 116 RX4 yX4_expect wsX4_expect) := goodIn_app (goodIn_of _ (by decide +kernel)) ggX4_readMarks_X4_expect
set_option maxRecDepth 20000 in
theorem ggX4_readTimes_X8_advance : GoodIn wsX4_readTimes wsX8_advance := goodIn_r _ [6, 7, 8, 9, 10, 11, 12, 13, 14, 15, 46, 47, 48, 49, 50, 51, 52, 53, 54, 55] (by decide +kernel) (by decide +kernel)
set_option maxRecDepth 20000 in
theorem gX4_readTimes_X8_advance : GoodIn wsX4_readTimes (wsV RX4 110 RX8 yX8_advance wsX8_advance) := goodIn_app (goodIn_of _ (by decide +kernel)) ggX4_readTimes_X8_advance
set_option maxRecDepth 20000 in
theorem ggX4_readTimes_X4_fail : GoodIn wsX4_readTimes wsX4_fail := goodIn_r _ [20, 21, 1, 22, 35, 36, 37, 38, 39, 40, 41, 42, 43, 44, 45, 46, 47, 48, 49, 50, 51, 52, 53, 54, 55] (by decide +kernel) (by decide +kernel)
set_option maxRecDepth 20000 in
theorem gX4_readTimes_X4_fail : GoodIn wsX4_readTimes (wsV RX4 80 RX4 yX4_fail wsX4_fail) := goodIn_app (goodIn_of _ (by decide +kernel)) ggX4_readTimes_X4_fail
set_option maxRecDepth 20000 in
theorem ggX4_readTimes_X5_append : GoodIn wsX4_readTimes wsX5_append := goodIn_r _ [27, 28, 29, 30, 31, 32, 33, 34, 56, 57, 58, 59] (by decide +kernel) (by decide +kernel)
set_option maxRecDepth 20000 in
theorem gX4_readTimes_X5_append : GoodIn wsX4_readTimes (wsV RX4 152 RX5 yX5_append wsX5_append) := goodIn_app (goodIn_of _ (by decide +kernel)) ggX4_readTimes_X5_append
set_option maxRecDepth 20000 in
theorem ggX4_readLetter_X4_fail : GoodIn wsX4_readLetter wsX4_fail := goodIn_r _ [8, 9, 1, 10, 52, 53, 54, 55, 56, 57, 58, 59, 60, 61, 62, 63, 64, 65, 66, 67, 68, 69, 70, 71, 72] (by decide +kernel) (by decide +kernel)
set_option maxRecDepth 20000 in
theorem gX4_readLetter_X4_fail : GoodIn wsX4_readLetter (wsV RX4 80 RX4 yX4_fail wsX4_fail) := goodIn_app (goodIn_of _ (by decide +kernel)) ggX4_readLetter_X4_fail
set_option maxRecDepth 20000 in
theorem ggX4_readLetter_X0_rowLatest : GoodIn wsX4_readLetter wsX0_rowLatest := goodIn_r _ [15, 16, 17, 18, 19, 14, 20, 21, 77, 78, 79, 80] (by decide +kernel) (by decide +kernel)
set_option maxRecDepth 20000 in
theorem gX4_readLetter_X0_rowLatest : GoodIn wsX4_readLetter (wsV RX4 156 RX0 yX0_rowLatest wsX0_rowLatest) := goodIn_app (goodIn_of _ (by decide +kernel)) ggX4_readLetter_X0_rowLatest
set_option maxRecDepth 20000 in
theorem ggX4_readLetter_X8_advance : GoodIn wsX4_readLetter wsX8_advance := goodIn_r _ [26, 27, 28, 29, 30, 31, 32, 33, 34, 35, 63, 64, 65, 66, 67, 68, 69, 70, 71, 72] (by decide +kernel) (by decide +kernel)
set_option maxRecDepth 20000 in
theorem gX4_readLetter_X8_advance : GoodIn wsX4_readLetter (wsV RX4 110 RX8 yX8_advance wsX8_advance) := goodIn_app (goodIn_of _ (by decide +kernel)) ggX4_readLetter_X8_advance
set_option maxRecDepth 20000 in
theorem ggX4_readLetter_X5_append : GoodIn wsX4_readLetter wsX5_append := goodIn_r _ [40, 41, 42, 43, 44, 45, 46, 47, 73, 74, 75, 76] (by decide +kernel) (by decide +kernel)
set_option maxRecDepth 20000 in
theorem gX4_readLetter_X5_append : GoodIn wsX4_readLetter (wsV RX4 152 RX5 yX5_append wsX5_append) := goodIn_app (goodIn_of _ (by decide +kernel)) ggX4_readLetter_X5_append
set_option maxRecDepth 20000 in
theorem ggX4_readLetter_X4_failBehind : GoodIn wsX4_readLetter wsX4_failBehind := goodIn_r _ [51, 9, 1, 10, 52, 53, 54, 55, 56, 57, 58, 59, 60, 61, 62, 63, 64, 65, 66, 67, 68, 69, 70, 71, 72] (by decide +kernel) (by decide +kernel)
set_option maxRecDepth 20000 in
theorem gX4_readLetter_X4_failBehind : GoodIn wsX4_readLetter (wsV RX4 160 RX4 yX4_failBehind wsX4_failBehind) := goodIn_app (goodIn_of _ (by decide +kernel)) ggX4_readLetter_X4_failBehind
set_option maxRecDepth 20000 in
theorem ggX4_openGroup_X8_advance : GoodIn wsX4_openGroup wsX8_advance := goodIn_r _ [7, 8, 9, 10, 11, 12, 13, 14, 15, 16, 39, 40, 41, 42, 43, 44, 45, 46, 47, 48] (by decide +kernel) (by decide +kernel)
set_option maxRecDepth 20000 in
theorem gX4_openGroup_X8_advance : GoodIn wsX4_openGroup (wsV RX4 110 RX8 yX8_advance wsX8_advance) := goodIn_app (goodIn_of _ (by decide +kernel)) ggX4_openGroup_X8_advance
set_option maxRecDepth 20000 in
theorem ggX4_openGroup_X4_expect : GoodIn wsX4_openGroup wsX4_expect := goodIn_r _ [21, 1, 22, 23, 24, 20, 25, 26, 27, 3, 4, 5, 6, 7, 8, 9, 10, 11, 12, 13, 14, 15, 16, 28, 29, 30, 31, 32, 33, 34, 35, 36, 37, 38, 39, 40, 41, 42, 43, 44, 45, 46, 47, 48] (by decide +kernel) (by decide +kernel)
set_option maxRecDepth 20000 in
theorem gX4_openGroup_X4_expect : GoodIn wsX4_openGroup (wsV RX4 116 RX4 yX4_expect wsX4_expect) := goodIn_app (goodIn_of _ (by decide +kernel)) ggX4_openGroup_X4_expect
set_option maxRecDepth 20000 in
theorem ggX4_openGroup_X4_fail : GoodIn wsX4_openGroup wsX4_fail := goodIn_r _ [25, 26, 1, 27, 28, 29, 30, 31, 32, 33, 34, 35, 36, 37, 38, 39, 40, 41, 42, 43, 44, 45, 46, 47, 48] (by decide +kernel) (by decide +kernel)
set_option maxRecDepth 20000 in
theorem gX4_openGroup_X4_fail : GoodIn wsX4_openGroup (wsV RX4 80 RX4 yX4_fail wsX4_fail) := goodIn_app (goodIn_of _ (by decide +kernel)) ggX4_openGroup_X4_fail
set_option maxRecDepth 20000 in
theorem ggX4_joinGroup_X4_failBehind : GoodIn wsX4_joinGroup wsX4_failBehind := goodIn_r _ [8, 9, 10, 11, 97, 98, 99, 100, 101, 102, 103, 104, 105, 106, 107, 112, 113, 114, 115, 116, 117, 118, 119, 120, 121] (by decide +kernel) (by decide +kernel)
set_option maxRecDepth 20000 in
theorem gX4_joinGroup_X4_failBehind : GoodIn wsX4_joinGroup (wsV RX4 160 RX4 yX4_failBehind wsX4_failBehind) := goodIn_app (goodIn_of _ (by decide +kernel)) ggX4_joinGroup_X4_failBehind
set_option maxRecDepth 20000 in
theorem ggX4_joinGroup_X5_takeBack : GoodIn wsX4_joinGroup wsX5_takeBack := goodIn_r _ [16, 17, 18, 19, 20, 15, 21, 22, 23, 24, 25, 26, 27, 28, 29, 30, 31, 32, 33, 34, 35, 36, 37, 38, 39, 40, 41, 42, 43, 44, 45, 46, 47, 48, 49, 50, 51, 52, 53, 54, 55, 56, 57, 58, 59, 60, 61, 62, 63, 64, 65, 66, 108, 109, 110, 111] (by decide +kernel) (by decide +kernel)
set_option maxRecDepth 20000 in
theorem gX4_joinGroup_X5_takeBack : GoodIn wsX4_joinGroup (wsV RX4 163 RX5 yX5_takeBack wsX5_takeBack) := goodIn_app (goodIn_of _ (by decide +kernel)) ggX4_joinGroup_X5_takeBack
set_option maxRecDepth 20000 in
theorem ggX4_joinGroup_X5_takeOver : GoodIn wsX4_joinGroup wsX5_takeOver := goodIn_r _ [70, 17, 71, 18, 19, 20, 15, 21, 22, 23, 24, 25, 26, 27, 28, 29, 30, 31, 32, 33, 34, 35, 36, 37, 38, 59, 60, 61, 62, 55, 56, 57, 58, 43, 44, 45, 46, 39, 40, 41, 42, 63, 64, 65, 66, 108, 109, 110, 111] (by decide +kernel) (by decide +kernel)
set_option maxRecDepth 20000 in
theorem gX4_joinGroup_X5_takeOver : GoodIn wsX4_joinGroup (wsV RX4 166 RX5 yX5_takeOver wsX5_takeOver) := goodIn_app (goodIn_of _ (by decide +kernel)) ggX4_joinGroup_X5_takeOver
set_option maxRecDepth 20000 in
theorem ggX4_joinGroup_X5_takeDual : GoodIn wsX4_joinGroup wsX5_takeDual := goodIn_r _ [75, 17, 76, 77, 78, 15, 79, 71, 22, 23, 18, 19, 20, 21, 24, 25, 26, 27, 28, 29, 30, 31, 32, 33, 34, 47, 48, 49, 50, 51, 52, 53, 54, 39, 40, 41, 42, 63, 64, 65, 66, 108, 109, 110, 111] (by decide +kernel) (by decide +kernel)
set_option maxRecDepth 20000 in
theorem gX4_joinGroup_X5_takeDual : GoodIn wsX4_joinGroup (wsV RX4 170 RX5 yX5_takeDual wsX5_takeDual) := goodIn_app (goodIn_of _ (by decide +kernel)) ggX4_joinGroup_X5_takeDual
set_option maxRecDepth 20000 in
theorem ggX4_joinGroup_X5_takeTurned : GoodIn wsX4_joinGroup wsX5_takeTurned := goodIn_r _ [83, 17, 47, 48, 49, 15, 50, 51, 52, 53, 54, 84, 85, 86, 87, 23, 22, 88, 89, 90, 91, 108, 109, 110, 111] (by decide +kernel) (by decide +kernel)
set_option maxRecDepth 20000 in
theorem gX4_joinGroup_X5_takeTurned : GoodIn wsX4_joinGroup (wsV RX4 173 RX5 yX5_takeTurned wsX5_takeTurned) := goodIn_app (goodIn_of _ (by decide +kernel)) ggX4_joinGroup_X5_takeTurned
set_option maxRecDepth 20000 in
theorem ggX4_joinGroup_X5_takeFrom : GoodIn wsX4_joinGroup wsX5_takeFrom := goodIn_r _ [95, 17, 84, 85, 86, 15, 87, 23, 22, 88, 89, 90, 91, 108, 109, 110, 111] (by decide +kernel) (by decide +kernel)
set_option maxRecDepth 20000 in
theorem gX4_joinGroup_X5_takeFrom : GoodIn wsX4_joinGroup (wsV RX4 122 RX5 yX5_takeFrom wsX5_takeFrom) := goodIn_app (goodIn_of _ (by decide +kernel)) ggX4_joinGroup_X5_takeFrom
set_option maxRecDepth 20000 in
theorem ggX4_joinGroup_X5_append : GoodIn wsX4_joinGroup wsX5_append := goodIn_r _ [87, 17, 23, 22, 88, 89, 90, 91, 108, 109, 110, 111] (by decide +kernel) (by decide +kernel)
set_option maxRecDepth 20000 in
theorem gX4_joinGroup_X5_append : GoodIn wsX4_joinGroup (wsV RX4 152 RX5 yX5_append wsX5_append) := goodIn_app (goodIn_of _ (by decide +kernel)) ggX4_joinGroup_X5_append
set_option maxRecDepth 20000 in
theorem ggX4_readBeat_X5_reset : GoodIn wsX4_readBeat wsX5_reset := goodIn_r _ [8, 9, 10, 11, 12, 13, 14, 15, 16, 17, 18, 19, 20, 21, 22, 89, 90, 91, 92] (by decide +kernel) (by decide +kernel)
set_option maxRecDepth 20000 in
theorem gX4_readBeat_X5_reset : GoodIn wsX4_readBeat (wsV RX4 177 RX5 yX5_reset wsX5_reset) := goodIn_app (goodIn_of _ (by decide +kernel)) ggX4_readBeat_X5_reset
set_option maxRecDepth 20000 in
theorem ggX4_readBeat_X4_expect : GoodIn wsX4_readBeat wsX4_expect := goodIn_r _ [27, 3, 28, 29, 30, 26, 31, 32, 33, 34, 35, 36, 37, 38, 39, 40, 41, 42, 43, 44, 45, 46, 47, 68, 69, 70, 71, 72, 73, 74, 75, 76, 77, 78, 79, 80, 81, 82, 83, 84, 85, 86, 87, 88] (by decide +kernel) (by decide +kernel)
set_option maxRecDepth 20000 in
theorem gX4_readBeat_X4_expect : GoodIn wsX4_readBeat (wsV RX4 116 RX4 yX4_expect wsX4_expect) := goodIn_app (goodIn_of _ (by decide +kernel)) ggX4_readBeat_X4_expect
set_option maxRecDepth 20000 in
theorem ggX4_readBeat_X8_advance : GoodIn wsX4_readBeat wsX8_advance := goodIn_r _ [38, 39, 40, 41, 42, 43, 44, 45, 46, 47, 79, 80, 81, 82, 83, 84, 85, 86, 87, 88] (by decide +kernel) (by decide +kernel)
set_option maxRecDepth 20000 in
theorem gX4_readBeat_X8_advance : GoodIn wsX4_readBeat (wsV RX4 110 RX8 yX8_advance wsX8_advance) := goodIn_app (goodIn_of _ (by decide +kernel)) ggX4_readBeat_X8_advance
set_option maxRecDepth 20000 in
theorem ggX4_readBeat_X4_readThrow : GoodIn wsX4_readBeat wsX4_readThrow := goodIn_r _ [51, 3, 2, 1, 28, 29, 30, 26, 31, 32, 33, 34, 35, 36, 37, 38, 39, 40, 41, 42, 43, 44, 45, 46, 47, 52, 53, 54, 7, 55, 10, 9, 68, 69, 70, 71, 72, 73, 74, 75, 76, 77, 78, 79, 80, 81, 82, 83, 84, 85, 86, 87, 88, 89, 90, 91, 92] (by decide +kernel) (by decide +kernel)
set_option maxRecDepth 20000 in
theorem gX4_readBeat_X4_readThrow : GoodIn wsX4_readBeat (wsV RX4 181 RX4 yX4_readThrow wsX4_readThrow) := goodIn_app (goodIn_of _ (by decide +kernel)) ggX4_readBeat_X4_readThrow
set_option maxRecDepth 20000 in
theorem ggX4_readBeat_X5_append : GoodIn wsX4_readBeat wsX5_append := goodIn_r _ [59, 18, 10, 9, 60, 61, 62, 63, 89, 90, 91, 92] (by decide +kernel) (by decide +kernel)
set_option maxRecDepth 20000 in
theorem gX4_readBeat_X5_append : GoodIn wsX4_readBeat (wsV RX4 152 RX5 yX5_append wsX5_append) := goodIn_app (goodIn_of _ (by decide +kernel)) ggX4_readBeat_X5_append
set_option maxRecDepth 20000 in
theorem ggX4_readBeat_X4_failBehind : GoodIn wsX4_readBeat wsX4_failBehind := goodIn_r _ [67, 32, 3, 33, 68, 69, 70, 71, 72, 73, 74, 75, 76, 77, 78, 79, 80, 81, 82, 83, 84, 85, 86, 87, 88] (by decide +kernel) (by decide +kernel)
set_option maxRecDepth 20000 in
theorem gX4_readBeat_X4_failBehind : GoodIn wsX4_readBeat (wsV RX4 160 RX4 yX4_failBehind wsX4_failBehind) := goodIn_app (goodIn_of _ (by decide +kernel)) ggX4_readBeat_X4_failBehind
set_option maxRecDepth 20000 in
theorem ggX4_readThrow_X4_fail : GoodIn wsX4_readThrow wsX4_fail := goodIn_r _ [8, 9, 1, 10, 32, 33, 34, 35, 36, 37, 38, 39, 40, 41, 42, 43, 44, 45, 46, 47, 48, 49, 50, 51, 52] (by decide +kernel) (by decide +kernel)
set_option maxRecDepth 20000 in
theorem gX4_readThrow_X4_fail : GoodIn wsX4_readThrow (wsV RX4 80 RX4 yX4_fail wsX4_fail) := goodIn_app (goodIn_of _ (by decide +kernel)) ggX4_readThrow_X4_fail
set_option maxRecDepth 20000 in
theorem ggX4_readThrow_X8_advance : GoodIn wsX4_readThrow wsX8_advance := goodIn_r _ [15, 16, 17, 18, 19, 20, 21, 22, 23, 24, 43, 44, 45, 46, 47, 48, 49, 50, 51, 52] (by decide +kernel) (by decide +kernel)
set_option maxRecDepth 20000 in
theorem gX4_readThrow_X8_advance : GoodIn wsX4_readThrow (wsV RX4 110 RX8 yX8_advance wsX8_advance) := goodIn_app (goodIn_of _ (by decide +kernel)) ggX4_readThrow_X8_advance
set_option maxRecDepth 20000 in
theorem ggX4_readThrow_X5_put : GoodIn wsX4_readThrow wsX5_put := goodIn_r _ [29, 30, 31, 53, 54, 55, 56] (by decide +kernel) (by decide +kernel)
set_option maxRecDepth 20000 in
theorem gX4_readThrow_X5_put : GoodIn wsX4_readThrow (wsV RX4 184 RX5 yX5_put wsX5_put) := goodIn_app (goodIn_of _ (by decide +kernel)) ggX4_readThrow_X5_put
set_option maxRecDepth 100000 in
set_option maxHeartbeats 4000000 in
theorem t_X8_isLetter (l : Launch) (D : va_G) (cI cR cM : ClassId) (sz : Nat) {x : Int32}   : Met l yX8_isLetter wsX8_isLetter ({ frames := 0, cells := 0, slots := 0, locals := 0 }) (P0 D cI cR cM [.int x] sz []) (QP (fun r => (r.toInt = 0 ∨ r.toInt = 1)) sz) 0 0 (va_A [] sz) := by
  refine go (cc := cX8_isLetter) (maxL := 1) (ret := (some .boolean)) (by decide +kernel) rfl (Nat.le_of_ble_eq_true rfl) ?_
  intro p e s m below meth c ls args Q hQ hsz hx hb hr hml hts hown hlocks hnm hP hK hD hl
  subst hsz
  have hS : va_S (va_A [] s.heap.size) s.heap s.heap [] := va_S.rf
  have hA : ∀ q, s.heap.size ≤ q → va_A [] s.heap.size q := fun q h => Or.inr h
  have hl : lv_has ls 1 [(0, .int x)] := hl
  refine lv_iload_n hx hb dX8_isLetter_0 rfl (lv_at hl 0 rfl) ?_
  refine lv_bipush (v := 97) hx hb dX8_isLetter_1 (by decide) ?_
  refine a_icmp_lt (u := x.toInt) (v := 97) (tgt := 12) hx hb dX8_isLetter_3 (by decide) (rfl) (by decide) (fun c_1 => ?_) (fun c_1 => ?_)
  · refine lv_iload_n hx hb dX8_isLetter_12 rfl (lv_at hl 0 rfl) ?_
    refine lv_bipush (v := 65) hx hb dX8_isLetter_13 (by decide) ?_
    refine a_icmp_lt (u := x.toInt) (v := 65) (tgt := 28) hx hb dX8_isLetter_15 (by decide) (rfl) (by decide) (fun c_2 => ?_) (fun c_2 => ?_)
    · refine lv_iconst (v := 0) hx hb dX8_isLetter_28 (by decide) ?_
      have hz_3 : (0 : Int32).toInt = 0 := by decide
      exact rp_zret hx hb hr hlocks hS (by first | exact Or.inl rfl | exact Or.inr rfl) (show (0 : Int32).toInt = 0 ∨ (0 : Int32).toInt = 1 from (by first | assumption | omega)) hQ dX8_isLetter_29
    · refine lv_iload_n hx hb dX8_isLetter_18 rfl (lv_at hl 0 rfl) ?_
      refine lv_bipush (v := 90) hx hb dX8_isLetter_19 (by decide) ?_
      refine a_icmp_gt (u := x.toInt) (v := 90) (tgt := 28) hx hb dX8_isLetter_21 (by decide) (rfl) (by decide) (fun c_4 => ?_) (fun c_4 => ?_)
      · refine lv_iconst (v := 0) hx hb dX8_isLetter_28 (by decide) ?_
        have hz_5 : (0 : Int32).toInt = 0 := by decide
        exact rp_zret hx hb hr hlocks hS (by first | exact Or.inl rfl | exact Or.inr rfl) (show (0 : Int32).toInt = 0 ∨ (0 : Int32).toInt = 1 from (by first | assumption | omega)) hQ dX8_isLetter_29
      · refine lv_iconst (v := 1) hx hb dX8_isLetter_24 (by decide) ?_
        refine lv_goto (tgt := 29) hx hb dX8_isLetter_25 (by decide) ?_
        have hz_6 : (1 : Int32).toInt = 1 := by decide
        exact rp_zret hx hb hr hlocks hS (by first | exact Or.inl rfl | exact Or.inr rfl) (show (1 : Int32).toInt = 0 ∨ (1 : Int32).toInt = 1 from (by first | assumption | omega)) hQ dX8_isLetter_29
  · refine lv_iload_n hx hb dX8_isLetter_6 rfl (lv_at hl 0 rfl) ?_
    refine lv_bipush (v := 122) hx hb dX8_isLetter_7 (by decide) ?_
    refine a_icmp_le (u := x.toInt) (v := 122) (tgt := 24) hx hb dX8_isLetter_9 (by decide) (rfl) (by decide) (fun c_7 => ?_) (fun c_7 => ?_)
    · refine lv_iconst (v := 1) hx hb dX8_isLetter_24 (by decide) ?_
      refine lv_goto (tgt := 29) hx hb dX8_isLetter_25 (by decide) ?_
      have hz_8 : (1 : Int32).toInt = 1 := by decide
      exact rp_zret hx hb hr hlocks hS (by first | exact Or.inl rfl | exact Or.inr rfl) (show (1 : Int32).toInt = 0 ∨ (1 : Int32).toInt = 1 from (by first | assumption | omega)) hQ dX8_isLetter_29
    · refine lv_iload_n hx hb dX8_isLetter_12 rfl (lv_at hl 0 rfl) ?_
      refine lv_bipush (v := 65) hx hb dX8_isLetter_13 (by decide) ?_
      refine a_icmp_lt (u := x.toInt) (v := 65) (tgt := 28) hx hb dX8_isLetter_15 (by decide) (rfl) (by decide) (fun c_9 => ?_) (fun c_9 => ?_)
      · refine lv_iconst (v := 0) hx hb dX8_isLetter_28 (by decide) ?_
        have hz_10 : (0 : Int32).toInt = 0 := by decide
        exact rp_zret hx hb hr hlocks hS (by first | exact Or.inl rfl | exact Or.inr rfl) (show (0 : Int32).toInt = 0 ∨ (0 : Int32).toInt = 1 from (by first | assumption | omega)) hQ dX8_isLetter_29
      · refine lv_iload_n hx hb dX8_isLetter_18 rfl (lv_at hl 0 rfl) ?_
        refine lv_bipush (v := 90) hx hb dX8_isLetter_19 (by decide) ?_
        refine a_icmp_gt (u := x.toInt) (v := 90) (tgt := 28) hx hb dX8_isLetter_21 (by decide) (rfl) (by decide) (fun c_11 => ?_) (fun c_11 => ?_)
        · refine lv_iconst (v := 0) hx hb dX8_isLetter_28 (by decide) ?_
          have hz_12 : (0 : Int32).toInt = 0 := by decide
          exact rp_zret hx hb hr hlocks hS (by first | exact Or.inl rfl | exact Or.inr rfl) (show (0 : Int32).toInt = 0 ∨ (0 : Int32).toInt = 1 from (by first | assumption | omega)) hQ dX8_isLetter_29
        · refine lv_iconst (v := 1) hx hb dX8_isLetter_24 (by decide) ?_
          refine lv_goto (tgt := 29) hx hb dX8_isLetter_25 (by decide) ?_
          have hz_13 : (1 : Int32).toInt = 1 := by decide
          exact rp_zret hx hb hr hlocks hS (by first | exact Or.inl rfl | exact Or.inr rfl) (show (1 : Int32).toInt = 0 ∨ (1 : Int32).toInt = 1 from (by first | assumption | omega)) hQ dX8_isLetter_29
set_option maxRecDepth 100000 in
set_option maxHeartbeats 4000000 in
theorem t_X8_advance (l : Launch) (D : va_G) (cI cR cM : ClassId) (sz : Nat) {jn : Nat} {g : Nat → Nat} {L : List Nat} {S : Sg} {f : Nat → va_E}  (hj : 1 ≤ jn ∧ jn ≤ 3) (hG : SG g L S) (hI : IN jn cI cR cM g L S f) (hTK : TK g cI f) : Met l yX8_advance wsX8_advance ({ frames := 0, cells := 0, slots := 0, locals := 0 }) (P0 D cI cR cM [.ref (g 14)] sz (va_pl L f)) (QG (S := Nat → va_E) (fun u => none) (fun u => va_pl L u) (fun u => IN jn cI cR cM g L S u ∧ FR S [14] f u ∧ (TK g cI u)) D (va_A (va_pl L f) sz)) 0 0 (va_A (va_pl L f) sz) := by
  refine go (cc := cX8_advance) (maxL := 1) (ret := none) (by decide +kernel) rfl (Nat.le_of_ble_eq_true rfl) ?_
  intro p e s m below meth c ls args Q hQ hsz hx hb hr hml hts hown hlocks hnm hP hK hD hl
  subst hsz
  have hD := hD.self (sz := s.heap.size)
  generalize hAe : va_A (va_pl L f) s.heap.size = A at hD hQ
  have hA : ∀ q, s.heap.size ≤ q → A q := fun q h => by rw [← hAe]; exact Or.inr h
  have hS : va_S A s.heap s.heap [] := va_S.rf
  have hF : FR S [14] f f := FR_rf
  have hl : lv_has ls 1 [(0, .ref (g 14))] := hl
  obtain ⟨cnt_1, nx_1, kd_1, vl_1, st_1, ls_1, fg_1, iv0_1, iv1_1, iv2_1⟩ := op_14 hI (gm_14 hG) (gs_14 hG)
  obtain ⟨c_2, fg_2⟩ := op_31 hI (gm_31 hG) (gs_31 hG)
  obtain ⟨c_3, fg_3⟩ := op_32 hI (gm_32 hG) (gs_32 hG)
  obtain ⟨tk1, tk2⟩ := hTK _ _ _ _ _ _ _ _ fg_1 fg_2 fg_3
  refine lv_aload_n hx hb dX8_advance_0 rfl (lv_at hl 0 rfl) ?_
  refine lv_aload_n hx hb dX8_advance_1 rfl (lv_at hl 0 rfl) ?_
  refine t_get (D := D) (L := L) (f := f) (ci := 8) (v := .int st_1) (C := RX8) (T := TX8) (N := 10) hx hb hts (by decide +kernel) hown hK.1 hP (gm_14 hG) fg_1 rfl 8 (by decide) (hts (.fieldLink RX8 56 "JugglingHall$Tokens" "start" "I") (by decide +kernel)) (fun _ h9 => h9) rfl dX8_advance_2 ?_
  refine t_put (D := D) (L := L) (f := f) (ci := 8) (v := .int st_1) (ty := .int) (C := RX8) (T := TX8) (N := 10) hx hb hts (by decide +kernel) tyX8 tyX8_ok nmX8 hown hK.1 hP hD hS (gm_14 hG) fg_1 rfl 9 (by decide) (hts (.fieldLink RX8 62 "JugglingHall$Tokens" "lastStart" "I") (by decide +kernel)) (fun _ h9 => h9) rfl (by decide +kernel) rfl rfl (Nat.le_of_ble_eq_true rfl) dX8_advance_5 (fun f_4 H locs e9_4 o_4 hP hD hS => ?_)
  have fa_4 : f_4 (g 14) = .inr (8, [.ref (g 11), .ref (g 31), .ref (g 32), .ref (g 33), .int cnt_1, .int nx_1, .int kd_1, .int vl_1, .int st_1, .int st_1]) := e9_4
  have hI := IN_set (e := .inr (8, [.ref (g 11), .ref (g 31), .ref (g 32), .ref (g 33), .int cnt_1, .int nx_1, .int kd_1, .int vl_1, .int st_1, .int st_1])) hI (gs_14 hG) (mk_14 (by first | assumption | omega) (by first | assumption | omega) (by first | assumption | omega)) fa_4 o_4
  have hF := FR_set hF (gs_14 hG) (show (14 : Nat) ∈ ([14] : List Nat) by decide) o_4
  have fb_5 : f_4 (g 31) = .inl (cI, 301, .inl c_2) := f_at o_4 (S_ne (gs_31 hG) (gs_14 hG) (show (31 : Nat) ≠ 14 by decide)) fg_2
  have fb_6 : f_4 (g 32) = .inl (cI, 301, .inl c_3) := f_at o_4 (S_ne (gs_32 hG) (gs_14 hG) (show (32 : Nat) ≠ 14 by decide)) fg_3
  refine lv_aload_n hx hb dX8_advance_8 rfl (lv_at hl 0 rfl) ?_
  refine t_get (D := D) (L := L) (f := f_4) (ci := 8) (v := .int nx_1) (C := RX8) (T := TX8) (N := 10) hx hb hts (by decide +kernel) hown hK.1 hP (gm_14 hG) fa_4 rfl 5 (by decide) (hts (.fieldLink RX8 53 "JugglingHall$Tokens" "next" "I") (by decide +kernel)) (fun _ h9 => h9) rfl dX8_advance_9 ?_
  refine lv_aload_n hx hb dX8_advance_12 rfl (lv_at hl 0 rfl) ?_
  refine t_get (D := D) (L := L) (f := f_4) (ci := 8) (v := .int cnt_1) (C := RX8) (T := TX8) (N := 10) hx hb hts (by decide +kernel) hown hK.1 hP (gm_14 hG) fa_4 rfl 4 (by decide) (hts (.fieldLink RX8 25 "JugglingHall$Tokens" "count" "I") (by decide +kernel)) (fun _ h9 => h9) rfl dX8_advance_13 ?_
  refine a_icmp_ge (u := nx_1.toInt) (v := cnt_1.toInt) (tgt := 68) hx hb dX8_advance_16 (by decide) (rfl) (rfl) (fun c_7 => ?_) (fun c_7 => ?_)
  · have hTKr_8 : TK g cI f_4 := by
      intro cnt9 nx9 kd9 vl9 st9 ls9 ck9 cv9 h14 h31 h32
      rw [fa_4] at h14
      rw [fb_5] at h31
      rw [fb_6] at h32
      cases h14
      cases h31
      cases h32
      refine ⟨?_, ?_⟩
      · first | exact tk1 | (intro h9; have h8 := tk2 nx_1.toInt (by omega) (by omega) (by omega); omega)
      · exact tk2
    exact g_vret f_4 hx hb hr hlocks hS rfl (⟨hI, hF, show TK g cI f_4 from (by first | assumption | omega)⟩) hP hD hQ (Nat.le_of_ble_eq_true rfl) (Nat.le_of_ble_eq_true rfl) dX8_advance_68
  · refine lv_aload_n hx hb dX8_advance_19 rfl (lv_at hl 0 rfl) ?_
    refine lv_aload_n hx hb dX8_advance_20 rfl (lv_at hl 0 rfl) ?_
    refine t_get (D := D) (L := L) (f := f_4) (ci := 8) (v := .ref (g 31)) (C := RX8) (T := TX8) (N := 10) hx hb hts (by decide +kernel) hown hK.1 hP (gm_14 hG) fa_4 rfl 1 (by decide) (hts (.fieldLink RX8 9 "JugglingHall$Tokens" "kinds" "[I") (by decide +kernel)) (fun _ h9 => h9) rfl dX8_advance_21 ?_
    refine lv_aload_n hx hb dX8_advance_24 rfl (lv_at hl 0 rfl) ?_
    refine t_get (D := D) (L := L) (f := f_4) (ci := 8) (v := .int nx_1) (C := RX8) (T := TX8) (N := 10) hx hb hts (by decide +kernel) hown hK.1 hP (gm_14 hG) fa_4 rfl 5 (by decide) (hts (.fieldLink RX8 53 "JugglingHall$Tokens" "next" "I") (by decide +kernel)) (fun _ h9 => h9) rfl dX8_advance_25 ?_
    refine t_iald (L := L) (f := f_4) (y := c_2) (u := nx_1.toInt) hx hb hK.1 hP (gm_31 hG) 0 fb_5 rfl dX8_advance_28 (rfl) (by omega) (fun z_9 q_9 e_9 => ?_)
    refine t_put (D := D) (L := L) (f := f_4) (ci := 8) (v := .int z_9) (ty := .int) (C := RX8) (T := TX8) (N := 10) hx hb hts (by decide +kernel) tyX8 tyX8_ok nmX8 hown hK.1 hP hD hS (gm_14 hG) fa_4 rfl 6 (by decide) (hts (.fieldLink RX8 65 "JugglingHall$Tokens" "kind" "I") (by decide +kernel)) (fun _ h9 => h9) rfl (by decide +kernel) rfl rfl (Nat.le_of_ble_eq_true rfl) dX8_advance_29 (fun f_10 H locs e9_10 o_10 hP hD hS => ?_)
    have fa_10 : f_10 (g 14) = .inr (8, [.ref (g 11), .ref (g 31), .ref (g 32), .ref (g 33), .int cnt_1, .int nx_1, .int z_9, .int vl_1, .int st_1, .int st_1]) := e9_10
    have hI := IN_set (e := .inr (8, [.ref (g 11), .ref (g 31), .ref (g 32), .ref (g 33), .int cnt_1, .int nx_1, .int z_9, .int vl_1, .int st_1, .int st_1])) hI (gs_14 hG) (mk_14 (by first | assumption | omega) (by first | assumption | omega) (by first | assumption | omega)) fa_10 o_10
    have hF := FR_set hF (gs_14 hG) (show (14 : Nat) ∈ ([14] : List Nat) by decide) o_10
    have fb_11 : f_10 (g 31) = .inl (cI, 301, .inl c_2) := f_at o_10 (S_ne (gs_31 hG) (gs_14 hG) (show (31 : Nat) ≠ 14 by decide)) fb_5
    have fb_12 : f_10 (g 32) = .inl (cI, 301, .inl c_3) := f_at o_10 (S_ne (gs_32 hG) (gs_14 hG) (show (32 : Nat) ≠ 14 by decide)) fb_6
    refine lv_aload_n hx hb dX8_advance_32 rfl (lv_at hl 0 rfl) ?_
    refine lv_aload_n hx hb dX8_advance_33 rfl (lv_at hl 0 rfl) ?_
    refine t_get (D := D) (L := L) (f := f_10) (ci := 8) (v := .ref (g 32)) (C := RX8) (T := TX8) (N := 10) hx hb hts (by decide +kernel) hown hK.1 hP (gm_14 hG) fa_10 rfl 2 (by decide) (hts (.fieldLink RX8 15 "JugglingHall$Tokens" "values" "[I") (by decide +kernel)) (fun _ h9 => h9) rfl dX8_advance_34 ?_
    refine lv_aload_n hx hb dX8_advance_37 rfl (lv_at hl 0 rfl) ?_
    refine t_get (D := D) (L := L) (f := f_10) (ci := 8) (v := .int nx_1) (C := RX8) (T := TX8) (N := 10) hx hb hts (by decide +kernel) hown hK.1 hP (gm_14 hG) fa_10 rfl 5 (by decide) (hts (.fieldLink RX8 53 "JugglingHall$Tokens" "next" "I") (by decide +kernel)) (fun _ h9 => h9) rfl dX8_advance_38 ?_
    refine t_iald (L := L) (f := f_10) (y := c_3) (u := nx_1.toInt) hx hb hK.1 hP (gm_32 hG) 0 fb_12 rfl dX8_advance_41 (rfl) (by omega) (fun z_13 q_13 e_13 => ?_)
    refine t_put (D := D) (L := L) (f := f_10) (ci := 8) (v := .int z_13) (ty := .int) (C := RX8) (T := TX8) (N := 10) hx hb hts (by decide +kernel) tyX8 tyX8_ok nmX8 hown hK.1 hP hD hS (gm_14 hG) fa_10 rfl 7 (by decide) (hts (.fieldLink RX8 68 "JugglingHall$Tokens" "value" "I") (by decide +kernel)) (fun _ h9 => h9) rfl (by decide +kernel) rfl rfl (Nat.le_of_ble_eq_true rfl) dX8_advance_42 (fun f_14 H locs e9_14 o_14 hP hD hS => ?_)
    have fa_14 : f_14 (g 14) = .inr (8, [.ref (g 11), .ref (g 31), .ref (g 32), .ref (g 33), .int cnt_1, .int nx_1, .int z_9, .int z_13, .int st_1, .int st_1]) := e9_14
    have hI := IN_set (e := .inr (8, [.ref (g 11), .ref (g 31), .ref (g 32), .ref (g 33), .int cnt_1, .int nx_1, .int z_9, .int z_13, .int st_1, .int st_1])) hI (gs_14 hG) (mk_14 (by first | assumption | omega) (by first | assumption | omega) (by first | assumption | omega)) fa_14 o_14
    have hF := FR_set hF (gs_14 hG) (show (14 : Nat) ∈ ([14] : List Nat) by decide) o_14
    have fb_15 : f_14 (g 31) = .inl (cI, 301, .inl c_2) := f_at o_14 (S_ne (gs_31 hG) (gs_14 hG) (show (31 : Nat) ≠ 14 by decide)) fb_11
    have fb_16 : f_14 (g 32) = .inl (cI, 301, .inl c_3) := f_at o_14 (S_ne (gs_32 hG) (gs_14 hG) (show (32 : Nat) ≠ 14 by decide)) fb_12
    refine lv_aload_n hx hb dX8_advance_45 rfl (lv_at hl 0 rfl) ?_
    refine lv_aload_n hx hb dX8_advance_46 rfl (lv_at hl 0 rfl) ?_
    refine t_get (D := D) (L := L) (f := f_14) (ci := 8) (v := .ref (g 33)) (C := RX8) (T := TX8) (N := 10) hx hb hts (by decide +kernel) hown hK.1 hP (gm_14 hG) fa_14 rfl 3 (by decide) (hts (.fieldLink RX8 18 "JugglingHall$Tokens" "starts" "[I") (by decide +kernel)) (fun _ h9 => h9) rfl dX8_advance_47 ?_
    refine lv_aload_n hx hb dX8_advance_50 rfl (lv_at hl 0 rfl) ?_
    refine t_get (D := D) (L := L) (f := f_14) (ci := 8) (v := .int nx_1) (C := RX8) (T := TX8) (N := 10) hx hb hts (by decide +kernel) hown hK.1 hP (gm_14 hG) fa_14 rfl 5 (by decide) (hts (.fieldLink RX8 53 "JugglingHall$Tokens" "next" "I") (by decide +kernel)) (fun _ h9 => h9) rfl dX8_advance_51 ?_
    obtain ⟨c_17, fg_17⟩ := op_33 hI (gm_33 hG) (gs_33 hG)
    refine t_iald (L := L) (f := f_14) (y := c_17) (u := nx_1.toInt) hx hb hK.1 hP (gm_33 hG) 0 fg_17 rfl dX8_advance_54 (rfl) (by omega) (fun z_18 q_18 e_18 => ?_)
    refine t_put (D := D) (L := L) (f := f_14) (ci := 8) (v := .int z_18) (ty := .int) (C := RX8) (T := TX8) (N := 10) hx hb hts (by decide +kernel) tyX8 tyX8_ok nmX8 hown hK.1 hP hD hS (gm_14 hG) fa_14 rfl 8 (by decide) (hts (.fieldLink RX8 56 "JugglingHall$Tokens" "start" "I") (by decide +kernel)) (fun _ h9 => h9) rfl (by decide +kernel) rfl rfl (Nat.le_of_ble_eq_true rfl) dX8_advance_55 (fun f_19 H locs e9_19 o_19 hP hD hS => ?_)
    have fa_19 : f_19 (g 14) = .inr (8, [.ref (g 11), .ref (g 31), .ref (g 32), .ref (g 33), .int cnt_1, .int nx_1, .int z_9, .int z_13, .int z_18, .int st_1]) := e9_19
    have hI := IN_set (e := .inr (8, [.ref (g 11), .ref (g 31), .ref (g 32), .ref (g 33), .int cnt_1, .int nx_1, .int z_9, .int z_13, .int z_18, .int st_1])) hI (gs_14 hG) (mk_14 (by first | assumption | omega) (by first | assumption | omega) (by first | assumption | omega)) fa_19 o_19
    have hF := FR_set hF (gs_14 hG) (show (14 : Nat) ∈ ([14] : List Nat) by decide) o_19
    have fb_20 : f_19 (g 31) = .inl (cI, 301, .inl c_2) := f_at o_19 (S_ne (gs_31 hG) (gs_14 hG) (show (31 : Nat) ≠ 14 by decide)) fb_15
    have fb_21 : f_19 (g 32) = .inl (cI, 301, .inl c_3) := f_at o_19 (S_ne (gs_32 hG) (gs_14 hG) (show (32 : Nat) ≠ 14 by decide)) fb_16
    have fb_22 : f_19 (g 33) = .inl (cI, 301, .inl c_17) := f_at o_19 (S_ne (gs_33 hG) (gs_14 hG) (show (33 : Nat) ≠ 14 by decide)) fg_17
    refine lv_aload_n hx hb dX8_advance_58 rfl (lv_at hl 0 rfl) ?_
    refine lv_dup hx hb dX8_advance_59 rfl ?_
    refine t_get (D := D) (L := L) (f := f_19) (ci := 8) (v := .int nx_1) (C := RX8) (T := TX8) (N := 10) hx hb hts (by decide +kernel) hown hK.1 hP (gm_14 hG) fa_19 rfl 5 (by decide) (hts (.fieldLink RX8 53 "JugglingHall$Tokens" "next" "I") (by decide +kernel)) (fun _ h9 => h9) rfl dX8_advance_60 ?_
    refine lv_iconst (v := 1) hx hb dX8_advance_63 (by decide) ?_
    refine a_iadd (u := nx_1.toInt) (v := 1) hx hb dX8_advance_64 (rfl) (by decide) (by omega) (fun z_23 e_23 => ?_)
    refine t_put (D := D) (L := L) (f := f_19) (ci := 8) (v := .int z_23) (ty := .int) (C := RX8) (T := TX8) (N := 10) hx hb hts (by decide +kernel) tyX8 tyX8_ok nmX8 hown hK.1 hP hD hS (gm_14 hG) fa_19 rfl 5 (by decide) (hts (.fieldLink RX8 53 "JugglingHall$Tokens" "next" "I") (by decide +kernel)) (fun _ h9 => h9) rfl (by decide +kernel) rfl rfl (Nat.le_of_ble_eq_true rfl) dX8_advance_65 (fun f_24 H locs e9_24 o_24 hP hD hS => ?_)
    have fa_24 : f_24 (g 14) = .inr (8, [.ref (g 11), .ref (g 31), .ref (g 32), .ref (g 33), .int cnt_1, .int z_23, .int z_9, .int z_13, .int z_18, .int st_1]) := e9_24
    have hI := IN_set (e := .inr (8, [.ref (g 11), .ref (g 31), .ref (g 32), .ref (g 33), .int cnt_1, .int z_23, .int z_9, .int z_13, .int z_18, .int st_1])) hI (gs_14 hG) (mk_14 (by first | assumption | omega) (by first | assumption | omega) (by first | assumption | omega)) fa_24 o_24
    have hF := FR_set hF (gs_14 hG) (show (14 : Nat) ∈ ([14] : List Nat) by decide) o_24
    have fb_25 : f_24 (g 31) = .inl (cI, 301, .inl c_2) := f_at o_24 (S_ne (gs_31 hG) (gs_14 hG) (show (31 : Nat) ≠ 14 by decide)) fb_20
    have fb_26 : f_24 (g 32) = .inl (cI, 301, .inl c_3) := f_at o_24 (S_ne (gs_32 hG) (gs_14 hG) (show (32 : Nat) ≠ 14 by decide)) fb_21
    have fb_27 : f_24 (g 33) = .inl (cI, 301, .inl c_17) := f_at o_24 (S_ne (gs_33 hG) (gs_14 hG) (show (33 : Nat) ≠ 14 by decide)) fb_22
    have hTKr_28 : TK g cI f_24 := by
      intro cnt9 nx9 kd9 vl9 st9 ls9 ck9 cv9 h14 h31 h32
      rw [fa_24] at h14
      rw [fb_25] at h31
      rw [fb_26] at h32
      cases h14
      cases h31
      cases h32
      refine ⟨?_, ?_⟩
      · first | exact tk1 | (intro h9; have h8 := tk2 nx_1.toInt (by omega) (by omega) (by omega); omega)
      · exact tk2
    exact g_vret f_24 hx hb hr hlocks hS rfl (⟨hI, hF, show TK g cI f_24 from (by first | assumption | omega)⟩) hP hD hQ (Nat.le_of_ble_eq_true rfl) (Nat.le_of_ble_eq_true rfl) dX8_advance_68
set_option maxRecDepth 100000 in
set_option maxHeartbeats 4000000 in
theorem t_X8_keep (l : Launch) (D : va_G) (cI cR cM : ClassId) (sz : Nat) {jn : Nat} {g : Nat → Nat} {L : List Nat} {S : Sg} {f : Nat → va_E} {x y v : Int32}  (hj : 1 ≤ jn ∧ jn ≤ 3) (hG : SG g L S) (hI : IN jn cI cR cM g L S f) (hw0 : x.toInt = 2 → 0 ≤ y.toInt ∧ y.toInt ≤ 9) (hTK : TK g cI f) : Met l yX8_keep wsX8_keep ({ frames := 0, cells := 0, slots := 0, locals := 0 }) (P0 D cI cR cM [.ref (g 14), .int x, .int y, .int v] sz (va_pl L f)) (QG (S := Nat → va_E) (fun u => none) (fun u => va_pl L u) (fun u => IN jn cI cR cM g L S u ∧ FR S [14, 31, 32, 33] f u ∧ (TK g cI u)) D (va_A (va_pl L f) sz)) 0 0 (va_A (va_pl L f) sz) := by
  refine go (cc := cX8_keep) (maxL := 4) (ret := none) (by decide +kernel) rfl (Nat.le_of_ble_eq_true rfl) ?_
  intro p e s m below meth c ls args Q hQ hsz hx hb hr hml hts hown hlocks hnm hP hK hD hl
  subst hsz
  have hD := hD.self (sz := s.heap.size)
  generalize hAe : va_A (va_pl L f) s.heap.size = A at hD hQ
  have hA : ∀ q, s.heap.size ≤ q → A q := fun q h => by rw [← hAe]; exact Or.inr h
  have hS : va_S A s.heap s.heap [] := va_S.rf
  have hF : FR S [14, 31, 32, 33] f f := FR_rf
  have hl : lv_has ls 4 [(0, .ref (g 14)), (1, .int x), (2, .int y), (3, .int v)] := hl
  obtain ⟨cnt_1, nx_1, kd_1, vl_1, st_1, ls_1, fg_1, iv0_1, iv1_1, iv2_1⟩ := op_14 hI (gm_14 hG) (gs_14 hG)
  obtain ⟨c_2, fg_2⟩ := op_31 hI (gm_31 hG) (gs_31 hG)
  obtain ⟨c_3, fg_3⟩ := op_32 hI (gm_32 hG) (gs_32 hG)
  obtain ⟨tk1, tk2⟩ := hTK _ _ _ _ _ _ _ _ fg_1 fg_2 fg_3
  refine lv_aload_n hx hb dX8_keep_0 rfl (lv_at hl 0 rfl) ?_
  refine t_get (D := D) (L := L) (f := f) (ci := 8) (v := .int cnt_1) (C := RX8) (T := TX8) (N := 10) hx hb hts (by decide +kernel) hown hK.1 hP (gm_14 hG) fg_1 rfl 4 (by decide) (hts (.fieldLink RX8 25 "JugglingHall$Tokens" "count" "I") (by decide +kernel)) (fun _ h9 => h9) rfl dX8_keep_1 ?_
  refine lv_aload_n hx hb dX8_keep_4 rfl (lv_at hl 0 rfl) ?_
  refine t_get (D := D) (L := L) (f := f) (ci := 8) (v := .ref (g 31)) (C := RX8) (T := TX8) (N := 10) hx hb hts (by decide +kernel) hown hK.1 hP (gm_14 hG) fg_1 rfl 1 (by decide) (hts (.fieldLink RX8 9 "JugglingHall$Tokens" "kinds" "[I") (by decide +kernel)) (fun _ h9 => h9) rfl dX8_keep_5 ?_
  refine t_alen (L := L) (f := f) (v := 301) hx hb hK.1 hP (gm_31 hG) 0 fg_2 rfl rfl dX8_keep_8 ?_
  refine a_icmp_ge (u := cnt_1.toInt) (v := 301) (tgt := 52) hx hb dX8_keep_9 (by decide) (rfl) (by decide) (fun c_4 => ?_) (fun c_4 => ?_)
  · have hTKr_5 : TK g cI f := by
      intro cnt9 nx9 kd9 vl9 st9 ls9 ck9 cv9 h14 h31 h32
      rw [fg_1] at h14
      rw [fg_2] at h31
      rw [fg_3] at h32
      cases h14
      cases h31
      cases h32
      refine ⟨?_, ?_⟩
      · exact tk1
      · exact tk2
    exact g_vret f hx hb hr hlocks hS rfl (⟨hI, hF, show TK g cI f from (by first | assumption | omega)⟩) hP hD hQ (Nat.le_of_ble_eq_true rfl) (Nat.le_of_ble_eq_true rfl) dX8_keep_52
  · refine lv_aload_n hx hb dX8_keep_12 rfl (lv_at hl 0 rfl) ?_
    refine t_get (D := D) (L := L) (f := f) (ci := 8) (v := .ref (g 31)) (C := RX8) (T := TX8) (N := 10) hx hb hts (by decide +kernel) hown hK.1 hP (gm_14 hG) fg_1 rfl 1 (by decide) (hts (.fieldLink RX8 9 "JugglingHall$Tokens" "kinds" "[I") (by decide +kernel)) (fun _ h9 => h9) rfl dX8_keep_13 ?_
    refine lv_aload_n hx hb dX8_keep_16 rfl (lv_at hl 0 rfl) ?_
    refine t_get (D := D) (L := L) (f := f) (ci := 8) (v := .int cnt_1) (C := RX8) (T := TX8) (N := 10) hx hb hts (by decide +kernel) hown hK.1 hP (gm_14 hG) fg_1 rfl 4 (by decide) (hts (.fieldLink RX8 25 "JugglingHall$Tokens" "count" "I") (by decide +kernel)) (fun _ h9 => h9) rfl dX8_keep_17 ?_
    refine lv_iload_n hx hb dX8_keep_20 rfl (lv_at hl 1 rfl) ?_
    refine t_iast (L := L) (f := f) (h := c_2) (u := cnt_1.toInt) hx hb hK.1 hP hD hS (gm_31 hG) 0 fg_2 rfl dX8_keep_21 (rfl) (by omega) (fun g_6 f_6 H locs eg_6 e9_6 o_6 hP hD hS => ?_)
    have fa_6 : f_6 (g 31) = .inl (cI, 301, .inl g_6) := e9_6
    have hI := IN_set (e := .inl (cI, 301, .inl g_6)) hI (gs_31 hG) (mk_31) fa_6 o_6
    have hF := FR_set hF (gs_31 hG) (show (31 : Nat) ∈ ([14, 31, 32, 33] : List Nat) by decide) o_6
    have fb_7 : f_6 (g 14) = .inr (8, [.ref (g 11), .ref (g 31), .ref (g 32), .ref (g 33), .int cnt_1, .int nx_1, .int kd_1, .int vl_1, .int st_1, .int ls_1]) := f_at o_6 (S_ne (gs_14 hG) (gs_31 hG) (show (14 : Nat) ≠ 31 by decide)) fg_1
    have fb_8 : f_6 (g 32) = .inl (cI, 301, .inl c_3) := f_at o_6 (S_ne (gs_32 hG) (gs_31 hG) (show (32 : Nat) ≠ 31 by decide)) fg_3
    refine lv_aload_n hx hb dX8_keep_22 rfl (lv_at hl 0 rfl) ?_
    refine t_get (D := D) (L := L) (f := f_6) (ci := 8) (v := .ref (g 32)) (C := RX8) (T := TX8) (N := 10) hx hb hts (by decide +kernel) hown hK.1 hP (gm_14 hG) fb_7 rfl 2 (by decide) (hts (.fieldLink RX8 15 "JugglingHall$Tokens" "values" "[I") (by decide +kernel)) (fun _ h9 => h9) rfl dX8_keep_23 ?_
    refine lv_aload_n hx hb dX8_keep_26 rfl (lv_at hl 0 rfl) ?_
    refine t_get (D := D) (L := L) (f := f_6) (ci := 8) (v := .int cnt_1) (C := RX8) (T := TX8) (N := 10) hx hb hts (by decide +kernel) hown hK.1 hP (gm_14 hG) fb_7 rfl 4 (by decide) (hts (.fieldLink RX8 25 "JugglingHall$Tokens" "count" "I") (by decide +kernel)) (fun _ h9 => h9) rfl dX8_keep_27 ?_
    refine lv_iload_n hx hb dX8_keep_30 rfl (lv_at hl 2 rfl) ?_
    refine t_iast (L := L) (f := f_6) (h := c_3) (u := cnt_1.toInt) hx hb hK.1 hP hD hS (gm_32 hG) 0 fb_8 rfl dX8_keep_31 (rfl) (by omega) (fun g_9 f_9 H locs eg_9 e9_9 o_9 hP hD hS => ?_)
    have fa_9 : f_9 (g 32) = .inl (cI, 301, .inl g_9) := e9_9
    have hI := IN_set (e := .inl (cI, 301, .inl g_9)) hI (gs_32 hG) (mk_32) fa_9 o_9
    have hF := FR_set hF (gs_32 hG) (show (32 : Nat) ∈ ([14, 31, 32, 33] : List Nat) by decide) o_9
    have fb_10 : f_9 (g 14) = .inr (8, [.ref (g 11), .ref (g 31), .ref (g 32), .ref (g 33), .int cnt_1, .int nx_1, .int kd_1, .int vl_1, .int st_1, .int ls_1]) := f_at o_9 (S_ne (gs_14 hG) (gs_32 hG) (show (14 : Nat) ≠ 32 by decide)) fb_7
    have fb_11 : f_9 (g 31) = .inl (cI, 301, .inl g_6) := f_at o_9 (S_ne (gs_31 hG) (gs_32 hG) (show (31 : Nat) ≠ 32 by decide)) fa_6
    refine lv_aload_n hx hb dX8_keep_32 rfl (lv_at hl 0 rfl) ?_
    refine t_get (D := D) (L := L) (f := f_9) (ci := 8) (v := .ref (g 33)) (C := RX8) (T := TX8) (N := 10) hx hb hts (by decide +kernel) hown hK.1 hP (gm_14 hG) fb_10 rfl 3 (by decide) (hts (.fieldLink RX8 18 "JugglingHall$Tokens" "starts" "[I") (by decide +kernel)) (fun _ h9 => h9) rfl dX8_keep_33 ?_
    refine lv_aload_n hx hb dX8_keep_36 rfl (lv_at hl 0 rfl) ?_
    refine t_get (D := D) (L := L) (f := f_9) (ci := 8) (v := .int cnt_1) (C := RX8) (T := TX8) (N := 10) hx hb hts (by decide +kernel) hown hK.1 hP (gm_14 hG) fb_10 rfl 4 (by decide) (hts (.fieldLink RX8 25 "JugglingHall$Tokens" "count" "I") (by decide +kernel)) (fun _ h9 => h9) rfl dX8_keep_37 ?_
    refine lv_iload_n hx hb dX8_keep_40 rfl (lv_at hl 3 rfl) ?_
    obtain ⟨c_12, fg_12⟩ := op_33 hI (gm_33 hG) (gs_33 hG)
    refine t_iast (L := L) (f := f_9) (h := c_12) (u := cnt_1.toInt) hx hb hK.1 hP hD hS (gm_33 hG) 0 fg_12 rfl dX8_keep_41 (rfl) (by omega) (fun g_13 f_13 H locs eg_13 e9_13 o_13 hP hD hS => ?_)
    have fa_13 : f_13 (g 33) = .inl (cI, 301, .inl g_13) := e9_13
    have hI := IN_set (e := .inl (cI, 301, .inl g_13)) hI (gs_33 hG) (mk_33) fa_13 o_13
    have hF := FR_set hF (gs_33 hG) (show (33 : Nat) ∈ ([14, 31, 32, 33] : List Nat) by decide) o_13
    have fb_14 : f_13 (g 14) = .inr (8, [.ref (g 11), .ref (g 31), .ref (g 32), .ref (g 33), .int cnt_1, .int nx_1, .int kd_1, .int vl_1, .int st_1, .int ls_1]) := f_at o_13 (S_ne (gs_14 hG) (gs_33 hG) (show (14 : Nat) ≠ 33 by decide)) fb_10
    have fb_15 : f_13 (g 31) = .inl (cI, 301, .inl g_6) := f_at o_13 (S_ne (gs_31 hG) (gs_33 hG) (show (31 : Nat) ≠ 33 by decide)) fb_11
    have fb_16 : f_13 (g 32) = .inl (cI, 301, .inl g_9) := f_at o_13 (S_ne (gs_32 hG) (gs_33 hG) (show (32 : Nat) ≠ 33 by decide)) fa_9
    refine lv_aload_n hx hb dX8_keep_42 rfl (lv_at hl 0 rfl) ?_
    refine lv_dup hx hb dX8_keep_43 rfl ?_
    refine t_get (D := D) (L := L) (f := f_13) (ci := 8) (v := .int cnt_1) (C := RX8) (T := TX8) (N := 10) hx hb hts (by decide +kernel) hown hK.1 hP (gm_14 hG) fb_14 rfl 4 (by decide) (hts (.fieldLink RX8 25 "JugglingHall$Tokens" "count" "I") (by decide +kernel)) (fun _ h9 => h9) rfl dX8_keep_44 ?_
    refine lv_iconst (v := 1) hx hb dX8_keep_47 (by decide) ?_
    refine a_iadd (u := cnt_1.toInt) (v := 1) hx hb dX8_keep_48 (rfl) (by decide) (by omega) (fun z_17 e_17 => ?_)
    refine t_put (D := D) (L := L) (f := f_13) (ci := 8) (v := .int z_17) (ty := .int) (C := RX8) (T := TX8) (N := 10) hx hb hts (by decide +kernel) tyX8 tyX8_ok nmX8 hown hK.1 hP hD hS (gm_14 hG) fb_14 rfl 4 (by decide) (hts (.fieldLink RX8 25 "JugglingHall$Tokens" "count" "I") (by decide +kernel)) (fun _ h9 => h9) rfl (by decide +kernel) rfl rfl (Nat.le_of_ble_eq_true rfl) dX8_keep_49 (fun f_18 H locs e9_18 o_18 hP hD hS => ?_)
    have fa_18 : f_18 (g 14) = .inr (8, [.ref (g 11), .ref (g 31), .ref (g 32), .ref (g 33), .int z_17, .int nx_1, .int kd_1, .int vl_1, .int st_1, .int ls_1]) := e9_18
    have hI := IN_set (e := .inr (8, [.ref (g 11), .ref (g 31), .ref (g 32), .ref (g 33), .int z_17, .int nx_1, .int kd_1, .int vl_1, .int st_1, .int ls_1])) hI (gs_14 hG) (mk_14 (by first | assumption | omega) (by first | assumption | omega) (by first | assumption | omega)) fa_18 o_18
    have hF := FR_set hF (gs_14 hG) (show (14 : Nat) ∈ ([14, 31, 32, 33] : List Nat) by decide) o_18
    have fb_19 : f_18 (g 31) = .inl (cI, 301, .inl g_6) := f_at o_18 (S_ne (gs_31 hG) (gs_14 hG) (show (31 : Nat) ≠ 14 by decide)) fb_15
    have fb_20 : f_18 (g 32) = .inl (cI, 301, .inl g_9) := f_at o_18 (S_ne (gs_32 hG) (gs_14 hG) (show (32 : Nat) ≠ 14 by decide)) fb_16
    have fb_21 : f_18 (g 33) = .inl (cI, 301, .inl g_13) := f_at o_18 (S_ne (gs_33 hG) (gs_14 hG) (show (33 : Nat) ≠ 14 by decide)) fa_13
    have hTKr_22 : TK g cI f_18 := by
      intro cnt9 nx9 kd9 vl9 st9 ls9 ck9 cv9 h14 h31 h32
      rw [fa_18] at h14
      rw [fb_19] at h31
      rw [fb_20] at h32
      cases h14
      cases h31
      cases h32
      refine ⟨?_, ?_⟩
      · exact tk1
      · intro i i0 i1 i2
        by_cases e9 : i = cnt_1.toInt
        · rw [e9, eg_6, pk_us] at i2
          rw [e9, eg_9, pk_us]
          exact hw0 i2
        · rw [eg_6, un_i i0 (by omega) e9] at i2
          rw [eg_9, un_i i0 (by omega) e9]
          exact tk2 i i0 (by omega) i2
    exact g_vret f_18 hx hb hr hlocks hS rfl (⟨hI, hF, show TK g cI f_18 from (by first | assumption | omega)⟩) hP hD hQ (Nat.le_of_ble_eq_true rfl) (Nat.le_of_ble_eq_true rfl) dX8_keep_52
set_option maxRecDepth 100000 in
set_option maxHeartbeats 4000000 in
theorem t_X4_fail (l : Launch) (D : va_G) (cI cR cM : ClassId) (sz : Nat) {jn : Nat} {g : Nat → Nat} {L : List Nat} {S : Sg} {f : Nat → va_E} {x : Int32}  (hj : 1 ≤ jn ∧ jn ≤ 3) (hG : SG g L S) (hI : IN jn cI cR cM g L S f)  : Met l yX4_fail wsX4_fail ({ frames := 0, cells := 0, slots := 0, locals := 0 }) (P0 D cI cR cM [.ref (g 13), .int x] sz (va_pl L f)) (QG (S := Int32 × (Nat → va_E)) (fun u => some (.int u.1)) (fun u => va_pl L u.2) (fun u => IN jn cI cR cM g L S u.2 ∧ FR S [13] f u.2 ∧ (u.1.toInt = 0) ∧ (u.1.toInt = 0 ∨ u.1.toInt = 1)) D (va_A (va_pl L f) sz)) 0 0 (va_A (va_pl L f) sz) := by
  refine go (cc := cX4_fail) (maxL := 2) (ret := (some .boolean)) (by decide +kernel) rfl (Nat.le_of_ble_eq_true rfl) ?_
  intro p e s m below meth c ls args Q hQ hsz hx hb hr hml hts hown hlocks hnm hP hK hD hl
  subst hsz
  have hD := hD.self (sz := s.heap.size)
  generalize hAe : va_A (va_pl L f) s.heap.size = A at hD hQ
  have hA : ∀ q, s.heap.size ≤ q → A q := fun q h => by rw [← hAe]; exact Or.inr h
  have hS : va_S A s.heap s.heap [] := va_S.rf
  have hF : FR S [13] f f := FR_rf
  have hl : lv_has ls 2 [(0, .ref (g 13)), (1, .int x)] := hl
  refine lv_aload_n hx hb dX4_fail_0 rfl (lv_at hl 0 rfl) ?_
  refine lv_iload_n hx hb dX4_fail_1 rfl (lv_at hl 1 rfl) ?_
  obtain ⟨fa_1, pl_1, fg_1⟩ := op_13 hI (gm_13 hG) (gs_13 hG)
  refine t_put (D := D) (L := L) (f := f) (ci := 4) (v := .int x) (ty := .int) (C := RX4) (T := TX4) (N := 11) hx hb hts (by decide +kernel) tyX4 tyX4_ok nmX4 hown hK.1 hP hD hS (gm_13 hG) fg_1 rfl 9 (by decide) (hts (.fieldLink RX4 31 "JugglingHall$Reader" "fault" "I") (by decide +kernel)) (fun _ h9 => h9) rfl (by decide +kernel) rfl rfl (Nat.le_of_ble_eq_true rfl) dX4_fail_2 (fun f_2 H locs e9_2 o_2 hP hD hS => ?_)
  have fa_2 : f_2 (g 13) = .inr (4, [.int (nI jn), .ref (g 14), .ref (g 12), .ref (g 22), .ref (g 34), .ref (g 23), .ref (g 24), .ref (g 25), .ref (g 26), .int x, .int pl_1]) := e9_2
  have hI := IN_set (e := .inr (4, [.int (nI jn), .ref (g 14), .ref (g 12), .ref (g 22), .ref (g 34), .ref (g 23), .ref (g 24), .ref (g 25), .ref (g 26), .int x, .int pl_1])) hI (gs_13 hG) (mk_13 ) fa_2 o_2
  have hF := FR_set hF (gs_13 hG) (show (13 : Nat) ∈ ([13] : List Nat) by decide) o_2
  refine lv_aload_n hx hb dX4_fail_5 rfl (lv_at hl 0 rfl) ?_
  refine lv_aload_n hx hb dX4_fail_6 rfl (lv_at hl 0 rfl) ?_
  refine t_get (D := D) (L := L) (f := f_2) (ci := 4) (v := .ref (g 14)) (C := RX4) (T := TX4) (N := 11) hx hb hts (by decide +kernel) hown hK.1 hP (gm_13 hG) fa_2 rfl 1 (by decide) (hts (.fieldLink RX4 41 "JugglingHall$Reader" "tokens" "LJugglingHall$Tokens;") (by decide +kernel)) (fun _ h9 => h9) rfl dX4_fail_7 ?_
  obtain ⟨cnt_3, nx_3, kd_3, vl_3, st_3, ls_3, fg_3, iv0_3, iv1_3, iv2_3⟩ := op_14 hI (gm_14 hG) (gs_14 hG)
  refine t_getN (D := D) (L := L) (f := f_2) (ci := 8) (v := .int st_3) (C := RX8) (T := TX8) (N := 10) (host := "JugglingHall") hx hb hts (by decide +kernel) hown hK.1 hP (gm_14 hG) fg_3 rfl 8 (by decide) (hK.nw (.fieldLinkNest RX4 104 "JugglingHall$Tokens" "start" "I" "JugglingHall") (by decide +kernel) rfl) (fun _ h9 => h9) rfl dX4_fail_10 ?_
  refine t_put (D := D) (L := L) (f := f_2) (ci := 4) (v := .int st_3) (ty := .int) (C := RX4) (T := TX4) (N := 11) hx hb hts (by decide +kernel) tyX4 tyX4_ok nmX4 hown hK.1 hP hD hS (gm_13 hG) fa_2 rfl 10 (by decide) (hts (.fieldLink RX4 35 "JugglingHall$Reader" "place" "I") (by decide +kernel)) (fun _ h9 => h9) rfl (by decide +kernel) rfl rfl (Nat.le_of_ble_eq_true rfl) dX4_fail_13 (fun f_4 H locs e9_4 o_4 hP hD hS => ?_)
  have fa_4 : f_4 (g 13) = .inr (4, [.int (nI jn), .ref (g 14), .ref (g 12), .ref (g 22), .ref (g 34), .ref (g 23), .ref (g 24), .ref (g 25), .ref (g 26), .int x, .int st_3]) := e9_4
  have hI := IN_set (e := .inr (4, [.int (nI jn), .ref (g 14), .ref (g 12), .ref (g 22), .ref (g 34), .ref (g 23), .ref (g 24), .ref (g 25), .ref (g 26), .int x, .int st_3])) hI (gs_13 hG) (mk_13 ) fa_4 o_4
  have hF := FR_set hF (gs_13 hG) (show (13 : Nat) ∈ ([13] : List Nat) by decide) o_4
  have fb_5 : f_4 (g 14) = .inr (8, [.ref (g 11), .ref (g 31), .ref (g 32), .ref (g 33), .int cnt_3, .int nx_3, .int kd_3, .int vl_3, .int st_3, .int ls_3]) := f_at o_4 (S_ne (gs_14 hG) (gs_13 hG) (show (14 : Nat) ≠ 13 by decide)) fg_3
  refine lv_iconst (v := 0) hx hb dX4_fail_16 (by decide) ?_
  have hz_6 : (0 : Int32).toInt = 0 := by decide
  exact g_zret ((0 : Int32), f_4) hx hb hr hlocks hS (by first | exact Or.inl rfl | exact Or.inr rfl) rfl (⟨hI, hF, show (0 : Int32).toInt = 0 from (by first | assumption | omega), show (0 : Int32).toInt = 0 ∨ (0 : Int32).toInt = 1 from (by first | assumption | omega)⟩) hP hD hQ (Nat.le_of_ble_eq_true rfl) (Nat.le_of_ble_eq_true rfl) dX4_fail_17
set_option maxRecDepth 100000 in
set_option maxHeartbeats 4000000 in
theorem t_X4_failBehind (l : Launch) (D : va_G) (cI cR cM : ClassId) (sz : Nat) {jn : Nat} {g : Nat → Nat} {L : List Nat} {S : Sg} {f : Nat → va_E} {x : Int32}  (hj : 1 ≤ jn ∧ jn ≤ 3) (hG : SG g L S) (hI : IN jn cI cR cM g L S f)  : Met l yX4_failBehind wsX4_failBehind ({ frames := 0, cells := 0, slots := 0, locals := 0 }) (P0 D cI cR cM [.ref (g 13), .int x] sz (va_pl L f)) (QG (S := Int32 × (Nat → va_E)) (fun u => some (.int u.1)) (fun u => va_pl L u.2) (fun u => IN jn cI cR cM g L S u.2 ∧ FR S [13] f u.2 ∧ (u.1.toInt = 0) ∧ (u.1.toInt = 0 ∨ u.1.toInt = 1)) D (va_A (va_pl L f) sz)) 0 0 (va_A (va_pl L f) sz) := by
  refine go (cc := cX4_failBehind) (maxL := 2) (ret := (some .boolean)) (by decide +kernel) rfl (Nat.le_of_ble_eq_true rfl) ?_
  intro p e s m below meth c ls args Q hQ hsz hx hb hr hml hts hown hlocks hnm hP hK hD hl
  subst hsz
  have hD := hD.self (sz := s.heap.size)
  generalize hAe : va_A (va_pl L f) s.heap.size = A at hD hQ
  have hA : ∀ q, s.heap.size ≤ q → A q := fun q h => by rw [← hAe]; exact Or.inr h
  have hS : va_S A s.heap s.heap [] := va_S.rf
  have hF : FR S [13] f f := FR_rf
  have hl : lv_has ls 2 [(0, .ref (g 13)), (1, .int x)] := hl
  refine lv_aload_n hx hb dX4_failBehind_0 rfl (lv_at hl 0 rfl) ?_
  refine lv_iload_n hx hb dX4_failBehind_1 rfl (lv_at hl 1 rfl) ?_
  obtain ⟨fa_1, pl_1, fg_1⟩ := op_13 hI (gm_13 hG) (gs_13 hG)
  refine t_put (D := D) (L := L) (f := f) (ci := 4) (v := .int x) (ty := .int) (C := RX4) (T := TX4) (N := 11) hx hb hts (by decide +kernel) tyX4 tyX4_ok nmX4 hown hK.1 hP hD hS (gm_13 hG) fg_1 rfl 9 (by decide) (hts (.fieldLink RX4 31 "JugglingHall$Reader" "fault" "I") (by decide +kernel)) (fun _ h9 => h9) rfl (by decide +kernel) rfl rfl (Nat.le_of_ble_eq_true rfl) dX4_failBehind_2 (fun f_2 H locs e9_2 o_2 hP hD hS => ?_)
  have fa_2 : f_2 (g 13) = .inr (4, [.int (nI jn), .ref (g 14), .ref (g 12), .ref (g 22), .ref (g 34), .ref (g 23), .ref (g 24), .ref (g 25), .ref (g 26), .int x, .int pl_1]) := e9_2
  have hI := IN_set (e := .inr (4, [.int (nI jn), .ref (g 14), .ref (g 12), .ref (g 22), .ref (g 34), .ref (g 23), .ref (g 24), .ref (g 25), .ref (g 26), .int x, .int pl_1])) hI (gs_13 hG) (mk_13 ) fa_2 o_2
  have hF := FR_set hF (gs_13 hG) (show (13 : Nat) ∈ ([13] : List Nat) by decide) o_2
  refine lv_aload_n hx hb dX4_failBehind_5 rfl (lv_at hl 0 rfl) ?_
  refine lv_aload_n hx hb dX4_failBehind_6 rfl (lv_at hl 0 rfl) ?_
  refine t_get (D := D) (L := L) (f := f_2) (ci := 4) (v := .ref (g 14)) (C := RX4) (T := TX4) (N := 11) hx hb hts (by decide +kernel) hown hK.1 hP (gm_13 hG) fa_2 rfl 1 (by decide) (hts (.fieldLink RX4 41 "JugglingHall$Reader" "tokens" "LJugglingHall$Tokens;") (by decide +kernel)) (fun _ h9 => h9) rfl dX4_failBehind_7 ?_
  obtain ⟨cnt_3, nx_3, kd_3, vl_3, st_3, ls_3, fg_3, iv0_3, iv1_3, iv2_3⟩ := op_14 hI (gm_14 hG) (gs_14 hG)
  refine t_getN (D := D) (L := L) (f := f_2) (ci := 8) (v := .int ls_3) (C := RX8) (T := TX8) (N := 10) (host := "JugglingHall") hx hb hts (by decide +kernel) hown hK.1 hP (gm_14 hG) fg_3 rfl 9 (by decide) (hK.nw (.fieldLinkNest RX4 107 "JugglingHall$Tokens" "lastStart" "I" "JugglingHall") (by decide +kernel) rfl) (fun _ h9 => h9) rfl dX4_failBehind_10 ?_
  refine t_put (D := D) (L := L) (f := f_2) (ci := 4) (v := .int ls_3) (ty := .int) (C := RX4) (T := TX4) (N := 11) hx hb hts (by decide +kernel) tyX4 tyX4_ok nmX4 hown hK.1 hP hD hS (gm_13 hG) fa_2 rfl 10 (by decide) (hts (.fieldLink RX4 35 "JugglingHall$Reader" "place" "I") (by decide +kernel)) (fun _ h9 => h9) rfl (by decide +kernel) rfl rfl (Nat.le_of_ble_eq_true rfl) dX4_failBehind_13 (fun f_4 H locs e9_4 o_4 hP hD hS => ?_)
  have fa_4 : f_4 (g 13) = .inr (4, [.int (nI jn), .ref (g 14), .ref (g 12), .ref (g 22), .ref (g 34), .ref (g 23), .ref (g 24), .ref (g 25), .ref (g 26), .int x, .int ls_3]) := e9_4
  have hI := IN_set (e := .inr (4, [.int (nI jn), .ref (g 14), .ref (g 12), .ref (g 22), .ref (g 34), .ref (g 23), .ref (g 24), .ref (g 25), .ref (g 26), .int x, .int ls_3])) hI (gs_13 hG) (mk_13 ) fa_4 o_4
  have hF := FR_set hF (gs_13 hG) (show (13 : Nat) ∈ ([13] : List Nat) by decide) o_4
  have fb_5 : f_4 (g 14) = .inr (8, [.ref (g 11), .ref (g 31), .ref (g 32), .ref (g 33), .int cnt_3, .int nx_3, .int kd_3, .int vl_3, .int st_3, .int ls_3]) := f_at o_4 (S_ne (gs_14 hG) (gs_13 hG) (show (14 : Nat) ≠ 13 by decide)) fg_3
  refine lv_iconst (v := 0) hx hb dX4_failBehind_16 (by decide) ?_
  have hz_6 : (0 : Int32).toInt = 0 := by decide
  exact g_zret ((0 : Int32), f_4) hx hb hr hlocks hS (by first | exact Or.inl rfl | exact Or.inr rfl) rfl (⟨hI, hF, show (0 : Int32).toInt = 0 from (by first | assumption | omega), show (0 : Int32).toInt = 0 ∨ (0 : Int32).toInt = 1 from (by first | assumption | omega)⟩) hP hD hQ (Nat.le_of_ble_eq_true rfl) (Nat.le_of_ble_eq_true rfl) dX4_failBehind_17
set_option maxRecDepth 100000 in
set_option maxHeartbeats 4000000 in
theorem t_X4_expect (l : Launch) (D : va_G) (cI cR cM : ClassId) (sz : Nat) {jn : Nat} {g : Nat → Nat} {L : List Nat} {S : Sg} {f : Nat → va_E} {x : Int32}  (hj : 1 ≤ jn ∧ jn ≤ 3) (hG : SG g L S) (hI : IN jn cI cR cM g L S f) (hTK : TK g cI f) : Met l yX4_expect wsX4_expect ({ frames := 1, cells := 0, slots := 0, locals := 21 }) (P0 D cI cR cM [.ref (g 13), .int x] sz (va_pl L f)) (QG (S := Int32 × (Nat → va_E)) (fun u => some (.int u.1)) (fun u => va_pl L u.2) (fun u => IN jn cI cR cM g L S u.2 ∧ FR S [13, 14] f u.2 ∧ (∀ cnt9 nx9 kd9 vl9 st9 ls9, f (g 14) = .inr (8, [.ref (g 11), .ref (g 31), .ref (g 32), .ref (g 33), .int cnt9, .int nx9, .int kd9, .int vl9, .int st9, .int ls9]) → u.1.toInt = 1 → kd9.toInt = x.toInt) ∧ (TK g cI u.2) ∧ (u.1.toInt = 0 ∨ u.1.toInt = 1)) D (va_A (va_pl L f) sz)) 0 0 (va_A (va_pl L f) sz) := by
  refine go (cc := cX4_expect) (maxL := 2) (ret := (some .boolean)) (by decide +kernel) rfl (Nat.le_of_ble_eq_true rfl) ?_
  intro p e s m below meth c ls args Q hQ hsz hx hb hr hml hts hown hlocks hnm hP hK hD hl
  subst hsz
  have hD := hD.self (sz := s.heap.size)
  generalize hAe : va_A (va_pl L f) s.heap.size = A at hD hQ
  have hA : ∀ q, s.heap.size ≤ q → A q := fun q h => by rw [← hAe]; exact Or.inr h
  have hS : va_S A s.heap s.heap [] := va_S.rf
  have hF : FR S [13, 14] f f := FR_rf
  have hl : lv_has ls 2 [(0, .ref (g 13)), (1, .int x)] := hl
  obtain ⟨cnt_1, nx_1, kd_1, vl_1, st_1, ls_1, fg_1, iv0_1, iv1_1, iv2_1⟩ := op_14 hI (gm_14 hG) (gs_14 hG)
  refine lv_aload_n hx hb dX4_expect_0 rfl (lv_at hl 0 rfl) ?_
  obtain ⟨fa_2, pl_2, fg_2⟩ := op_13 hI (gm_13 hG) (gs_13 hG)
  refine t_get (D := D) (L := L) (f := f) (ci := 4) (v := .ref (g 14)) (C := RX4) (T := TX4) (N := 11) hx hb hts (by decide +kernel) hown hK.1 hP (gm_13 hG) fg_2 rfl 1 (by decide) (hts (.fieldLink RX4 41 "JugglingHall$Reader" "tokens" "LJugglingHall$Tokens;") (by decide +kernel)) (fun _ h9 => h9) rfl dX4_expect_1 ?_
  refine t_getN (D := D) (L := L) (f := f) (ci := 8) (v := .int kd_1) (C := RX8) (T := TX8) (N := 10) (host := "JugglingHall") hx hb hts (by decide +kernel) hown hK.1 hP (gm_14 hG) fg_1 rfl 6 (by decide) (hK.nw (.fieldLinkNest RX4 70 "JugglingHall$Tokens" "kind" "I" "JugglingHall") (by decide +kernel) rfl) (fun _ h9 => h9) rfl dX4_expect_4 ?_
  refine lv_iload_n hx hb dX4_expect_7 rfl (lv_at hl 1 rfl) ?_
  refine a_icmp_eq (u := kd_1.toInt) (v := x.toInt) (tgt := 17) hx hb dX4_expect_8 (by decide) (rfl) (rfl) (fun c_3 => ?_) (fun c_3 => ?_)
  · refine lv_aload_n hx hb dX4_expect_17 rfl (lv_at hl 0 rfl) ?_
    refine t_get (D := D) (L := L) (f := f) (ci := 4) (v := .ref (g 14)) (C := RX4) (T := TX4) (N := 11) hx hb hts (by decide +kernel) hown hK.1 hP (gm_13 hG) fg_2 rfl 1 (by decide) (hts (.fieldLink RX4 41 "JugglingHall$Reader" "tokens" "LJugglingHall$Tokens;") (by decide +kernel)) (fun _ h9 => h9) rfl dX4_expect_18 ?_
    refine call_p (va_runV (As := []) (rest := []) ⟨hx, hb, hml, hown, hts⟩ (t_X8_advance l D cI cR cM _  hj hG hI  (by first | assumption | omega)) (cwV 0 hts gX4_expect_X8_advance rfl rfl rfl (by decide +kernel) ⟨Nat.le_of_ble_eq_true rfl, Nat.le_of_ble_eq_true rfl⟩) (pre_T hK hP hD (gm_14 hG) fg_1 rfl) rfl rfl hl.1 rfl (lv_room (Nat.le_of_ble_eq_true rfl)) dX4_expect_21 ⟨Nat.le_of_ble_eq_true rfl, Nat.le_of_ble_eq_true rfl⟩) hD hS hA (fun u_4 H locs hw hP hD hS => ?_)
    obtain ⟨f_4, e0_4⟩ : ∃ x, x = u_4 := ⟨_, rfl⟩
    subst e0_4
    obtain ⟨hI, hF_4, hTK_4⟩ : IN jn cI cR cM g L S f_4 ∧ FR S [14] f f_4 ∧ (TK g cI f_4) := hw
    have hP : va_P D vwCl (va_pl L f_4) H := hP
    have hD : va_D A (va_pl L f_4) := hD
    have hF := FR_tr hF hF_4 (by decide)
    have fb_5 : f_4 (g 13) = .inr (4, [.int (nI jn), .ref (g 14), .ref (g 12), .ref (g 22), .ref (g 34), .ref (g 23), .ref (g 24), .ref (g 25), .ref (g 26), .int fa_2, .int pl_2]) := FR_at hF_4 (gs_13 hG) (show (13 : Nat) ∉ ([14] : List Nat) by decide) fg_2
    refine lv_iconst (v := 1) hx hb dX4_expect_24 (by decide) ?_
    have hz_6 : (1 : Int32).toInt = 1 := by decide
    exact g_zret ((1 : Int32), f_4) hx hb hr hlocks hS (by first | exact Or.inl rfl | exact Or.inr rfl) rfl (⟨hI, hF, show ∀ cnt9 nx9 kd9 vl9 st9 ls9, f (g 14) = .inr (8, [.ref (g 11), .ref (g 31), .ref (g 32), .ref (g 33), .int cnt9, .int nx9, .int kd9, .int vl9, .int st9, .int ls9]) → (1 : Int32).toInt = 1 → kd9.toInt = x.toInt from (fun cnt9 nx9 kd9 vl9 st9 ls9 h9 h8 => by rw [fg_1] at h9; cases h9; omega), show TK g cI f_4 from (by first | assumption | omega), show (1 : Int32).toInt = 0 ∨ (1 : Int32).toInt = 1 from (by first | assumption | omega)⟩) hP hD hQ (Nat.le_of_ble_eq_true rfl) (Nat.le_of_ble_eq_true rfl) dX4_expect_25
  · refine lv_aload_n hx hb dX4_expect_11 rfl (lv_at hl 0 rfl) ?_
    refine lv_iconst (v := 1) hx hb dX4_expect_12 (by decide) ?_
    have hz_7 : (1 : Int32).toInt = 1 := by decide
    refine call_p (va_runV (As := [.int 1]) (rest := []) ⟨hx, hb, hml, hown, hts⟩ (t_X4_fail l D cI cR cM _  hj hG hI  ) (cwV 1 hts gX4_expect_X4_fail rfl rfl rfl (by decide +kernel) ⟨Nat.le_of_ble_eq_true rfl, Nat.le_of_ble_eq_true rfl⟩) (pre_T hK hP hD (gm_13 hG) fg_2 rfl) rfl rfl hl.1 rfl (lv_room (Nat.le_of_ble_eq_true rfl)) dX4_expect_13 ⟨Nat.le_of_ble_eq_true rfl, Nat.le_of_ble_eq_true rfl⟩) hD hS hA (fun u_8 H locs hw hP hD hS => ?_)
    obtain ⟨r_8, f_8⟩ := u_8
    obtain ⟨hI, hF_8, h0_8, h01_8⟩ : IN jn cI cR cM g L S f_8 ∧ FR S [13] f f_8 ∧ (r_8.toInt = 0) ∧ (r_8.toInt = 0 ∨ r_8.toInt = 1) := hw
    have hP : va_P D vwCl (va_pl L f_8) H := hP
    have hD : va_D A (va_pl L f_8) := hD
    have hF := FR_tr hF hF_8 (by decide)
    have hTK_8 : TK g cI f_8 := TK_fr (f := f) (by assumption) hG hF_8 (by decide)
    have fb_9 : f_8 (g 14) = .inr (8, [.ref (g 11), .ref (g 31), .ref (g 32), .ref (g 33), .int cnt_1, .int nx_1, .int kd_1, .int vl_1, .int st_1, .int ls_1]) := FR_at hF_8 (gs_14 hG) (show (14 : Nat) ∉ ([13] : List Nat) by decide) fg_1
    exact g_zret (r_8, f_8) hx hb hr hlocks hS (b01 (by omega)) rfl (⟨hI, hF, show ∀ cnt9 nx9 kd9 vl9 st9 ls9, f (g 14) = .inr (8, [.ref (g 11), .ref (g 31), .ref (g 32), .ref (g 33), .int cnt9, .int nx9, .int kd9, .int vl9, .int st9, .int ls9]) → r_8.toInt = 1 → kd9.toInt = x.toInt from (fun cnt9 nx9 kd9 vl9 st9 ls9 h9 h8 => by rw [fg_1] at h9; cases h9; omega), show TK g cI f_8 from (by first | assumption | omega), show r_8.toInt = 0 ∨ r_8.toInt = 1 from (by first | assumption | omega)⟩) hP hD hQ (Nat.le_of_ble_eq_true rfl) (Nat.le_of_ble_eq_true rfl) dX4_expect_16
set_option maxRecDepth 100000 in
set_option maxHeartbeats 4000000 in
theorem t_X4_beginsOne (l : Launch) (D : va_G) (cI cR cM : ClassId) (sz : Nat) {jn : Nat} {g : Nat → Nat} {L : List Nat} {S : Sg} {f : Nat → va_E}  (hj : 1 ≤ jn ∧ jn ≤ 3) (hG : SG g L S) (hI : IN jn cI cR cM g L S f)  : Met l yX4_beginsOne wsX4_beginsOne ({ frames := 0, cells := 0, slots := 0, locals := 0 }) (P0 D cI cR cM [.ref (g 13)] sz (va_pl L f)) (QP (fun r => (r.toInt = 0 ∨ r.toInt = 1)) sz) 0 0 (va_A [] sz) := by
  refine go (cc := cX4_beginsOne) (maxL := 1) (ret := (some .boolean)) (by decide +kernel) rfl (Nat.le_of_ble_eq_true rfl) ?_
  intro p e s m below meth c ls args Q hQ hsz hx hb hr hml hts hown hlocks hnm hP hK hD hl
  subst hsz
  have hS : va_S (va_A [] s.heap.size) s.heap s.heap [] := va_S.rf
  have hA : ∀ q, s.heap.size ≤ q → va_A [] s.heap.size q := fun q h => Or.inr h
  have hl : lv_has ls 1 [(0, .ref (g 13))] := hl
  refine lv_aload_n hx hb dX4_beginsOne_0 rfl (lv_at hl 0 rfl) ?_
  obtain ⟨fa_1, pl_1, fg_1⟩ := op_13 hI (gm_13 hG) (gs_13 hG)
  refine t_get (D := D) (L := L) (f := f) (ci := 4) (v := .ref (g 14)) (C := RX4) (T := TX4) (N := 11) hx hb hts (by decide +kernel) hown hK.1 hP (gm_13 hG) fg_1 rfl 1 (by decide) (hts (.fieldLink RX4 41 "JugglingHall$Reader" "tokens" "LJugglingHall$Tokens;") (by decide +kernel)) (fun _ h9 => h9) rfl dX4_beginsOne_1 ?_
  obtain ⟨cnt_2, nx_2, kd_2, vl_2, st_2, ls_2, fg_2, iv0_2, iv1_2, iv2_2⟩ := op_14 hI (gm_14 hG) (gs_14 hG)
  refine t_getN (D := D) (L := L) (f := f) (ci := 8) (v := .int kd_2) (C := RX8) (T := TX8) (N := 10) (host := "JugglingHall") hx hb hts (by decide +kernel) hown hK.1 hP (gm_14 hG) fg_2 rfl 6 (by decide) (hK.nw (.fieldLinkNest RX4 70 "JugglingHall$Tokens" "kind" "I" "JugglingHall") (by decide +kernel) rfl) (fun _ h9 => h9) rfl dX4_beginsOne_4 ?_
  have hu_3 : kd_2.toInt = kd_2.toInt := rfl
  rcases (show (kd_2.toInt = 2) ∨ (kd_2.toInt = 3) ∨ (kd_2.toInt = 6) ∨ (kd_2.toInt = 7) ∨ (kd_2.toInt = 8) ∨ (kd_2.toInt = 9) ∨ (kd_2.toInt = 40) ∨ (kd_2.toInt = 60) ∨ (kd_2.toInt = 91) ∨ (kd_2.toInt ≠ 2 ∧ kd_2.toInt ≠ 3 ∧ kd_2.toInt ≠ 6 ∧ kd_2.toInt ≠ 7 ∧ kd_2.toInt ≠ 8 ∧ kd_2.toInt ≠ 9 ∧ kd_2.toInt ≠ 40 ∧ kd_2.toInt ≠ 60 ∧ kd_2.toInt ≠ 91) by omega) with c_3 | c_3 | c_3 | c_3 | c_3 | c_3 | c_3 | c_3 | c_3 | c_3
  · refine lv_lookup (off := 83) (tgt := 90) hx hb dX4_beginsOne_7 (by decide) (by rw [hu_3, c_3]; decide) (by decide) ?_
    refine lv_aload_n hx hb dX4_beginsOne_90 rfl (lv_at hl 0 rfl) ?_
    refine t_get (D := D) (L := L) (f := f) (ci := 4) (v := .int (nI jn)) (C := RX4) (T := TX4) (N := 11) hx hb hts (by decide +kernel) hown hK.1 hP (gm_13 hG) fg_1 rfl 0 (by decide) (hts (.fieldLink RX4 38 "JugglingHall$Reader" "jugglers" "I") (by decide +kernel)) (fun _ h9 => h9) rfl dX4_beginsOne_91 ?_
    refine lv_iconst (v := 1) hx hb dX4_beginsOne_94 (by decide) ?_
    refine a_icmp_ne (u := (jn : Int)) (v := 1) (tgt := 102) hx hb dX4_beginsOne_95 (by decide) (nI_toInt (by omega)) (by decide) (fun c_4 => ?_) (fun c_4 => ?_)
    · refine lv_iconst (v := 0) hx hb dX4_beginsOne_102 (by decide) ?_
      have hz_5 : (0 : Int32).toInt = 0 := by decide
      exact rp_zret hx hb hr hlocks hS (by first | exact Or.inl rfl | exact Or.inr rfl) (show (0 : Int32).toInt = 0 ∨ (0 : Int32).toInt = 1 from (by first | assumption | omega)) hQ dX4_beginsOne_103
    · refine lv_iconst (v := 1) hx hb dX4_beginsOne_98 (by decide) ?_
      refine lv_goto (tgt := 103) hx hb dX4_beginsOne_99 (by decide) ?_
      have hz_6 : (1 : Int32).toInt = 1 := by decide
      exact rp_zret hx hb hr hlocks hS (by first | exact Or.inl rfl | exact Or.inr rfl) (show (1 : Int32).toInt = 0 ∨ (1 : Int32).toInt = 1 from (by first | assumption | omega)) hQ dX4_beginsOne_103
  · refine lv_lookup (off := 81) (tgt := 88) hx hb dX4_beginsOne_7 (by decide) (by rw [hu_3, c_3]; decide) (by decide) ?_
    refine lv_iconst (v := 1) hx hb dX4_beginsOne_88 (by decide) ?_
    have hz_7 : (1 : Int32).toInt = 1 := by decide
    exact rp_zret hx hb hr hlocks hS (by first | exact Or.inl rfl | exact Or.inr rfl) (show (1 : Int32).toInt = 0 ∨ (1 : Int32).toInt = 1 from (by first | assumption | omega)) hQ dX4_beginsOne_89
  · refine lv_lookup (off := 81) (tgt := 88) hx hb dX4_beginsOne_7 (by decide) (by rw [hu_3, c_3]; decide) (by decide) ?_
    refine lv_iconst (v := 1) hx hb dX4_beginsOne_88 (by decide) ?_
    have hz_8 : (1 : Int32).toInt = 1 := by decide
    exact rp_zret hx hb hr hlocks hS (by first | exact Or.inl rfl | exact Or.inr rfl) (show (1 : Int32).toInt = 0 ∨ (1 : Int32).toInt = 1 from (by first | assumption | omega)) hQ dX4_beginsOne_89
  · refine lv_lookup (off := 81) (tgt := 88) hx hb dX4_beginsOne_7 (by decide) (by rw [hu_3, c_3]; decide) (by decide) ?_
    refine lv_iconst (v := 1) hx hb dX4_beginsOne_88 (by decide) ?_
    have hz_9 : (1 : Int32).toInt = 1 := by decide
    exact rp_zret hx hb hr hlocks hS (by first | exact Or.inl rfl | exact Or.inr rfl) (show (1 : Int32).toInt = 0 ∨ (1 : Int32).toInt = 1 from (by first | assumption | omega)) hQ dX4_beginsOne_89
  · refine lv_lookup (off := 81) (tgt := 88) hx hb dX4_beginsOne_7 (by decide) (by rw [hu_3, c_3]; decide) (by decide) ?_
    refine lv_iconst (v := 1) hx hb dX4_beginsOne_88 (by decide) ?_
    have hz_10 : (1 : Int32).toInt = 1 := by decide
    exact rp_zret hx hb hr hlocks hS (by first | exact Or.inl rfl | exact Or.inr rfl) (show (1 : Int32).toInt = 0 ∨ (1 : Int32).toInt = 1 from (by first | assumption | omega)) hQ dX4_beginsOne_89
  · refine lv_lookup (off := 81) (tgt := 88) hx hb dX4_beginsOne_7 (by decide) (by rw [hu_3, c_3]; decide) (by decide) ?_
    refine lv_iconst (v := 1) hx hb dX4_beginsOne_88 (by decide) ?_
    have hz_11 : (1 : Int32).toInt = 1 := by decide
    exact rp_zret hx hb hr hlocks hS (by first | exact Or.inl rfl | exact Or.inr rfl) (show (1 : Int32).toInt = 0 ∨ (1 : Int32).toInt = 1 from (by first | assumption | omega)) hQ dX4_beginsOne_89
  · refine lv_lookup (off := 81) (tgt := 88) hx hb dX4_beginsOne_7 (by decide) (by rw [hu_3, c_3]; decide) (by decide) ?_
    refine lv_iconst (v := 1) hx hb dX4_beginsOne_88 (by decide) ?_
    have hz_12 : (1 : Int32).toInt = 1 := by decide
    exact rp_zret hx hb hr hlocks hS (by first | exact Or.inl rfl | exact Or.inr rfl) (show (1 : Int32).toInt = 0 ∨ (1 : Int32).toInt = 1 from (by first | assumption | omega)) hQ dX4_beginsOne_89
  · refine lv_lookup (off := 97) (tgt := 104) hx hb dX4_beginsOne_7 (by decide) (by rw [hu_3, c_3]; decide) (by decide) ?_
    refine lv_aload_n hx hb dX4_beginsOne_104 rfl (lv_at hl 0 rfl) ?_
    refine t_get (D := D) (L := L) (f := f) (ci := 4) (v := .int (nI jn)) (C := RX4) (T := TX4) (N := 11) hx hb hts (by decide +kernel) hown hK.1 hP (gm_13 hG) fg_1 rfl 0 (by decide) (hts (.fieldLink RX4 38 "JugglingHall$Reader" "jugglers" "I") (by decide +kernel)) (fun _ h9 => h9) rfl dX4_beginsOne_105 ?_
    refine lv_iconst (v := 1) hx hb dX4_beginsOne_108 (by decide) ?_
    refine a_icmp_le (u := (jn : Int)) (v := 1) (tgt := 116) hx hb dX4_beginsOne_109 (by decide) (nI_toInt (by omega)) (by decide) (fun c_13 => ?_) (fun c_13 => ?_)
    · refine lv_iconst (v := 0) hx hb dX4_beginsOne_116 (by decide) ?_
      have hz_14 : (0 : Int32).toInt = 0 := by decide
      exact rp_zret hx hb hr hlocks hS (by first | exact Or.inl rfl | exact Or.inr rfl) (show (0 : Int32).toInt = 0 ∨ (0 : Int32).toInt = 1 from (by first | assumption | omega)) hQ dX4_beginsOne_117
    · refine lv_iconst (v := 1) hx hb dX4_beginsOne_112 (by decide) ?_
      refine lv_goto (tgt := 117) hx hb dX4_beginsOne_113 (by decide) ?_
      have hz_15 : (1 : Int32).toInt = 1 := by decide
      exact rp_zret hx hb hr hlocks hS (by first | exact Or.inl rfl | exact Or.inr rfl) (show (1 : Int32).toInt = 0 ∨ (1 : Int32).toInt = 1 from (by first | assumption | omega)) hQ dX4_beginsOne_117
  · refine lv_lookup (off := 83) (tgt := 90) hx hb dX4_beginsOne_7 (by decide) (by rw [hu_3, c_3]; decide) (by decide) ?_
    refine lv_aload_n hx hb dX4_beginsOne_90 rfl (lv_at hl 0 rfl) ?_
    refine t_get (D := D) (L := L) (f := f) (ci := 4) (v := .int (nI jn)) (C := RX4) (T := TX4) (N := 11) hx hb hts (by decide +kernel) hown hK.1 hP (gm_13 hG) fg_1 rfl 0 (by decide) (hts (.fieldLink RX4 38 "JugglingHall$Reader" "jugglers" "I") (by decide +kernel)) (fun _ h9 => h9) rfl dX4_beginsOne_91 ?_
    refine lv_iconst (v := 1) hx hb dX4_beginsOne_94 (by decide) ?_
    refine a_icmp_ne (u := (jn : Int)) (v := 1) (tgt := 102) hx hb dX4_beginsOne_95 (by decide) (nI_toInt (by omega)) (by decide) (fun c_16 => ?_) (fun c_16 => ?_)
    · refine lv_iconst (v := 0) hx hb dX4_beginsOne_102 (by decide) ?_
      have hz_17 : (0 : Int32).toInt = 0 := by decide
      exact rp_zret hx hb hr hlocks hS (by first | exact Or.inl rfl | exact Or.inr rfl) (show (0 : Int32).toInt = 0 ∨ (0 : Int32).toInt = 1 from (by first | assumption | omega)) hQ dX4_beginsOne_103
    · refine lv_iconst (v := 1) hx hb dX4_beginsOne_98 (by decide) ?_
      refine lv_goto (tgt := 103) hx hb dX4_beginsOne_99 (by decide) ?_
      have hz_18 : (1 : Int32).toInt = 1 := by decide
      exact rp_zret hx hb hr hlocks hS (by first | exact Or.inl rfl | exact Or.inr rfl) (show (1 : Int32).toInt = 0 ∨ (1 : Int32).toInt = 1 from (by first | assumption | omega)) hQ dX4_beginsOne_103
  · refine lv_lookup (off := 111) (tgt := 118) hx hb dX4_beginsOne_7 (by decide) (by rw [hu_3]; exact (show Op.lookupswitch.offset [(2, 83), (3, 81), (6, 81), (7, 81), (8, 81), (9, 81), (40, 81), (60, 97), (91, 83)] (111) kd_2.toInt = (111) from lkc (by omega) (lkc (by omega) (lkc (by omega) (lkc (by omega) (lkc (by omega) (lkc (by omega) (lkc (by omega) (lkc (by omega) (lkc (by omega) (lkn _ _))))))))))) (by decide) ?_
    refine lv_iconst (v := 0) hx hb dX4_beginsOne_118 (by decide) ?_
    have hz_19 : (0 : Int32).toInt = 0 := by decide
    exact rp_zret hx hb hr hlocks hS (by first | exact Or.inl rfl | exact Or.inr rfl) (show (0 : Int32).toInt = 0 ∨ (0 : Int32).toInt = 1 from (by first | assumption | omega)) hQ dX4_beginsOne_119
set_option maxRecDepth 100000 in
set_option maxHeartbeats 4000000 in
theorem t_X4_readThrow (l : Launch) (D : va_G) (cI cR cM : ClassId) (sz : Nat) {jn : Nat} {g : Nat → Nat} {L : List Nat} {S : Sg} {f : Nat → va_E} {x : Int32}  (hj : 1 ≤ jn ∧ jn ≤ 3) (hG : SG g L S) (hI : IN jn cI cR cM g L S f) (hx0 : 0 ≤ x.toInt ∧ x.toInt < (jn : Int)) (hTK : TK g cI f) : Met l yX4_readThrow wsX4_readThrow ({ frames := 1, cells := 0, slots := 0, locals := 26 }) (P0 D cI cR cM [.ref (g 13), .int x] sz (va_pl L f)) (QG (S := Int32 × (Nat → va_E)) (fun u => some (.int u.1)) (fun u => va_pl L u.2) (fun u => IN jn cI cR cM g L S u.2 ∧ FR S [1, 13, 14] f u.2 ∧ (TK g cI u.2) ∧ (u.1.toInt = 0 ∨ u.1.toInt = 1)) D (va_A (va_pl L f) sz)) 0 0 (va_A (va_pl L f) sz) := by
  refine go (cc := cX4_readThrow) (maxL := 4) (ret := (some .boolean)) (by decide +kernel) rfl (Nat.le_of_ble_eq_true rfl) ?_
  intro p e s m below meth c ls args Q hQ hsz hx hb hr hml hts hown hlocks hnm hP hK hD hl
  subst hsz
  have hD := hD.self (sz := s.heap.size)
  generalize hAe : va_A (va_pl L f) s.heap.size = A at hD hQ
  have hA : ∀ q, s.heap.size ≤ q → A q := fun q h => by rw [← hAe]; exact Or.inr h
  have hS : va_S A s.heap s.heap [] := va_S.rf
  have hF : FR S [1, 13, 14] f f := FR_rf
  have hl : lv_has ls 4 [(0, .ref (g 13)), (1, .int x)] := hl
  refine lv_aload_n hx hb dX4_readThrow_0 rfl (lv_at hl 0 rfl) ?_
  obtain ⟨fa_1, pl_1, fg_1⟩ := op_13 hI (gm_13 hG) (gs_13 hG)
  refine t_get (D := D) (L := L) (f := f) (ci := 4) (v := .ref (g 14)) (C := RX4) (T := TX4) (N := 11) hx hb hts (by decide +kernel) hown hK.1 hP (gm_13 hG) fg_1 rfl 1 (by decide) (hts (.fieldLink RX4 41 "JugglingHall$Reader" "tokens" "LJugglingHall$Tokens;") (by decide +kernel)) (fun _ h9 => h9) rfl dX4_readThrow_1 ?_
  obtain ⟨cnt_2, nx_2, kd_2, vl_2, st_2, ls_2, fg_2, iv0_2, iv1_2, iv2_2⟩ := op_14 hI (gm_14 hG) (gs_14 hG)
  refine t_getN (D := D) (L := L) (f := f) (ci := 8) (v := .int kd_2) (C := RX8) (T := TX8) (N := 10) (host := "JugglingHall") hx hb hts (by decide +kernel) hown hK.1 hP (gm_14 hG) fg_2 rfl 6 (by decide) (hK.nw (.fieldLinkNest RX4 70 "JugglingHall$Tokens" "kind" "I" "JugglingHall") (by decide +kernel) rfl) (fun _ h9 => h9) rfl dX4_readThrow_4 ?_
  refine lv_iconst (v := 2) hx hb dX4_readThrow_7 (by decide) ?_
  refine a_icmp_eq (u := kd_2.toInt) (v := 2) (tgt := 17) hx hb dX4_readThrow_8 (by decide) (rfl) (by decide) (fun c_3 => ?_) (fun c_3 => ?_)
  · obtain ⟨c_4, fg_4⟩ := op_31 hI (gm_31 hG) (gs_31 hG)
    obtain ⟨c_5, fg_5⟩ := op_32 hI (gm_32 hG) (gs_32 hG)
    have dg_6 := ((show TK g cI f by assumption) _ _ _ _ _ _ _ _ fg_2 fg_4 fg_5).1
    refine lv_aload_n hx hb dX4_readThrow_17 rfl (lv_at hl 0 rfl) ?_
    refine t_get (D := D) (L := L) (f := f) (ci := 4) (v := .ref (g 14)) (C := RX4) (T := TX4) (N := 11) hx hb hts (by decide +kernel) hown hK.1 hP (gm_13 hG) fg_1 rfl 1 (by decide) (hts (.fieldLink RX4 41 "JugglingHall$Reader" "tokens" "LJugglingHall$Tokens;") (by decide +kernel)) (fun _ h9 => h9) rfl dX4_readThrow_18 ?_
    refine t_getN (D := D) (L := L) (f := f) (ci := 8) (v := .int vl_2) (C := RX8) (T := TX8) (N := 10) (host := "JugglingHall") hx hb hts (by decide +kernel) hown hK.1 hP (gm_14 hG) fg_2 rfl 7 (by decide) (hK.nw (.fieldLinkNest RX4 113 "JugglingHall$Tokens" "value" "I" "JugglingHall") (by decide +kernel) rfl) (fun _ h9 => h9) rfl dX4_readThrow_21 ?_
    refine lv_istore_n (lv' := [(2, .int vl_2), (0, .ref (g 13)), (1, .int x)]) hx hb dX4_readThrow_24 rfl hl (by decide) rfl (fun ls hl => ?_)
    refine lv_iload_n hx hb dX4_readThrow_25 rfl (lv_at hl 2 rfl) ?_
    refine lv_istore_n (lv' := [(3, .int x), (2, .int vl_2), (0, .ref (g 13)), (1, .int x)]) hx hb dX4_readThrow_26 rfl hl (by decide) rfl (fun ls hl => ?_)
    refine lv_aload_n hx hb dX4_readThrow_27 rfl (lv_at hl 2 rfl) ?_
    refine t_get (D := D) (L := L) (f := f) (ci := 4) (v := .ref (g 14)) (C := RX4) (T := TX4) (N := 11) hx hb hts (by decide +kernel) hown hK.1 hP (gm_13 hG) fg_1 rfl 1 (by decide) (hts (.fieldLink RX4 41 "JugglingHall$Reader" "tokens" "LJugglingHall$Tokens;") (by decide +kernel)) (fun _ h9 => h9) rfl dX4_readThrow_28 ?_
    refine call_p (va_runV (As := []) (rest := []) ⟨hx, hb, hml, hown, hts⟩ (t_X8_advance l D cI cR cM _  hj hG hI  (by first | assumption | omega)) (cwV 0 hts gX4_readThrow_X8_advance rfl rfl rfl (by decide +kernel) ⟨Nat.le_of_ble_eq_true rfl, Nat.le_of_ble_eq_true rfl⟩) (pre_T hK hP hD (gm_14 hG) fg_2 rfl) rfl rfl hl.1 rfl (lv_room (Nat.le_of_ble_eq_true rfl)) dX4_readThrow_31 ⟨Nat.le_of_ble_eq_true rfl, Nat.le_of_ble_eq_true rfl⟩) hD hS hA (fun u_7 H locs hw hP hD hS => ?_)
    obtain ⟨f_7, e0_7⟩ : ∃ x, x = u_7 := ⟨_, rfl⟩
    subst e0_7
    obtain ⟨hI, hF_7, hTK_7⟩ : IN jn cI cR cM g L S f_7 ∧ FR S [14] f f_7 ∧ (TK g cI f_7) := hw
    have hP : va_P D vwCl (va_pl L f_7) H := hP
    have hD : va_D A (va_pl L f_7) := hD
    have hF := FR_tr hF hF_7 (by decide)
    have fb_8 : f_7 (g 13) = .inr (4, [.int (nI jn), .ref (g 14), .ref (g 12), .ref (g 22), .ref (g 34), .ref (g 23), .ref (g 24), .ref (g 25), .ref (g 26), .int fa_1, .int pl_1]) := FR_at hF_7 (gs_13 hG) (show (13 : Nat) ∉ ([14] : List Nat) by decide) fg_1
    have fb_9 : f_7 (g 31) = .inl (cI, 301, .inl c_4) := FR_at hF_7 (gs_31 hG) (show (31 : Nat) ∉ ([14] : List Nat) by decide) fg_4
    have fb_10 : f_7 (g 32) = .inl (cI, 301, .inl c_5) := FR_at hF_7 (gs_32 hG) (show (32 : Nat) ∉ ([14] : List Nat) by decide) fg_5
    refine lv_aload_n hx hb dX4_readThrow_34 rfl (lv_at hl 2 rfl) ?_
    refine t_get (D := D) (L := L) (f := f_7) (ci := 4) (v := .ref (g 14)) (C := RX4) (T := TX4) (N := 11) hx hb hts (by decide +kernel) hown hK.1 hP (gm_13 hG) fb_8 rfl 1 (by decide) (hts (.fieldLink RX4 41 "JugglingHall$Reader" "tokens" "LJugglingHall$Tokens;") (by decide +kernel)) (fun _ h9 => h9) rfl dX4_readThrow_35 ?_
    obtain ⟨cnt_11, nx_11, kd_11, vl_11, st_11, ls_11, fg_11, iv0_11, iv1_11, iv2_11⟩ := op_14 hI (gm_14 hG) (gs_14 hG)
    refine t_getN (D := D) (L := L) (f := f_7) (ci := 8) (v := .int kd_11) (C := RX8) (T := TX8) (N := 10) (host := "JugglingHall") hx hb hts (by decide +kernel) hown hK.1 hP (gm_14 hG) fg_11 rfl 6 (by decide) (hK.nw (.fieldLinkNest RX4 70 "JugglingHall$Tokens" "kind" "I" "JugglingHall") (by decide +kernel) rfl) (fun _ h9 => h9) rfl dX4_readThrow_38 ?_
    refine lv_bipush (v := 10) hx hb dX4_readThrow_41 (by decide) ?_
    refine a_icmp_ne (u := kd_11.toInt) (v := 10) (tgt := 99) hx hb dX4_readThrow_43 (by decide) (rfl) (by decide) (fun c_12 => ?_) (fun c_12 => ?_)
    · refine lv_aload_n hx hb dX4_readThrow_99 rfl (lv_at hl 2 rfl) ?_
      refine t_get (D := D) (L := L) (f := f_7) (ci := 4) (v := .ref (g 24)) (C := RX4) (T := TX4) (N := 11) hx hb hts (by decide +kernel) hown hK.1 hP (gm_13 hG) fb_8 rfl 6 (by decide) (hts (.fieldLink RX4 52 "JugglingHall$Reader" "beat" "LJugglingHall$Row;") (by decide +kernel)) (fun _ h9 => h9) rfl dX4_readThrow_100 ?_
      refine lv_iconst (v := 0) hx hb dX4_readThrow_103 (by decide) ?_
      refine lv_iload_n hx hb dX4_readThrow_104 rfl (lv_at hl 3 rfl) ?_
      refine lv_iload_n hx hb dX4_readThrow_105 rfl (lv_at hl 1 rfl) ?_
      refine lv_iload_n hx hb dX4_readThrow_106 rfl (lv_at hl 0 rfl) ?_
      have hz_13 : (0 : Int32).toInt = 0 := by decide
      obtain ⟨p_14, n_14, m_14, s_14⟩ := hG.2.1
      obtain ⟨len_15, fg_15, v1_15, v2_15, v3_15, mp_15, sp_15⟩ := op_0 hI m_14 s_14
      obtain ⟨w1_15, w2_15, w3_15, w4_15, w5_15⟩ := lenw hj v1_15 v2_15 v3_15
      obtain ⟨c_16, fg_16, iv0_16⟩ := op_1 hI mp_15 sp_15
      refine call_p (va_runV (As := [.int 0, .int x, .int vl_2, .int x]) (rest := []) ⟨hx, hb, hml, hown, hts⟩ (t_X5_put l D cI cR cM _  hj hG hI m_14 s_14 fg_15 fg_16 (by first | assumption | omega) (by first | assumption | omega) (by first | assumption | omega) (by first | assumption | omega)) (cwV 4 hts gX4_readThrow_X5_put rfl rfl rfl (by decide +kernel) ⟨Nat.le_of_ble_eq_true rfl, Nat.le_of_ble_eq_true rfl⟩) (pre_T hK hP hD m_14 fg_15 rfl) rfl rfl hl.1 rfl (lv_room (Nat.le_of_ble_eq_true rfl)) dX4_readThrow_107 ⟨Nat.le_of_ble_eq_true rfl, Nat.le_of_ble_eq_true rfl⟩) hD hS hA (fun u_17 H locs hw hP hD hS => ?_)
      obtain ⟨r_17, f_17⟩ := u_17
      obtain ⟨hI, hF_17, h01_17⟩ : IN jn cI cR cM g L S f_17 ∧ FR S [1] f_7 f_17 ∧ (r_17.toInt = 0 ∨ r_17.toInt = 1) := hw
      have hP : va_P D vwCl (va_pl L f_17) H := hP
      have hD : va_D A (va_pl L f_17) := hD
      have hF := FR_tr hF hF_17 (by decide)
      have hTK_17 : TK g cI f_17 := TK_fr (f := f_7) (by assumption) hG hF_17 (by decide)
      have fb_18 : f_17 (g 13) = .inr (4, [.int (nI jn), .ref (g 14), .ref (g 12), .ref (g 22), .ref (g 34), .ref (g 23), .ref (g 24), .ref (g 25), .ref (g 26), .int fa_1, .int pl_1]) := FR_at hF_17 (gs_13 hG) (show (13 : Nat) ∉ ([1] : List Nat) by decide) fb_8
      have fb_19 : f_17 (g 31) = .inl (cI, 301, .inl c_4) := FR_at hF_17 (gs_31 hG) (show (31 : Nat) ∉ ([1] : List Nat) by decide) fb_9
      have fb_20 : f_17 (g 32) = .inl (cI, 301, .inl c_5) := FR_at hF_17 (gs_32 hG) (show (32 : Nat) ∉ ([1] : List Nat) by decide) fb_10
      have fb_21 : f_17 (g 14) = .inr (8, [.ref (g 11), .ref (g 31), .ref (g 32), .ref (g 33), .int cnt_11, .int nx_11, .int kd_11, .int vl_11, .int st_11, .int ls_11]) := FR_at hF_17 (gs_14 hG) (show (14 : Nat) ∉ ([1] : List Nat) by decide) fg_11
      have fb_22 : f_17 (g 24) = .inr (5, [.int (nI jn), .int (nI (2 * jn)), .ref p_14, .int len_15]) := FR_at hF_17 s_14 (show (0 : Nat) ∉ ([1] : List Nat) by decide) fg_15
      exact g_zret (r_17, f_17) hx hb hr hlocks hS (b01 (by omega)) rfl (⟨hI, hF, show TK g cI f_17 from (by first | assumption | omega), show r_17.toInt = 0 ∨ r_17.toInt = 1 from (by first | assumption | omega)⟩) hP hD hQ (Nat.le_of_ble_eq_true rfl) (Nat.le_of_ble_eq_true rfl) dX4_readThrow_110
    · refine lv_aload_n hx hb dX4_readThrow_46 rfl (lv_at hl 2 rfl) ?_
      refine t_get (D := D) (L := L) (f := f_7) (ci := 4) (v := .ref (g 14)) (C := RX4) (T := TX4) (N := 11) hx hb hts (by decide +kernel) hown hK.1 hP (gm_13 hG) fb_8 rfl 1 (by decide) (hts (.fieldLink RX4 41 "JugglingHall$Reader" "tokens" "LJugglingHall$Tokens;") (by decide +kernel)) (fun _ h9 => h9) rfl dX4_readThrow_47 ?_
      refine call_p (va_runV (As := []) (rest := []) ⟨hx, hb, hml, hown, hts⟩ (t_X8_advance l D cI cR cM _  hj hG hI  (by first | assumption | omega)) (cwV 0 hts gX4_readThrow_X8_advance rfl rfl rfl (by decide +kernel) ⟨Nat.le_of_ble_eq_true rfl, Nat.le_of_ble_eq_true rfl⟩) (pre_T hK hP hD (gm_14 hG) fg_11 rfl) rfl rfl hl.1 rfl (lv_room (Nat.le_of_ble_eq_true rfl)) dX4_readThrow_50 ⟨Nat.le_of_ble_eq_true rfl, Nat.le_of_ble_eq_true rfl⟩) hD hS hA (fun u_23 H locs hw hP hD hS => ?_)
      obtain ⟨f_23, e0_23⟩ : ∃ x, x = u_23 := ⟨_, rfl⟩
      subst e0_23
      obtain ⟨hI, hF_23, hTK_23⟩ : IN jn cI cR cM g L S f_23 ∧ FR S [14] f_7 f_23 ∧ (TK g cI f_23) := hw
      have hP : va_P D vwCl (va_pl L f_23) H := hP
      have hD : va_D A (va_pl L f_23) := hD
      have hF := FR_tr hF hF_23 (by decide)
      have fb_24 : f_23 (g 13) = .inr (4, [.int (nI jn), .ref (g 14), .ref (g 12), .ref (g 22), .ref (g 34), .ref (g 23), .ref (g 24), .ref (g 25), .ref (g 26), .int fa_1, .int pl_1]) := FR_at hF_23 (gs_13 hG) (show (13 : Nat) ∉ ([14] : List Nat) by decide) fb_8
      have fb_25 : f_23 (g 31) = .inl (cI, 301, .inl c_4) := FR_at hF_23 (gs_31 hG) (show (31 : Nat) ∉ ([14] : List Nat) by decide) fb_9
      have fb_26 : f_23 (g 32) = .inl (cI, 301, .inl c_5) := FR_at hF_23 (gs_32 hG) (show (32 : Nat) ∉ ([14] : List Nat) by decide) fb_10
      refine lv_aload_n hx hb dX4_readThrow_53 rfl (lv_at hl 2 rfl) ?_
      refine t_get (D := D) (L := L) (f := f_23) (ci := 4) (v := .ref (g 14)) (C := RX4) (T := TX4) (N := 11) hx hb hts (by decide +kernel) hown hK.1 hP (gm_13 hG) fb_24 rfl 1 (by decide) (hts (.fieldLink RX4 41 "JugglingHall$Reader" "tokens" "LJugglingHall$Tokens;") (by decide +kernel)) (fun _ h9 => h9) rfl dX4_readThrow_54 ?_
      obtain ⟨cnt_27, nx_27, kd_27, vl_27, st_27, ls_27, fg_27, iv0_27, iv1_27, iv2_27⟩ := op_14 hI (gm_14 hG) (gs_14 hG)
      refine t_getN (D := D) (L := L) (f := f_23) (ci := 8) (v := .int kd_27) (C := RX8) (T := TX8) (N := 10) (host := "JugglingHall") hx hb hts (by decide +kernel) hown hK.1 hP (gm_14 hG) fg_27 rfl 6 (by decide) (hK.nw (.fieldLinkNest RX4 70 "JugglingHall$Tokens" "kind" "I" "JugglingHall") (by decide +kernel) rfl) (fun _ h9 => h9) rfl dX4_readThrow_57 ?_
      refine lv_iconst (v := 2) hx hb dX4_readThrow_60 (by decide) ?_
      refine a_icmp_eq (u := kd_27.toInt) (v := 2) (tgt := 70) hx hb dX4_readThrow_61 (by decide) (rfl) (by decide) (fun c_28 => ?_) (fun c_28 => ?_)
      · have dg_29 := ((show TK g cI f_23 by assumption) _ _ _ _ _ _ _ _ fg_27 fb_25 fb_26).1
        refine lv_aload_n hx hb dX4_readThrow_70 rfl (lv_at hl 2 rfl) ?_
        refine t_get (D := D) (L := L) (f := f_23) (ci := 4) (v := .ref (g 14)) (C := RX4) (T := TX4) (N := 11) hx hb hts (by decide +kernel) hown hK.1 hP (gm_13 hG) fb_24 rfl 1 (by decide) (hts (.fieldLink RX4 41 "JugglingHall$Reader" "tokens" "LJugglingHall$Tokens;") (by decide +kernel)) (fun _ h9 => h9) rfl dX4_readThrow_71 ?_
        refine t_getN (D := D) (L := L) (f := f_23) (ci := 8) (v := .int vl_27) (C := RX8) (T := TX8) (N := 10) (host := "JugglingHall") hx hb hts (by decide +kernel) hown hK.1 hP (gm_14 hG) fg_27 rfl 7 (by decide) (hK.nw (.fieldLinkNest RX4 113 "JugglingHall$Tokens" "value" "I" "JugglingHall") (by decide +kernel) rfl) (fun _ h9 => h9) rfl dX4_readThrow_74 ?_
        refine lv_istore_n (lv' := [(3, .int vl_27), (2, .int vl_2), (0, .ref (g 13)), (1, .int x)]) hx hb dX4_readThrow_77 rfl hl (by decide) rfl (fun ls hl => ?_)
        refine lv_iload_n hx hb dX4_readThrow_78 rfl (lv_at hl 0 rfl) ?_
        refine lv_aload_n hx hb dX4_readThrow_79 rfl (lv_at hl 2 rfl) ?_
        refine t_get (D := D) (L := L) (f := f_23) (ci := 4) (v := .int (nI jn)) (C := RX4) (T := TX4) (N := 11) hx hb hts (by decide +kernel) hown hK.1 hP (gm_13 hG) fb_24 rfl 0 (by decide) (hts (.fieldLink RX4 38 "JugglingHall$Reader" "jugglers" "I") (by decide +kernel)) (fun _ h9 => h9) rfl dX4_readThrow_80 ?_
        refine a_icmp_lt (u := vl_27.toInt) (v := (jn : Int)) (tgt := 92) hx hb dX4_readThrow_83 (by decide) (rfl) (nI_toInt (by omega)) (fun c_30 => ?_) (fun c_30 => ?_)
        · refine lv_aload_n hx hb dX4_readThrow_92 rfl (lv_at hl 2 rfl) ?_
          refine t_get (D := D) (L := L) (f := f_23) (ci := 4) (v := .ref (g 14)) (C := RX4) (T := TX4) (N := 11) hx hb hts (by decide +kernel) hown hK.1 hP (gm_13 hG) fb_24 rfl 1 (by decide) (hts (.fieldLink RX4 41 "JugglingHall$Reader" "tokens" "LJugglingHall$Tokens;") (by decide +kernel)) (fun _ h9 => h9) rfl dX4_readThrow_93 ?_
          refine call_p (va_runV (As := []) (rest := []) ⟨hx, hb, hml, hown, hts⟩ (t_X8_advance l D cI cR cM _  hj hG hI  (by first | assumption | omega)) (cwV 0 hts gX4_readThrow_X8_advance rfl rfl rfl (by decide +kernel) ⟨Nat.le_of_ble_eq_true rfl, Nat.le_of_ble_eq_true rfl⟩) (pre_T hK hP hD (gm_14 hG) fg_27 rfl) rfl rfl hl.1 rfl (lv_room (Nat.le_of_ble_eq_true rfl)) dX4_readThrow_96 ⟨Nat.le_of_ble_eq_true rfl, Nat.le_of_ble_eq_true rfl⟩) hD hS hA (fun u_31 H locs hw hP hD hS => ?_)
          obtain ⟨f_31, e0_31⟩ : ∃ x, x = u_31 := ⟨_, rfl⟩
          subst e0_31
          obtain ⟨hI, hF_31, hTK_31⟩ : IN jn cI cR cM g L S f_31 ∧ FR S [14] f_23 f_31 ∧ (TK g cI f_31) := hw
          have hP : va_P D vwCl (va_pl L f_31) H := hP
          have hD : va_D A (va_pl L f_31) := hD
          have hF := FR_tr hF hF_31 (by decide)
          have fb_32 : f_31 (g 13) = .inr (4, [.int (nI jn), .ref (g 14), .ref (g 12), .ref (g 22), .ref (g 34), .ref (g 23), .ref (g 24), .ref (g 25), .ref (g 26), .int fa_1, .int pl_1]) := FR_at hF_31 (gs_13 hG) (show (13 : Nat) ∉ ([14] : List Nat) by decide) fb_24
          have fb_33 : f_31 (g 31) = .inl (cI, 301, .inl c_4) := FR_at hF_31 (gs_31 hG) (show (31 : Nat) ∉ ([14] : List Nat) by decide) fb_25
          have fb_34 : f_31 (g 32) = .inl (cI, 301, .inl c_5) := FR_at hF_31 (gs_32 hG) (show (32 : Nat) ∉ ([14] : List Nat) by decide) fb_26
          refine lv_aload_n hx hb dX4_readThrow_99 rfl (lv_at hl 2 rfl) ?_
          refine t_get (D := D) (L := L) (f := f_31) (ci := 4) (v := .ref (g 24)) (C := RX4) (T := TX4) (N := 11) hx hb hts (by decide +kernel) hown hK.1 hP (gm_13 hG) fb_32 rfl 6 (by decide) (hts (.fieldLink RX4 52 "JugglingHall$Reader" "beat" "LJugglingHall$Row;") (by decide +kernel)) (fun _ h9 => h9) rfl dX4_readThrow_100 ?_
          refine lv_iconst (v := 0) hx hb dX4_readThrow_103 (by decide) ?_
          refine lv_iload_n hx hb dX4_readThrow_104 rfl (lv_at hl 3 rfl) ?_
          refine lv_iload_n hx hb dX4_readThrow_105 rfl (lv_at hl 1 rfl) ?_
          refine lv_iload_n hx hb dX4_readThrow_106 rfl (lv_at hl 0 rfl) ?_
          have hz_35 : (0 : Int32).toInt = 0 := by decide
          obtain ⟨p_36, n_36, m_36, s_36⟩ := hG.2.1
          obtain ⟨len_37, fg_37, v1_37, v2_37, v3_37, mp_37, sp_37⟩ := op_0 hI m_36 s_36
          obtain ⟨w1_37, w2_37, w3_37, w4_37, w5_37⟩ := lenw hj v1_37 v2_37 v3_37
          obtain ⟨c_38, fg_38, iv0_38⟩ := op_1 hI mp_37 sp_37
          refine call_p (va_runV (As := [.int 0, .int x, .int vl_2, .int vl_27]) (rest := []) ⟨hx, hb, hml, hown, hts⟩ (t_X5_put l D cI cR cM _  hj hG hI m_36 s_36 fg_37 fg_38 (by first | assumption | omega) (by first | assumption | omega) (by first | assumption | omega) (by first | assumption | omega)) (cwV 4 hts gX4_readThrow_X5_put rfl rfl rfl (by decide +kernel) ⟨Nat.le_of_ble_eq_true rfl, Nat.le_of_ble_eq_true rfl⟩) (pre_T hK hP hD m_36 fg_37 rfl) rfl rfl hl.1 rfl (lv_room (Nat.le_of_ble_eq_true rfl)) dX4_readThrow_107 ⟨Nat.le_of_ble_eq_true rfl, Nat.le_of_ble_eq_true rfl⟩) hD hS hA (fun u_39 H locs hw hP hD hS => ?_)
          obtain ⟨r_39, f_39⟩ := u_39
          obtain ⟨hI, hF_39, h01_39⟩ : IN jn cI cR cM g L S f_39 ∧ FR S [1] f_31 f_39 ∧ (r_39.toInt = 0 ∨ r_39.toInt = 1) := hw
          have hP : va_P D vwCl (va_pl L f_39) H := hP
          have hD : va_D A (va_pl L f_39) := hD
          have hF := FR_tr hF hF_39 (by decide)
          have hTK_39 : TK g cI f_39 := TK_fr (f := f_31) (by assumption) hG hF_39 (by decide)
          have fb_40 : f_39 (g 13) = .inr (4, [.int (nI jn), .ref (g 14), .ref (g 12), .ref (g 22), .ref (g 34), .ref (g 23), .ref (g 24), .ref (g 25), .ref (g 26), .int fa_1, .int pl_1]) := FR_at hF_39 (gs_13 hG) (show (13 : Nat) ∉ ([1] : List Nat) by decide) fb_32
          have fb_41 : f_39 (g 31) = .inl (cI, 301, .inl c_4) := FR_at hF_39 (gs_31 hG) (show (31 : Nat) ∉ ([1] : List Nat) by decide) fb_33
          have fb_42 : f_39 (g 32) = .inl (cI, 301, .inl c_5) := FR_at hF_39 (gs_32 hG) (show (32 : Nat) ∉ ([1] : List Nat) by decide) fb_34
          have fb_43 : f_39 (g 24) = .inr (5, [.int (nI jn), .int (nI (2 * jn)), .ref p_36, .int len_37]) := FR_at hF_39 s_36 (show (0 : Nat) ∉ ([1] : List Nat) by decide) fg_37
          exact g_zret (r_39, f_39) hx hb hr hlocks hS (b01 (by omega)) rfl (⟨hI, hF, show TK g cI f_39 from (by first | assumption | omega), show r_39.toInt = 0 ∨ r_39.toInt = 1 from (by first | assumption | omega)⟩) hP hD hQ (Nat.le_of_ble_eq_true rfl) (Nat.le_of_ble_eq_true rfl) dX4_readThrow_110
        · refine lv_aload_n hx hb dX4_readThrow_86 rfl (lv_at hl 2 rfl) ?_
          refine lv_iconst (v := 2) hx hb dX4_readThrow_87 (by decide) ?_
          have hz_44 : (2 : Int32).toInt = 2 := by decide
          refine call_p (va_runV (As := [.int 2]) (rest := []) ⟨hx, hb, hml, hown, hts⟩ (t_X4_fail l D cI cR cM _  hj hG hI  ) (cwV 1 hts gX4_readThrow_X4_fail rfl rfl rfl (by decide +kernel) ⟨Nat.le_of_ble_eq_true rfl, Nat.le_of_ble_eq_true rfl⟩) (pre_T hK hP hD (gm_13 hG) fb_24 rfl) rfl rfl hl.1 rfl (lv_room (Nat.le_of_ble_eq_true rfl)) dX4_readThrow_88 ⟨Nat.le_of_ble_eq_true rfl, Nat.le_of_ble_eq_true rfl⟩) hD hS hA (fun u_45 H locs hw hP hD hS => ?_)
          obtain ⟨r_45, f_45⟩ := u_45
          obtain ⟨hI, hF_45, h0_45, h01_45⟩ : IN jn cI cR cM g L S f_45 ∧ FR S [13] f_23 f_45 ∧ (r_45.toInt = 0) ∧ (r_45.toInt = 0 ∨ r_45.toInt = 1) := hw
          have hP : va_P D vwCl (va_pl L f_45) H := hP
          have hD : va_D A (va_pl L f_45) := hD
          have hF := FR_tr hF hF_45 (by decide)
          have hTK_45 : TK g cI f_45 := TK_fr (f := f_23) (by assumption) hG hF_45 (by decide)
          have fb_46 : f_45 (g 31) = .inl (cI, 301, .inl c_4) := FR_at hF_45 (gs_31 hG) (show (31 : Nat) ∉ ([13] : List Nat) by decide) fb_25
          have fb_47 : f_45 (g 32) = .inl (cI, 301, .inl c_5) := FR_at hF_45 (gs_32 hG) (show (32 : Nat) ∉ ([13] : List Nat) by decide) fb_26
          have fb_48 : f_45 (g 14) = .inr (8, [.ref (g 11), .ref (g 31), .ref (g 32), .ref (g 33), .int cnt_27, .int nx_27, .int kd_27, .int vl_27, .int st_27, .int ls_27]) := FR_at hF_45 (gs_14 hG) (show (14 : Nat) ∉ ([13] : List Nat) by decide) fg_27
          exact g_zret (r_45, f_45) hx hb hr hlocks hS (b01 (by omega)) rfl (⟨hI, hF, show TK g cI f_45 from (by first | assumption | omega), show r_45.toInt = 0 ∨ r_45.toInt = 1 from (by first | assumption | omega)⟩) hP hD hQ (Nat.le_of_ble_eq_true rfl) (Nat.le_of_ble_eq_true rfl) dX4_readThrow_91
      · refine lv_aload_n hx hb dX4_readThrow_64 rfl (lv_at hl 2 rfl) ?_
        refine lv_iconst (v := 1) hx hb dX4_readThrow_65 (by decide) ?_
        have hz_49 : (1 : Int32).toInt = 1 := by decide
        refine call_p (va_runV (As := [.int 1]) (rest := []) ⟨hx, hb, hml, hown, hts⟩ (t_X4_fail l D cI cR cM _  hj hG hI  ) (cwV 1 hts gX4_readThrow_X4_fail rfl rfl rfl (by decide +kernel) ⟨Nat.le_of_ble_eq_true rfl, Nat.le_of_ble_eq_true rfl⟩) (pre_T hK hP hD (gm_13 hG) fb_24 rfl) rfl rfl hl.1 rfl (lv_room (Nat.le_of_ble_eq_true rfl)) dX4_readThrow_66 ⟨Nat.le_of_ble_eq_true rfl, Nat.le_of_ble_eq_true rfl⟩) hD hS hA (fun u_50 H locs hw hP hD hS => ?_)
        obtain ⟨r_50, f_50⟩ := u_50
        obtain ⟨hI, hF_50, h0_50, h01_50⟩ : IN jn cI cR cM g L S f_50 ∧ FR S [13] f_23 f_50 ∧ (r_50.toInt = 0) ∧ (r_50.toInt = 0 ∨ r_50.toInt = 1) := hw
        have hP : va_P D vwCl (va_pl L f_50) H := hP
        have hD : va_D A (va_pl L f_50) := hD
        have hF := FR_tr hF hF_50 (by decide)
        have hTK_50 : TK g cI f_50 := TK_fr (f := f_23) (by assumption) hG hF_50 (by decide)
        have fb_51 : f_50 (g 31) = .inl (cI, 301, .inl c_4) := FR_at hF_50 (gs_31 hG) (show (31 : Nat) ∉ ([13] : List Nat) by decide) fb_25
        have fb_52 : f_50 (g 32) = .inl (cI, 301, .inl c_5) := FR_at hF_50 (gs_32 hG) (show (32 : Nat) ∉ ([13] : List Nat) by decide) fb_26
        have fb_53 : f_50 (g 14) = .inr (8, [.ref (g 11), .ref (g 31), .ref (g 32), .ref (g 33), .int cnt_27, .int nx_27, .int kd_27, .int vl_27, .int st_27, .int ls_27]) := FR_at hF_50 (gs_14 hG) (show (14 : Nat) ∉ ([13] : List Nat) by decide) fg_27
        exact g_zret (r_50, f_50) hx hb hr hlocks hS (b01 (by omega)) rfl (⟨hI, hF, show TK g cI f_50 from (by first | assumption | omega), show r_50.toInt = 0 ∨ r_50.toInt = 1 from (by first | assumption | omega)⟩) hP hD hQ (Nat.le_of_ble_eq_true rfl) (Nat.le_of_ble_eq_true rfl) dX4_readThrow_69
  · refine lv_aload_n hx hb dX4_readThrow_11 rfl (lv_at hl 0 rfl) ?_
    refine lv_iconst (v := 1) hx hb dX4_readThrow_12 (by decide) ?_
    have hz_54 : (1 : Int32).toInt = 1 := by decide
    refine call_p (va_runV (As := [.int 1]) (rest := []) ⟨hx, hb, hml, hown, hts⟩ (t_X4_fail l D cI cR cM _  hj hG hI  ) (cwV 1 hts gX4_readThrow_X4_fail rfl rfl rfl (by decide +kernel) ⟨Nat.le_of_ble_eq_true rfl, Nat.le_of_ble_eq_true rfl⟩) (pre_T hK hP hD (gm_13 hG) fg_1 rfl) rfl rfl hl.1 rfl (lv_room (Nat.le_of_ble_eq_true rfl)) dX4_readThrow_13 ⟨Nat.le_of_ble_eq_true rfl, Nat.le_of_ble_eq_true rfl⟩) hD hS hA (fun u_55 H locs hw hP hD hS => ?_)
    obtain ⟨r_55, f_55⟩ := u_55
    obtain ⟨hI, hF_55, h0_55, h01_55⟩ : IN jn cI cR cM g L S f_55 ∧ FR S [13] f f_55 ∧ (r_55.toInt = 0) ∧ (r_55.toInt = 0 ∨ r_55.toInt = 1) := hw
    have hP : va_P D vwCl (va_pl L f_55) H := hP
    have hD : va_D A (va_pl L f_55) := hD
    have hF := FR_tr hF hF_55 (by decide)
    have hTK_55 : TK g cI f_55 := TK_fr (f := f) (by assumption) hG hF_55 (by decide)
    have fb_56 : f_55 (g 14) = .inr (8, [.ref (g 11), .ref (g 31), .ref (g 32), .ref (g 33), .int cnt_2, .int nx_2, .int kd_2, .int vl_2, .int st_2, .int ls_2]) := FR_at hF_55 (gs_14 hG) (show (14 : Nat) ∉ ([13] : List Nat) by decide) fg_2
    exact g_zret (r_55, f_55) hx hb hr hlocks hS (b01 (by omega)) rfl (⟨hI, hF, show TK g cI f_55 from (by first | assumption | omega), show r_55.toInt = 0 ∨ r_55.toInt = 1 from (by first | assumption | omega)⟩) hP hD hQ (Nat.le_of_ble_eq_true rfl) (Nat.le_of_ble_eq_true rfl) dX4_readThrow_16
set_option maxRecDepth 100000 in
set_option maxHeartbeats 4000000 in
theorem t_X4_readBeat (l : Launch) (D : va_G) (cI cR cM : ClassId) (sz : Nat) {jn : Nat} {g : Nat → Nat} {L : List Nat} {S : Sg} {f : Nat → va_E} {b b_p b_n : Nat} {b_l : Int32} {b_c : Nat → Int32}  (hj : 1 ≤ jn ∧ jn ≤ 3) (hG : SG g L S) (hI : IN jn cI cR cM g L S f) (m_b : b ∈ L) (s_b : S b = (0, b_p, b_n)) (f_b : f b = .inr (5, [.int (nI jn), .int (nI (2 * jn)), .ref b_p, .int b_l])) (f_b_p : f b_p = .inl (cI, b_n, .inl b_c)) (hTK : TK g cI f) : Met l yX4_readBeat wsX4_readBeat ({ frames := 2, cells := 0, slots := 0, locals := 88 }) (P0 D cI cR cM [.ref (g 13), .ref b] sz (va_pl L f)) (QG (S := Int32 × (Nat → va_E)) (fun u => some (.int u.1)) (fun u => va_pl L u.2) (fun u => IN jn cI cR cM g L S u.2 ∧ FR S [0, 1, 13, 14] f u.2 ∧ (TK g cI u.2) ∧ (u.1.toInt = 0 ∨ u.1.toInt = 1)) D (va_A (va_pl L f) sz)) 0 0 (va_A (va_pl L f) sz) := by
  refine go (cc := cX4_readBeat) (maxL := 4) (ret := (some .boolean)) (by decide +kernel) rfl (Nat.le_of_ble_eq_true rfl) ?_
  intro p e s m below meth c ls args Q hQ hsz hx hb hr hml hts hown hlocks hnm hP hK hD hl
  subst hsz
  have hD := hD.self (sz := s.heap.size)
  generalize hAe : va_A (va_pl L f) s.heap.size = A at hD hQ
  have hA : ∀ q, s.heap.size ≤ q → A q := fun q h => by rw [← hAe]; exact Or.inr h
  have hS : va_S A s.heap s.heap [] := va_S.rf
  have hF : FR S [0, 1, 13, 14] f f := FR_rf
  have hl : lv_has ls 4 [(0, .ref (g 13)), (1, .ref b)] := hl
  obtain ⟨v1_b, v2_b, v3_b, m_b_p, s_b_p⟩ := iv_0 hI m_b s_b f_b
  obtain ⟨w1_b, w2_b, w3_b, w4_b, w5_b⟩ := lenw hj v1_b v2_b v3_b
  have k_b := iv_1 hI m_b_p s_b_p f_b_p
  refine lv_aload_n hx hb dX4_readBeat_0 rfl (lv_at hl 0 rfl) ?_
  obtain ⟨fa_1, pl_1, fg_1⟩ := op_13 hI (gm_13 hG) (gs_13 hG)
  refine t_get (D := D) (L := L) (f := f) (ci := 4) (v := .ref (g 24)) (C := RX4) (T := TX4) (N := 11) hx hb hts (by decide +kernel) hown hK.1 hP (gm_13 hG) fg_1 rfl 6 (by decide) (hts (.fieldLink RX4 52 "JugglingHall$Reader" "beat" "LJugglingHall$Row;") (by decide +kernel)) (fun _ h9 => h9) rfl dX4_readBeat_1 ?_
  refine lv_iconst (v := 1) hx hb dX4_readBeat_4 (by decide) ?_
  have hz_2 : (1 : Int32).toInt = 1 := by decide
  obtain ⟨p_3, n_3, m_3, s_3⟩ := hG.2.1
  obtain ⟨len_4, fg_4, v1_4, v2_4, v3_4, mp_4, sp_4⟩ := op_0 hI m_3 s_3
  obtain ⟨w1_4, w2_4, w3_4, w4_4, w5_4⟩ := lenw hj v1_4 v2_4 v3_4
  obtain ⟨c_5, fg_5, iv0_5⟩ := op_1 hI mp_4 sp_4
  refine call_p (va_runV (As := [.int 1]) (rest := []) ⟨hx, hb, hml, hown, hts⟩ (t_X5_reset l D cI cR cM _  hj hG hI m_3 s_3 fg_4 fg_5 ) (cwV 1 hts gX4_readBeat_X5_reset rfl rfl rfl (by decide +kernel) ⟨Nat.le_of_ble_eq_true rfl, Nat.le_of_ble_eq_true rfl⟩) (pre_T hK hP hD m_3 fg_4 rfl) rfl rfl hl.1 rfl (lv_room (Nat.le_of_ble_eq_true rfl)) dX4_readBeat_5 ⟨Nat.le_of_ble_eq_true rfl, Nat.le_of_ble_eq_true rfl⟩) hD hS hA (fun u_6 H locs hw hP hD hS => ?_)
  obtain ⟨f_6, e0_6⟩ : ∃ x, x = u_6 := ⟨_, rfl⟩
  subst e0_6
  obtain ⟨hI, hF_6⟩ : IN jn cI cR cM g L S f_6 ∧ FR S [0, 1] f f_6 := hw
  have hP : va_P D vwCl (va_pl L f_6) H := hP
  have hD : va_D A (va_pl L f_6) := hD
  have hF := FR_tr hF hF_6 (by decide)
  have hTK_6 : TK g cI f_6 := TK_fr (f := f) (by assumption) hG hF_6 (by decide)
  have fb_7 : f_6 (g 13) = .inr (4, [.int (nI jn), .ref (g 14), .ref (g 12), .ref (g 22), .ref (g 34), .ref (g 23), .ref (g 24), .ref (g 25), .ref (g 26), .int fa_1, .int pl_1]) := FR_at hF_6 (gs_13 hG) (show (13 : Nat) ∉ ([0, 1] : List Nat) by decide) fg_1
  refine lv_iconst (v := 0) hx hb dX4_readBeat_8 (by decide) ?_
  refine lv_istore_n (lv' := [(2, .int 0), (0, .ref (g 13)), (1, .ref b)]) hx hb dX4_readBeat_9 rfl hl (by decide) rfl (fun ls hl => ?_)
  have loop10 : ∀ (ddloop10 : Nat) (ju : Int32) (f_8 : Nat → va_E) (H : Heap) (locs : List Loc) (ls : Array Slot), (10 - ju.toInt).toNat < ddloop10 → IN jn cI cR cM g L S f_8 → FR S [0, 1, 13, 14] f f_8 → (0 ≤ ju.toInt ∧ ju.toInt ≤ (jn : Int)) → (TK g cI f_8) → va_P D vwCl (va_pl L f_8) H → va_D A (va_pl L f_8) → va_S A s.heap H locs → lv_has ls 4 [(0, .ref (g 13)), (1, .ref b), (2, .int ju)] → W p l e ({ frames := 2, cells := 0, slots := 0, locals := 88 }) s m args below meth c H locs 0 0 Q (F0 m 10 ls []) := by
    intro ddloop10
    induction ddloop10 with
    | zero =>
      intro ju f_8 H locs ls hdd
      exact absurd hdd (Nat.not_lt_zero _)
    | succ ddloop10 ih10 =>
      intro ju f_8 H locs ls hdd hI hF hi hTK hP hD hS hl
      refine lv_iload_n hx hb dX4_readBeat_10 rfl (lv_at hl 2 rfl) ?_
      refine lv_aload_n hx hb dX4_readBeat_11 rfl (lv_at hl 0 rfl) ?_
      obtain ⟨fa_9, pl_9, fg_9⟩ := op_13 hI (gm_13 hG) (gs_13 hG)
      refine t_get (D := D) (L := L) (f := f_8) (ci := 4) (v := .int (nI jn)) (C := RX4) (T := TX4) (N := 11) hx hb hts (by decide +kernel) hown hK.1 hP (gm_13 hG) fg_9 rfl 0 (by decide) (hts (.fieldLink RX4 38 "JugglingHall$Reader" "jugglers" "I") (by decide +kernel)) (fun _ h9 => h9) rfl dX4_readBeat_12 ?_
      refine a_icmp_ge (u := ju.toInt) (v := (jn : Int)) (tgt := 112) hx hb dX4_readBeat_15 (by decide) (rfl) (nI_toInt (by omega)) (fun c_10 => ?_) (fun c_10 => ?_)
      · refine lv_aload_n hx hb dX4_readBeat_112 rfl (lv_at hl 0 rfl) ?_
        refine t_get (D := D) (L := L) (f := f_8) (ci := 4) (v := .int (nI jn)) (C := RX4) (T := TX4) (N := 11) hx hb hts (by decide +kernel) hown hK.1 hP (gm_13 hG) fg_9 rfl 0 (by decide) (hts (.fieldLink RX4 38 "JugglingHall$Reader" "jugglers" "I") (by decide +kernel)) (fun _ h9 => h9) rfl dX4_readBeat_113 ?_
        refine lv_iconst (v := 1) hx hb dX4_readBeat_116 (by decide) ?_
        refine a_icmp_le (u := (jn : Int)) (v := 1) (tgt := 131) hx hb dX4_readBeat_117 (by decide) (nI_toInt (by omega)) (by decide) (fun c_11 => ?_) (fun c_11 => ?_)
        · refine lv_aload_n hx hb dX4_readBeat_131 rfl (lv_at hl 1 rfl) ?_
          refine lv_aload_n hx hb dX4_readBeat_132 rfl (lv_at hl 0 rfl) ?_
          refine t_get (D := D) (L := L) (f := f_8) (ci := 4) (v := .ref (g 24)) (C := RX4) (T := TX4) (N := 11) hx hb hts (by decide +kernel) hown hK.1 hP (gm_13 hG) fg_9 rfl 6 (by decide) (hts (.fieldLink RX4 52 "JugglingHall$Reader" "beat" "LJugglingHall$Row;") (by decide +kernel)) (fun _ h9 => h9) rfl dX4_readBeat_133 ?_
          refine lv_iconst (v := 0) hx hb dX4_readBeat_136 (by decide) ?_
          refine lv_iconst (v := 1) hx hb dX4_readBeat_137 (by decide) ?_
          have hz_12 : (0 : Int32).toInt = 0 := by decide
          have hz_13 : (1 : Int32).toInt = 1 := by decide
          obtain ⟨len_14, fg_14, v1_14, v2_14, v3_14, mp_14, sp_14⟩ := op_0 hI m_b s_b
          obtain ⟨w1_14, w2_14, w3_14, w4_14, w5_14⟩ := lenw hj v1_14 v2_14 v3_14
          obtain ⟨c_15, fg_15, iv0_15⟩ := op_1 hI m_b_p s_b_p
          obtain ⟨len_16, fg_16, v1_16, v2_16, v3_16, mp_16, sp_16⟩ := op_0 hI m_3 s_3
          obtain ⟨w1_16, w2_16, w3_16, w4_16, w5_16⟩ := lenw hj v1_16 v2_16 v3_16
          obtain ⟨c_17, fg_17, iv0_17⟩ := op_1 hI mp_4 sp_4
          refine call_p (va_runV (As := [.ref (g 24), .int 0, .int 1]) (rest := []) ⟨hx, hb, hml, hown, hts⟩ (t_X5_append l D cI cR cM _  hj hG hI m_b s_b fg_14 fg_15 m_3 s_3 fg_16 fg_17 (by first | assumption | omega) (by first | assumption | omega)) (cwV 3 hts gX4_readBeat_X5_append rfl rfl rfl (by decide +kernel) ⟨Nat.le_of_ble_eq_true rfl, Nat.le_of_ble_eq_true rfl⟩) (pre_T hK hP hD m_b fg_14 rfl) rfl rfl hl.1 rfl (lv_room (Nat.le_of_ble_eq_true rfl)) dX4_readBeat_138 ⟨Nat.le_of_ble_eq_true rfl, Nat.le_of_ble_eq_true rfl⟩) hD hS hA (fun u_18 H locs hw hP hD hS => ?_)
          obtain ⟨r_18, f_18⟩ := u_18
          obtain ⟨hI, hF_18, h01_18⟩ : IN jn cI cR cM g L S f_18 ∧ FR S [0, 1] f_8 f_18 ∧ (r_18.toInt = 0 ∨ r_18.toInt = 1) := hw
          have hP : va_P D vwCl (va_pl L f_18) H := hP
          have hD : va_D A (va_pl L f_18) := hD
          have hF := FR_tr hF hF_18 (by decide)
          have hTK_18 : TK g cI f_18 := TK_fr (f := f_8) (by assumption) hG hF_18 (by decide)
          have fb_19 : f_18 (g 13) = .inr (4, [.int (nI jn), .ref (g 14), .ref (g 12), .ref (g 22), .ref (g 34), .ref (g 23), .ref (g 24), .ref (g 25), .ref (g 26), .int fa_9, .int pl_9]) := FR_at hF_18 (gs_13 hG) (show (13 : Nat) ∉ ([0, 1] : List Nat) by decide) fg_9
          refine a_if_ne (u := r_18.toInt) (tgt := 152) hx hb dX4_readBeat_141 (by decide) (rfl) (fun c_20 => ?_) (fun c_20 => ?_)
          · refine lv_iconst (v := 1) hx hb dX4_readBeat_152 (by decide) ?_
            refine lv_goto (tgt := 157) hx hb dX4_readBeat_153 (by decide) ?_
            have hz_21 : (1 : Int32).toInt = 1 := by decide
            exact g_zret ((1 : Int32), f_18) hx hb hr hlocks hS (by first | exact Or.inl rfl | exact Or.inr rfl) rfl (⟨hI, hF, show TK g cI f_18 from (by first | assumption | omega), show (1 : Int32).toInt = 0 ∨ (1 : Int32).toInt = 1 from (by first | assumption | omega)⟩) hP hD hQ (Nat.le_of_ble_eq_true rfl) (Nat.le_of_ble_eq_true rfl) dX4_readBeat_157
          · refine lv_aload_n hx hb dX4_readBeat_144 rfl (lv_at hl 0 rfl) ?_
            refine lv_iconst (v := 4) hx hb dX4_readBeat_145 (by decide) ?_
            have hz_22 : (4 : Int32).toInt = 4 := by decide
            refine call_p (va_runV (As := [.int 4]) (rest := []) ⟨hx, hb, hml, hown, hts⟩ (t_X4_failBehind l D cI cR cM _  hj hG hI  ) (cwV 1 hts gX4_readBeat_X4_failBehind rfl rfl rfl (by decide +kernel) ⟨Nat.le_of_ble_eq_true rfl, Nat.le_of_ble_eq_true rfl⟩) (pre_T hK hP hD (gm_13 hG) fb_19 rfl) rfl rfl hl.1 rfl (lv_room (Nat.le_of_ble_eq_true rfl)) dX4_readBeat_146 ⟨Nat.le_of_ble_eq_true rfl, Nat.le_of_ble_eq_true rfl⟩) hD hS hA (fun u_23 H locs hw hP hD hS => ?_)
            obtain ⟨r_23, f_23⟩ := u_23
            obtain ⟨hI, hF_23, h0_23, h01_23⟩ : IN jn cI cR cM g L S f_23 ∧ FR S [13] f_18 f_23 ∧ (r_23.toInt = 0) ∧ (r_23.toInt = 0 ∨ r_23.toInt = 1) := hw
            have hP : va_P D vwCl (va_pl L f_23) H := hP
            have hD : va_D A (va_pl L f_23) := hD
            have hF := FR_tr hF hF_23 (by decide)
            have hTK_23 : TK g cI f_23 := TK_fr (f := f_18) (by assumption) hG hF_23 (by decide)
            refine a_if_eq (u := r_23.toInt) (tgt := 156) hx hb dX4_readBeat_149 (by decide) (rfl) (fun c_24 => ?_) (fun c_24 => ?_)
            · refine lv_iconst (v := 0) hx hb dX4_readBeat_156 (by decide) ?_
              have hz_25 : (0 : Int32).toInt = 0 := by decide
              exact g_zret ((0 : Int32), f_23) hx hb hr hlocks hS (by first | exact Or.inl rfl | exact Or.inr rfl) rfl (⟨hI, hF, show TK g cI f_23 from (by first | assumption | omega), show (0 : Int32).toInt = 0 ∨ (0 : Int32).toInt = 1 from (by first | assumption | omega)⟩) hP hD hQ (Nat.le_of_ble_eq_true rfl) (Nat.le_of_ble_eq_true rfl) dX4_readBeat_157
            · refine lv_iconst (v := 1) hx hb dX4_readBeat_152 (by decide) ?_
              refine lv_goto (tgt := 157) hx hb dX4_readBeat_153 (by decide) ?_
              have hz_26 : (1 : Int32).toInt = 1 := by decide
              exact g_zret ((1 : Int32), f_23) hx hb hr hlocks hS (by first | exact Or.inl rfl | exact Or.inr rfl) rfl (⟨hI, hF, show TK g cI f_23 from (by first | assumption | omega), show (1 : Int32).toInt = 0 ∨ (1 : Int32).toInt = 1 from (by first | assumption | omega)⟩) hP hD hQ (Nat.le_of_ble_eq_true rfl) (Nat.le_of_ble_eq_true rfl) dX4_readBeat_157
        · refine lv_aload_n hx hb dX4_readBeat_120 rfl (lv_at hl 0 rfl) ?_
          refine lv_bipush (v := 62) hx hb dX4_readBeat_121 (by decide) ?_
          have hz_27 : (62 : Int32).toInt = 62 := by decide
          refine call_p (va_runV (As := [.int 62]) (rest := []) ⟨hx, hb, hml, hown, hts⟩ (t_X4_expect l D cI cR cM _  hj hG hI  (by first | assumption | omega)) (cwV 1 hts gX4_readBeat_X4_expect rfl rfl rfl (by decide +kernel) ⟨Nat.le_of_ble_eq_true rfl, Nat.le_of_ble_eq_true rfl⟩) (pre_T hK hP hD (gm_13 hG) fg_9 rfl) rfl rfl hl.1 rfl (lv_room (Nat.le_of_ble_eq_true rfl)) dX4_readBeat_123 ⟨Nat.le_of_ble_eq_true rfl, Nat.le_of_ble_eq_true rfl⟩) hD hS hA (fun u_28 H locs hw hP hD hS => ?_)
          obtain ⟨r_28, f_28⟩ := u_28
          obtain ⟨hI, hF_28, he_28, hTK_28, h01_28⟩ : IN jn cI cR cM g L S f_28 ∧ FR S [13, 14] f_8 f_28 ∧ (∀ cnt9 nx9 kd9 vl9 st9 ls9, f_8 (g 14) = .inr (8, [.ref (g 11), .ref (g 31), .ref (g 32), .ref (g 33), .int cnt9, .int nx9, .int kd9, .int vl9, .int st9, .int ls9]) → r_28.toInt = 1 → kd9.toInt = (62 : Int32).toInt) ∧ (TK g cI f_28) ∧ (r_28.toInt = 0 ∨ r_28.toInt = 1) := hw
          have hP : va_P D vwCl (va_pl L f_28) H := hP
          have hD : va_D A (va_pl L f_28) := hD
          have hF := FR_tr hF hF_28 (by decide)
          refine a_if_ne (u := r_28.toInt) (tgt := 131) hx hb dX4_readBeat_126 (by decide) (rfl) (fun c_29 => ?_) (fun c_29 => ?_)
          · refine lv_aload_n hx hb dX4_readBeat_131 rfl (lv_at hl 1 rfl) ?_
            refine lv_aload_n hx hb dX4_readBeat_132 rfl (lv_at hl 0 rfl) ?_
            obtain ⟨fa_30, pl_30, fg_30⟩ := op_13 hI (gm_13 hG) (gs_13 hG)
            refine t_get (D := D) (L := L) (f := f_28) (ci := 4) (v := .ref (g 24)) (C := RX4) (T := TX4) (N := 11) hx hb hts (by decide +kernel) hown hK.1 hP (gm_13 hG) fg_30 rfl 6 (by decide) (hts (.fieldLink RX4 52 "JugglingHall$Reader" "beat" "LJugglingHall$Row;") (by decide +kernel)) (fun _ h9 => h9) rfl dX4_readBeat_133 ?_
            refine lv_iconst (v := 0) hx hb dX4_readBeat_136 (by decide) ?_
            refine lv_iconst (v := 1) hx hb dX4_readBeat_137 (by decide) ?_
            have hz_31 : (0 : Int32).toInt = 0 := by decide
            have hz_32 : (1 : Int32).toInt = 1 := by decide
            obtain ⟨len_33, fg_33, v1_33, v2_33, v3_33, mp_33, sp_33⟩ := op_0 hI m_b s_b
            obtain ⟨w1_33, w2_33, w3_33, w4_33, w5_33⟩ := lenw hj v1_33 v2_33 v3_33
            obtain ⟨c_34, fg_34, iv0_34⟩ := op_1 hI m_b_p s_b_p
            obtain ⟨len_35, fg_35, v1_35, v2_35, v3_35, mp_35, sp_35⟩ := op_0 hI m_3 s_3
            obtain ⟨w1_35, w2_35, w3_35, w4_35, w5_35⟩ := lenw hj v1_35 v2_35 v3_35
            obtain ⟨c_36, fg_36, iv0_36⟩ := op_1 hI mp_4 sp_4
            refine call_p (va_runV (As := [.ref (g 24), .int 0, .int 1]) (rest := []) ⟨hx, hb, hml, hown, hts⟩ (t_X5_append l D cI cR cM _  hj hG hI m_b s_b fg_33 fg_34 m_3 s_3 fg_35 fg_36 (by first | assumption | omega) (by first | assumption | omega)) (cwV 3 hts gX4_readBeat_X5_append rfl rfl rfl (by decide +kernel) ⟨Nat.le_of_ble_eq_true rfl, Nat.le_of_ble_eq_true rfl⟩) (pre_T hK hP hD m_b fg_33 rfl) rfl rfl hl.1 rfl (lv_room (Nat.le_of_ble_eq_true rfl)) dX4_readBeat_138 ⟨Nat.le_of_ble_eq_true rfl, Nat.le_of_ble_eq_true rfl⟩) hD hS hA (fun u_37 H locs hw hP hD hS => ?_)
            obtain ⟨r_37, f_37⟩ := u_37
            obtain ⟨hI, hF_37, h01_37⟩ : IN jn cI cR cM g L S f_37 ∧ FR S [0, 1] f_28 f_37 ∧ (r_37.toInt = 0 ∨ r_37.toInt = 1) := hw
            have hP : va_P D vwCl (va_pl L f_37) H := hP
            have hD : va_D A (va_pl L f_37) := hD
            have hF := FR_tr hF hF_37 (by decide)
            have hTK_37 : TK g cI f_37 := TK_fr (f := f_28) (by assumption) hG hF_37 (by decide)
            have fb_38 : f_37 (g 13) = .inr (4, [.int (nI jn), .ref (g 14), .ref (g 12), .ref (g 22), .ref (g 34), .ref (g 23), .ref (g 24), .ref (g 25), .ref (g 26), .int fa_30, .int pl_30]) := FR_at hF_37 (gs_13 hG) (show (13 : Nat) ∉ ([0, 1] : List Nat) by decide) fg_30
            refine a_if_ne (u := r_37.toInt) (tgt := 152) hx hb dX4_readBeat_141 (by decide) (rfl) (fun c_39 => ?_) (fun c_39 => ?_)
            · refine lv_iconst (v := 1) hx hb dX4_readBeat_152 (by decide) ?_
              refine lv_goto (tgt := 157) hx hb dX4_readBeat_153 (by decide) ?_
              have hz_40 : (1 : Int32).toInt = 1 := by decide
              exact g_zret ((1 : Int32), f_37) hx hb hr hlocks hS (by first | exact Or.inl rfl | exact Or.inr rfl) rfl (⟨hI, hF, show TK g cI f_37 from (by first | assumption | omega), show (1 : Int32).toInt = 0 ∨ (1 : Int32).toInt = 1 from (by first | assumption | omega)⟩) hP hD hQ (Nat.le_of_ble_eq_true rfl) (Nat.le_of_ble_eq_true rfl) dX4_readBeat_157
            · refine lv_aload_n hx hb dX4_readBeat_144 rfl (lv_at hl 0 rfl) ?_
              refine lv_iconst (v := 4) hx hb dX4_readBeat_145 (by decide) ?_
              have hz_41 : (4 : Int32).toInt = 4 := by decide
              refine call_p (va_runV (As := [.int 4]) (rest := []) ⟨hx, hb, hml, hown, hts⟩ (t_X4_failBehind l D cI cR cM _  hj hG hI  ) (cwV 1 hts gX4_readBeat_X4_failBehind rfl rfl rfl (by decide +kernel) ⟨Nat.le_of_ble_eq_true rfl, Nat.le_of_ble_eq_true rfl⟩) (pre_T hK hP hD (gm_13 hG) fb_38 rfl) rfl rfl hl.1 rfl (lv_room (Nat.le_of_ble_eq_true rfl)) dX4_readBeat_146 ⟨Nat.le_of_ble_eq_true rfl, Nat.le_of_ble_eq_true rfl⟩) hD hS hA (fun u_42 H locs hw hP hD hS => ?_)
              obtain ⟨r_42, f_42⟩ := u_42
              obtain ⟨hI, hF_42, h0_42, h01_42⟩ : IN jn cI cR cM g L S f_42 ∧ FR S [13] f_37 f_42 ∧ (r_42.toInt = 0) ∧ (r_42.toInt = 0 ∨ r_42.toInt = 1) := hw
              have hP : va_P D vwCl (va_pl L f_42) H := hP
              have hD : va_D A (va_pl L f_42) := hD
              have hF := FR_tr hF hF_42 (by decide)
              have hTK_42 : TK g cI f_42 := TK_fr (f := f_37) (by assumption) hG hF_42 (by decide)
              refine a_if_eq (u := r_42.toInt) (tgt := 156) hx hb dX4_readBeat_149 (by decide) (rfl) (fun c_43 => ?_) (fun c_43 => ?_)
              · refine lv_iconst (v := 0) hx hb dX4_readBeat_156 (by decide) ?_
                have hz_44 : (0 : Int32).toInt = 0 := by decide
                exact g_zret ((0 : Int32), f_42) hx hb hr hlocks hS (by first | exact Or.inl rfl | exact Or.inr rfl) rfl (⟨hI, hF, show TK g cI f_42 from (by first | assumption | omega), show (0 : Int32).toInt = 0 ∨ (0 : Int32).toInt = 1 from (by first | assumption | omega)⟩) hP hD hQ (Nat.le_of_ble_eq_true rfl) (Nat.le_of_ble_eq_true rfl) dX4_readBeat_157
              · refine lv_iconst (v := 1) hx hb dX4_readBeat_152 (by decide) ?_
                refine lv_goto (tgt := 157) hx hb dX4_readBeat_153 (by decide) ?_
                have hz_45 : (1 : Int32).toInt = 1 := by decide
                exact g_zret ((1 : Int32), f_42) hx hb hr hlocks hS (by first | exact Or.inl rfl | exact Or.inr rfl) rfl (⟨hI, hF, show TK g cI f_42 from (by first | assumption | omega), show (1 : Int32).toInt = 0 ∨ (1 : Int32).toInt = 1 from (by first | assumption | omega)⟩) hP hD hQ (Nat.le_of_ble_eq_true rfl) (Nat.le_of_ble_eq_true rfl) dX4_readBeat_157
          · refine lv_iconst (v := 0) hx hb dX4_readBeat_129 (by decide) ?_
            have hz_46 : (0 : Int32).toInt = 0 := by decide
            exact g_zret ((0 : Int32), f_28) hx hb hr hlocks hS (by first | exact Or.inl rfl | exact Or.inr rfl) rfl (⟨hI, hF, show TK g cI f_28 from (by first | assumption | omega), show (0 : Int32).toInt = 0 ∨ (0 : Int32).toInt = 1 from (by first | assumption | omega)⟩) hP hD hQ (Nat.le_of_ble_eq_true rfl) (Nat.le_of_ble_eq_true rfl) dX4_readBeat_130
      · refine lv_aload_n hx hb dX4_readBeat_18 rfl (lv_at hl 0 rfl) ?_
        refine t_get (D := D) (L := L) (f := f_8) (ci := 4) (v := .int (nI jn)) (C := RX4) (T := TX4) (N := 11) hx hb hts (by decide +kernel) hown hK.1 hP (gm_13 hG) fg_9 rfl 0 (by decide) (hts (.fieldLink RX4 38 "JugglingHall$Reader" "jugglers" "I") (by decide +kernel)) (fun _ h9 => h9) rfl dX4_readBeat_19 ?_
        refine lv_iconst (v := 1) hx hb dX4_readBeat_22 (by decide) ?_
        refine a_icmp_le (u := (jn : Int)) (v := 1) (tgt := 46) hx hb dX4_readBeat_23 (by decide) (nI_toInt (by omega)) (by decide) (fun c_47 => ?_) (fun c_47 => ?_)
        · refine lv_aload_n hx hb dX4_readBeat_46 rfl (lv_at hl 0 rfl) ?_
          refine t_get (D := D) (L := L) (f := f_8) (ci := 4) (v := .ref (g 14)) (C := RX4) (T := TX4) (N := 11) hx hb hts (by decide +kernel) hown hK.1 hP (gm_13 hG) fg_9 rfl 1 (by decide) (hts (.fieldLink RX4 41 "JugglingHall$Reader" "tokens" "LJugglingHall$Tokens;") (by decide +kernel)) (fun _ h9 => h9) rfl dX4_readBeat_47 ?_
          obtain ⟨cnt_48, nx_48, kd_48, vl_48, st_48, ls_48, fg_48, iv0_48, iv1_48, iv2_48⟩ := op_14 hI (gm_14 hG) (gs_14 hG)
          refine t_getN (D := D) (L := L) (f := f_8) (ci := 8) (v := .int kd_48) (C := RX8) (T := TX8) (N := 10) (host := "JugglingHall") hx hb hts (by decide +kernel) hown hK.1 hP (gm_14 hG) fg_48 rfl 6 (by decide) (hK.nw (.fieldLinkNest RX4 70 "JugglingHall$Tokens" "kind" "I" "JugglingHall") (by decide +kernel) rfl) (fun _ h9 => h9) rfl dX4_readBeat_50 ?_
          refine lv_bipush (v := 91) hx hb dX4_readBeat_53 (by decide) ?_
          refine a_icmp_ne (u := kd_48.toInt) (v := 91) (tgt := 62) hx hb dX4_readBeat_55 (by decide) (rfl) (by decide) (fun c_49 => ?_) (fun c_49 => ?_)
          · refine lv_iconst (v := 0) hx hb dX4_readBeat_62 (by decide) ?_
            refine lv_istore_n (lv' := [(3, .int 0), (0, .ref (g 13)), (1, .ref b), (2, .int ju)]) hx hb dX4_readBeat_63 rfl hl (by decide) rfl (fun ls hl => ?_)
            refine lv_iload_n hx hb dX4_readBeat_64 rfl (lv_at hl 0 rfl) ?_
            refine a_if_eq (u := 0) (tgt := 75) hx hb dX4_readBeat_65 (by decide) (by decide) (fun c_50 => ?_) (fun c_50 => absurd c_50 (by omega))
            refine lv_aload_n hx hb dX4_readBeat_75 rfl (lv_at hl 1 rfl) ?_
            refine lv_iload_n hx hb dX4_readBeat_76 rfl (lv_at hl 3 rfl) ?_
            refine call_p (va_runV (As := [.int ju]) (rest := []) ⟨hx, hb, hml, hown, hts⟩ (t_X4_readThrow l D cI cR cM _  hj hG hI  (by first | assumption | omega) (by first | assumption | omega)) (cwV 1 hts gX4_readBeat_X4_readThrow rfl rfl rfl (by decide +kernel) ⟨Nat.le_of_ble_eq_true rfl, Nat.le_of_ble_eq_true rfl⟩) (pre_T hK hP hD (gm_13 hG) fg_9 rfl) rfl rfl hl.1 rfl (lv_room (Nat.le_of_ble_eq_true rfl)) dX4_readBeat_77 ⟨Nat.le_of_ble_eq_true rfl, Nat.le_of_ble_eq_true rfl⟩) hD hS hA (fun u_51 H locs hw hP hD hS => ?_)
            obtain ⟨r_51, f_51⟩ := u_51
            obtain ⟨hI, hF_51, hTK_51, h01_51⟩ : IN jn cI cR cM g L S f_51 ∧ FR S [1, 13, 14] f_8 f_51 ∧ (TK g cI f_51) ∧ (r_51.toInt = 0 ∨ r_51.toInt = 1) := hw
            have hP : va_P D vwCl (va_pl L f_51) H := hP
            have hD : va_D A (va_pl L f_51) := hD
            have hF := FR_tr hF hF_51 (by decide)
            refine a_if_eq (u := r_51.toInt) (tgt := 104) hx hb dX4_readBeat_80 (by decide) (rfl) (fun c_52 => ?_) (fun c_52 => ?_)
            · refine lv_iconst (v := 0) hx hb dX4_readBeat_104 (by decide) ?_
              have hz_53 : (0 : Int32).toInt = 0 := by decide
              exact g_zret ((0 : Int32), f_51) hx hb hr hlocks hS (by first | exact Or.inl rfl | exact Or.inr rfl) rfl (⟨hI, hF, show TK g cI f_51 from (by first | assumption | omega), show (0 : Int32).toInt = 0 ∨ (0 : Int32).toInt = 1 from (by first | assumption | omega)⟩) hP hD hQ (Nat.le_of_ble_eq_true rfl) (Nat.le_of_ble_eq_true rfl) dX4_readBeat_105
            · refine lv_iload_n hx hb dX4_readBeat_83 rfl (lv_at hl 0 rfl) ?_
              refine a_if_eq (u := 0) (tgt := 106) hx hb dX4_readBeat_84 (by decide) (by decide) (fun c_54 => ?_) (fun c_54 => absurd c_54 (by omega))
              obtain ⟨z_55, q_55, e_55⟩ := i_inc (a := ju.toInt) (1) (rfl) (by decide) (by omega) (by omega)
              refine lv_iinc (v := z_55) (lv' := [(2, .int z_55), (3, .int 0), (0, .ref (g 13)), (1, .ref b)]) hx hb dX4_readBeat_106 hl (k := 3) rfl q_55 (by decide) rfl (fun ls hl => ?_)
              refine lv_goto (tgt := 10) hx hb dX4_readBeat_109 (by decide) ?_
              exact ih10 z_55 f_51 _ _ _ (by omega) hI hF (by first | assumption | omega) (by first | assumption | omega) hP hD hS (lv_sub hl [2, 3, 0] rfl)
          · refine lv_iconst (v := 1) hx hb dX4_readBeat_58 (by decide) ?_
            refine lv_goto (tgt := 63) hx hb dX4_readBeat_59 (by decide) ?_
            refine lv_istore_n (lv' := [(3, .int 1), (0, .ref (g 13)), (1, .ref b), (2, .int ju)]) hx hb dX4_readBeat_63 rfl hl (by decide) rfl (fun ls hl => ?_)
            refine lv_iload_n hx hb dX4_readBeat_64 rfl (lv_at hl 0 rfl) ?_
            refine a_if_eq (u := 1) (tgt := 75) hx hb dX4_readBeat_65 (by decide) (by decide) (fun c_56 => absurd c_56 (by omega)) (fun c_56 => ?_)
            refine lv_aload_n hx hb dX4_readBeat_68 rfl (lv_at hl 1 rfl) ?_
            refine t_get (D := D) (L := L) (f := f_8) (ci := 4) (v := .ref (g 14)) (C := RX4) (T := TX4) (N := 11) hx hb hts (by decide +kernel) hown hK.1 hP (gm_13 hG) fg_9 rfl 1 (by decide) (hts (.fieldLink RX4 41 "JugglingHall$Reader" "tokens" "LJugglingHall$Tokens;") (by decide +kernel)) (fun _ h9 => h9) rfl dX4_readBeat_69 ?_
            refine call_p (va_runV (As := []) (rest := []) ⟨hx, hb, hml, hown, hts⟩ (t_X8_advance l D cI cR cM _  hj hG hI  (by first | assumption | omega)) (cwV 0 hts gX4_readBeat_X8_advance rfl rfl rfl (by decide +kernel) ⟨Nat.le_of_ble_eq_true rfl, Nat.le_of_ble_eq_true rfl⟩) (pre_T hK hP hD (gm_14 hG) fg_48 rfl) rfl rfl hl.1 rfl (lv_room (Nat.le_of_ble_eq_true rfl)) dX4_readBeat_72 ⟨Nat.le_of_ble_eq_true rfl, Nat.le_of_ble_eq_true rfl⟩) hD hS hA (fun u_57 H locs hw hP hD hS => ?_)
            obtain ⟨f_57, e0_57⟩ : ∃ x, x = u_57 := ⟨_, rfl⟩
            subst e0_57
            obtain ⟨hI, hF_57, hTK_57⟩ : IN jn cI cR cM g L S f_57 ∧ FR S [14] f_8 f_57 ∧ (TK g cI f_57) := hw
            have hP : va_P D vwCl (va_pl L f_57) H := hP
            have hD : va_D A (va_pl L f_57) := hD
            have hF := FR_tr hF hF_57 (by decide)
            have fb_58 : f_57 (g 13) = .inr (4, [.int (nI jn), .ref (g 14), .ref (g 12), .ref (g 22), .ref (g 34), .ref (g 23), .ref (g 24), .ref (g 25), .ref (g 26), .int fa_9, .int pl_9]) := FR_at hF_57 (gs_13 hG) (show (13 : Nat) ∉ ([14] : List Nat) by decide) fg_9
            refine lv_aload_n hx hb dX4_readBeat_75 rfl (lv_at hl 1 rfl) ?_
            refine lv_iload_n hx hb dX4_readBeat_76 rfl (lv_at hl 3 rfl) ?_
            refine call_p (va_runV (As := [.int ju]) (rest := []) ⟨hx, hb, hml, hown, hts⟩ (t_X4_readThrow l D cI cR cM _  hj hG hI  (by first | assumption | omega) (by first | assumption | omega)) (cwV 1 hts gX4_readBeat_X4_readThrow rfl rfl rfl (by decide +kernel) ⟨Nat.le_of_ble_eq_true rfl, Nat.le_of_ble_eq_true rfl⟩) (pre_T hK hP hD (gm_13 hG) fb_58 rfl) rfl rfl hl.1 rfl (lv_room (Nat.le_of_ble_eq_true rfl)) dX4_readBeat_77 ⟨Nat.le_of_ble_eq_true rfl, Nat.le_of_ble_eq_true rfl⟩) hD hS hA (fun u_59 H locs hw hP hD hS => ?_)
            obtain ⟨r_59, f_59⟩ := u_59
            obtain ⟨hI, hF_59, hTK_59, h01_59⟩ : IN jn cI cR cM g L S f_59 ∧ FR S [1, 13, 14] f_57 f_59 ∧ (TK g cI f_59) ∧ (r_59.toInt = 0 ∨ r_59.toInt = 1) := hw
            have hP : va_P D vwCl (va_pl L f_59) H := hP
            have hD : va_D A (va_pl L f_59) := hD
            have hF := FR_tr hF hF_59 (by decide)
            refine a_if_eq (u := r_59.toInt) (tgt := 104) hx hb dX4_readBeat_80 (by decide) (rfl) (fun c_60 => ?_) (fun c_60 => ?_)
            · refine lv_iconst (v := 0) hx hb dX4_readBeat_104 (by decide) ?_
              have hz_61 : (0 : Int32).toInt = 0 := by decide
              exact g_zret ((0 : Int32), f_59) hx hb hr hlocks hS (by first | exact Or.inl rfl | exact Or.inr rfl) rfl (⟨hI, hF, show TK g cI f_59 from (by first | assumption | omega), show (0 : Int32).toInt = 0 ∨ (0 : Int32).toInt = 1 from (by first | assumption | omega)⟩) hP hD hQ (Nat.le_of_ble_eq_true rfl) (Nat.le_of_ble_eq_true rfl) dX4_readBeat_105
            · refine lv_iload_n hx hb dX4_readBeat_83 rfl (lv_at hl 0 rfl) ?_
              refine a_if_eq (u := 1) (tgt := 106) hx hb dX4_readBeat_84 (by decide) (by decide) (fun c_62 => absurd c_62 (by omega)) (fun c_62 => ?_)
              refine lv_aload_n hx hb dX4_readBeat_87 rfl (lv_at hl 1 rfl) ?_
              refine lv_iload_n hx hb dX4_readBeat_88 rfl (lv_at hl 3 rfl) ?_
              obtain ⟨fa_63, pl_63, fg_63⟩ := op_13 hI (gm_13 hG) (gs_13 hG)
              refine call_p (va_runV (As := [.int ju]) (rest := []) ⟨hx, hb, hml, hown, hts⟩ (t_X4_readThrow l D cI cR cM _  hj hG hI  (by first | assumption | omega) (by first | assumption | omega)) (cwV 1 hts gX4_readBeat_X4_readThrow rfl rfl rfl (by decide +kernel) ⟨Nat.le_of_ble_eq_true rfl, Nat.le_of_ble_eq_true rfl⟩) (pre_T hK hP hD (gm_13 hG) fg_63 rfl) rfl rfl hl.1 rfl (lv_room (Nat.le_of_ble_eq_true rfl)) dX4_readBeat_89 ⟨Nat.le_of_ble_eq_true rfl, Nat.le_of_ble_eq_true rfl⟩) hD hS hA (fun u_64 H locs hw hP hD hS => ?_)
              obtain ⟨r_64, f_64⟩ := u_64
              obtain ⟨hI, hF_64, hTK_64, h01_64⟩ : IN jn cI cR cM g L S f_64 ∧ FR S [1, 13, 14] f_59 f_64 ∧ (TK g cI f_64) ∧ (r_64.toInt = 0 ∨ r_64.toInt = 1) := hw
              have hP : va_P D vwCl (va_pl L f_64) H := hP
              have hD : va_D A (va_pl L f_64) := hD
              have hF := FR_tr hF hF_64 (by decide)
              refine a_if_eq (u := r_64.toInt) (tgt := 104) hx hb dX4_readBeat_92 (by decide) (rfl) (fun c_65 => ?_) (fun c_65 => ?_)
              · refine lv_iconst (v := 0) hx hb dX4_readBeat_104 (by decide) ?_
                have hz_66 : (0 : Int32).toInt = 0 := by decide
                exact g_zret ((0 : Int32), f_64) hx hb hr hlocks hS (by first | exact Or.inl rfl | exact Or.inr rfl) rfl (⟨hI, hF, show TK g cI f_64 from (by first | assumption | omega), show (0 : Int32).toInt = 0 ∨ (0 : Int32).toInt = 1 from (by first | assumption | omega)⟩) hP hD hQ (Nat.le_of_ble_eq_true rfl) (Nat.le_of_ble_eq_true rfl) dX4_readBeat_105
              · refine lv_aload_n hx hb dX4_readBeat_95 rfl (lv_at hl 1 rfl) ?_
                refine lv_bipush (v := 93) hx hb dX4_readBeat_96 (by decide) ?_
                have hz_67 : (93 : Int32).toInt = 93 := by decide
                obtain ⟨fa_68, pl_68, fg_68⟩ := op_13 hI (gm_13 hG) (gs_13 hG)
                refine call_p (va_runV (As := [.int 93]) (rest := []) ⟨hx, hb, hml, hown, hts⟩ (t_X4_expect l D cI cR cM _  hj hG hI  (by first | assumption | omega)) (cwV 1 hts gX4_readBeat_X4_expect rfl rfl rfl (by decide +kernel) ⟨Nat.le_of_ble_eq_true rfl, Nat.le_of_ble_eq_true rfl⟩) (pre_T hK hP hD (gm_13 hG) fg_68 rfl) rfl rfl hl.1 rfl (lv_room (Nat.le_of_ble_eq_true rfl)) dX4_readBeat_98 ⟨Nat.le_of_ble_eq_true rfl, Nat.le_of_ble_eq_true rfl⟩) hD hS hA (fun u_69 H locs hw hP hD hS => ?_)
                obtain ⟨r_69, f_69⟩ := u_69
                obtain ⟨hI, hF_69, he_69, hTK_69, h01_69⟩ : IN jn cI cR cM g L S f_69 ∧ FR S [13, 14] f_64 f_69 ∧ (∀ cnt9 nx9 kd9 vl9 st9 ls9, f_64 (g 14) = .inr (8, [.ref (g 11), .ref (g 31), .ref (g 32), .ref (g 33), .int cnt9, .int nx9, .int kd9, .int vl9, .int st9, .int ls9]) → r_69.toInt = 1 → kd9.toInt = (93 : Int32).toInt) ∧ (TK g cI f_69) ∧ (r_69.toInt = 0 ∨ r_69.toInt = 1) := hw
                have hP : va_P D vwCl (va_pl L f_69) H := hP
                have hD : va_D A (va_pl L f_69) := hD
                have hF := FR_tr hF hF_69 (by decide)
                refine a_if_ne (u := r_69.toInt) (tgt := 106) hx hb dX4_readBeat_101 (by decide) (rfl) (fun c_70 => ?_) (fun c_70 => ?_)
                · obtain ⟨z_71, q_71, e_71⟩ := i_inc (a := ju.toInt) (1) (rfl) (by decide) (by omega) (by omega)
                  refine lv_iinc (v := z_71) (lv' := [(2, .int z_71), (3, .int 1), (0, .ref (g 13)), (1, .ref b)]) hx hb dX4_readBeat_106 hl (k := 3) rfl q_71 (by decide) rfl (fun ls hl => ?_)
                  refine lv_goto (tgt := 10) hx hb dX4_readBeat_109 (by decide) ?_
                  exact ih10 z_71 f_69 _ _ _ (by omega) hI hF (by first | assumption | omega) (by first | assumption | omega) hP hD hS (lv_sub hl [2, 3, 0] rfl)
                · refine lv_iconst (v := 0) hx hb dX4_readBeat_104 (by decide) ?_
                  have hz_72 : (0 : Int32).toInt = 0 := by decide
                  exact g_zret ((0 : Int32), f_69) hx hb hr hlocks hS (by first | exact Or.inl rfl | exact Or.inr rfl) rfl (⟨hI, hF, show TK g cI f_69 from (by first | assumption | omega), show (0 : Int32).toInt = 0 ∨ (0 : Int32).toInt = 1 from (by first | assumption | omega)⟩) hP hD hQ (Nat.le_of_ble_eq_true rfl) (Nat.le_of_ble_eq_true rfl) dX4_readBeat_105
        · refine lv_aload_n hx hb dX4_readBeat_26 rfl (lv_at hl 0 rfl) ?_
          refine lv_iload_n hx hb dX4_readBeat_27 rfl (lv_at hl 2 rfl) ?_
          refine a_if_ne (u := ju.toInt) (tgt := 36) hx hb dX4_readBeat_28 (by decide) (rfl) (fun c_73 => ?_) (fun c_73 => ?_)
          · refine lv_bipush (v := 124) hx hb dX4_readBeat_36 (by decide) ?_
            have hz_74 : (124 : Int32).toInt = 124 := by decide
            refine call_p (va_runV (As := [.int 124]) (rest := []) ⟨hx, hb, hml, hown, hts⟩ (t_X4_expect l D cI cR cM _  hj hG hI  (by first | assumption | omega)) (cwV 1 hts gX4_readBeat_X4_expect rfl rfl rfl (by decide +kernel) ⟨Nat.le_of_ble_eq_true rfl, Nat.le_of_ble_eq_true rfl⟩) (pre_T hK hP hD (gm_13 hG) fg_9 rfl) rfl rfl hl.1 rfl (lv_room (Nat.le_of_ble_eq_true rfl)) dX4_readBeat_38 ⟨Nat.le_of_ble_eq_true rfl, Nat.le_of_ble_eq_true rfl⟩) hD hS hA (fun u_75 H locs hw hP hD hS => ?_)
            obtain ⟨r_75, f_75⟩ := u_75
            obtain ⟨hI, hF_75, he_75, hTK_75, h01_75⟩ : IN jn cI cR cM g L S f_75 ∧ FR S [13, 14] f_8 f_75 ∧ (∀ cnt9 nx9 kd9 vl9 st9 ls9, f_8 (g 14) = .inr (8, [.ref (g 11), .ref (g 31), .ref (g 32), .ref (g 33), .int cnt9, .int nx9, .int kd9, .int vl9, .int st9, .int ls9]) → r_75.toInt = 1 → kd9.toInt = (124 : Int32).toInt) ∧ (TK g cI f_75) ∧ (r_75.toInt = 0 ∨ r_75.toInt = 1) := hw
            have hP : va_P D vwCl (va_pl L f_75) H := hP
            have hD : va_D A (va_pl L f_75) := hD
            have hF := FR_tr hF hF_75 (by decide)
            refine a_if_ne (u := r_75.toInt) (tgt := 46) hx hb dX4_readBeat_41 (by decide) (rfl) (fun c_76 => ?_) (fun c_76 => ?_)
            · refine lv_aload_n hx hb dX4_readBeat_46 rfl (lv_at hl 0 rfl) ?_
              obtain ⟨fa_77, pl_77, fg_77⟩ := op_13 hI (gm_13 hG) (gs_13 hG)
              refine t_get (D := D) (L := L) (f := f_75) (ci := 4) (v := .ref (g 14)) (C := RX4) (T := TX4) (N := 11) hx hb hts (by decide +kernel) hown hK.1 hP (gm_13 hG) fg_77 rfl 1 (by decide) (hts (.fieldLink RX4 41 "JugglingHall$Reader" "tokens" "LJugglingHall$Tokens;") (by decide +kernel)) (fun _ h9 => h9) rfl dX4_readBeat_47 ?_
              obtain ⟨cnt_78, nx_78, kd_78, vl_78, st_78, ls_78, fg_78, iv0_78, iv1_78, iv2_78⟩ := op_14 hI (gm_14 hG) (gs_14 hG)
              refine t_getN (D := D) (L := L) (f := f_75) (ci := 8) (v := .int kd_78) (C := RX8) (T := TX8) (N := 10) (host := "JugglingHall") hx hb hts (by decide +kernel) hown hK.1 hP (gm_14 hG) fg_78 rfl 6 (by decide) (hK.nw (.fieldLinkNest RX4 70 "JugglingHall$Tokens" "kind" "I" "JugglingHall") (by decide +kernel) rfl) (fun _ h9 => h9) rfl dX4_readBeat_50 ?_
              refine lv_bipush (v := 91) hx hb dX4_readBeat_53 (by decide) ?_
              refine a_icmp_ne (u := kd_78.toInt) (v := 91) (tgt := 62) hx hb dX4_readBeat_55 (by decide) (rfl) (by decide) (fun c_79 => ?_) (fun c_79 => ?_)
              · refine lv_iconst (v := 0) hx hb dX4_readBeat_62 (by decide) ?_
                refine lv_istore_n (lv' := [(3, .int 0), (0, .ref (g 13)), (1, .ref b), (2, .int ju)]) hx hb dX4_readBeat_63 rfl hl (by decide) rfl (fun ls hl => ?_)
                refine lv_iload_n hx hb dX4_readBeat_64 rfl (lv_at hl 0 rfl) ?_
                refine a_if_eq (u := 0) (tgt := 75) hx hb dX4_readBeat_65 (by decide) (by decide) (fun c_80 => ?_) (fun c_80 => absurd c_80 (by omega))
                refine lv_aload_n hx hb dX4_readBeat_75 rfl (lv_at hl 1 rfl) ?_
                refine lv_iload_n hx hb dX4_readBeat_76 rfl (lv_at hl 3 rfl) ?_
                refine call_p (va_runV (As := [.int ju]) (rest := []) ⟨hx, hb, hml, hown, hts⟩ (t_X4_readThrow l D cI cR cM _  hj hG hI  (by first | assumption | omega) (by first | assumption | omega)) (cwV 1 hts gX4_readBeat_X4_readThrow rfl rfl rfl (by decide +kernel) ⟨Nat.le_of_ble_eq_true rfl, Nat.le_of_ble_eq_true rfl⟩) (pre_T hK hP hD (gm_13 hG) fg_77 rfl) rfl rfl hl.1 rfl (lv_room (Nat.le_of_ble_eq_true rfl)) dX4_readBeat_77 ⟨Nat.le_of_ble_eq_true rfl, Nat.le_of_ble_eq_true rfl⟩) hD hS hA (fun u_81 H locs hw hP hD hS => ?_)
                obtain ⟨r_81, f_81⟩ := u_81
                obtain ⟨hI, hF_81, hTK_81, h01_81⟩ : IN jn cI cR cM g L S f_81 ∧ FR S [1, 13, 14] f_75 f_81 ∧ (TK g cI f_81) ∧ (r_81.toInt = 0 ∨ r_81.toInt = 1) := hw
                have hP : va_P D vwCl (va_pl L f_81) H := hP
                have hD : va_D A (va_pl L f_81) := hD
                have hF := FR_tr hF hF_81 (by decide)
                refine a_if_eq (u := r_81.toInt) (tgt := 104) hx hb dX4_readBeat_80 (by decide) (rfl) (fun c_82 => ?_) (fun c_82 => ?_)
                · refine lv_iconst (v := 0) hx hb dX4_readBeat_104 (by decide) ?_
                  have hz_83 : (0 : Int32).toInt = 0 := by decide
                  exact g_zret ((0 : Int32), f_81) hx hb hr hlocks hS (by first | exact Or.inl rfl | exact Or.inr rfl) rfl (⟨hI, hF, show TK g cI f_81 from (by first | assumption | omega), show (0 : Int32).toInt = 0 ∨ (0 : Int32).toInt = 1 from (by first | assumption | omega)⟩) hP hD hQ (Nat.le_of_ble_eq_true rfl) (Nat.le_of_ble_eq_true rfl) dX4_readBeat_105
                · refine lv_iload_n hx hb dX4_readBeat_83 rfl (lv_at hl 0 rfl) ?_
                  refine a_if_eq (u := 0) (tgt := 106) hx hb dX4_readBeat_84 (by decide) (by decide) (fun c_84 => ?_) (fun c_84 => absurd c_84 (by omega))
                  obtain ⟨z_85, q_85, e_85⟩ := i_inc (a := ju.toInt) (1) (rfl) (by decide) (by omega) (by omega)
                  refine lv_iinc (v := z_85) (lv' := [(2, .int z_85), (3, .int 0), (0, .ref (g 13)), (1, .ref b)]) hx hb dX4_readBeat_106 hl (k := 3) rfl q_85 (by decide) rfl (fun ls hl => ?_)
                  refine lv_goto (tgt := 10) hx hb dX4_readBeat_109 (by decide) ?_
                  exact ih10 z_85 f_81 _ _ _ (by omega) hI hF (by first | assumption | omega) (by first | assumption | omega) hP hD hS (lv_sub hl [2, 3, 0] rfl)
              · refine lv_iconst (v := 1) hx hb dX4_readBeat_58 (by decide) ?_
                refine lv_goto (tgt := 63) hx hb dX4_readBeat_59 (by decide) ?_
                refine lv_istore_n (lv' := [(3, .int 1), (0, .ref (g 13)), (1, .ref b), (2, .int ju)]) hx hb dX4_readBeat_63 rfl hl (by decide) rfl (fun ls hl => ?_)
                refine lv_iload_n hx hb dX4_readBeat_64 rfl (lv_at hl 0 rfl) ?_
                refine a_if_eq (u := 1) (tgt := 75) hx hb dX4_readBeat_65 (by decide) (by decide) (fun c_86 => absurd c_86 (by omega)) (fun c_86 => ?_)
                refine lv_aload_n hx hb dX4_readBeat_68 rfl (lv_at hl 1 rfl) ?_
                refine t_get (D := D) (L := L) (f := f_75) (ci := 4) (v := .ref (g 14)) (C := RX4) (T := TX4) (N := 11) hx hb hts (by decide +kernel) hown hK.1 hP (gm_13 hG) fg_77 rfl 1 (by decide) (hts (.fieldLink RX4 41 "JugglingHall$Reader" "tokens" "LJugglingHall$Tokens;") (by decide +kernel)) (fun _ h9 => h9) rfl dX4_readBeat_69 ?_
                refine call_p (va_runV (As := []) (rest := []) ⟨hx, hb, hml, hown, hts⟩ (t_X8_advance l D cI cR cM _  hj hG hI  (by first | assumption | omega)) (cwV 0 hts gX4_readBeat_X8_advance rfl rfl rfl (by decide +kernel) ⟨Nat.le_of_ble_eq_true rfl, Nat.le_of_ble_eq_true rfl⟩) (pre_T hK hP hD (gm_14 hG) fg_78 rfl) rfl rfl hl.1 rfl (lv_room (Nat.le_of_ble_eq_true rfl)) dX4_readBeat_72 ⟨Nat.le_of_ble_eq_true rfl, Nat.le_of_ble_eq_true rfl⟩) hD hS hA (fun u_87 H locs hw hP hD hS => ?_)
                obtain ⟨f_87, e0_87⟩ : ∃ x, x = u_87 := ⟨_, rfl⟩
                subst e0_87
                obtain ⟨hI, hF_87, hTK_87⟩ : IN jn cI cR cM g L S f_87 ∧ FR S [14] f_75 f_87 ∧ (TK g cI f_87) := hw
                have hP : va_P D vwCl (va_pl L f_87) H := hP
                have hD : va_D A (va_pl L f_87) := hD
                have hF := FR_tr hF hF_87 (by decide)
                have fb_88 : f_87 (g 13) = .inr (4, [.int (nI jn), .ref (g 14), .ref (g 12), .ref (g 22), .ref (g 34), .ref (g 23), .ref (g 24), .ref (g 25), .ref (g 26), .int fa_77, .int pl_77]) := FR_at hF_87 (gs_13 hG) (show (13 : Nat) ∉ ([14] : List Nat) by decide) fg_77
                refine lv_aload_n hx hb dX4_readBeat_75 rfl (lv_at hl 1 rfl) ?_
                refine lv_iload_n hx hb dX4_readBeat_76 rfl (lv_at hl 3 rfl) ?_
                refine call_p (va_runV (As := [.int ju]) (rest := []) ⟨hx, hb, hml, hown, hts⟩ (t_X4_readThrow l D cI cR cM _  hj hG hI  (by first | assumption | omega) (by first | assumption | omega)) (cwV 1 hts gX4_readBeat_X4_readThrow rfl rfl rfl (by decide +kernel) ⟨Nat.le_of_ble_eq_true rfl, Nat.le_of_ble_eq_true rfl⟩) (pre_T hK hP hD (gm_13 hG) fb_88 rfl) rfl rfl hl.1 rfl (lv_room (Nat.le_of_ble_eq_true rfl)) dX4_readBeat_77 ⟨Nat.le_of_ble_eq_true rfl, Nat.le_of_ble_eq_true rfl⟩) hD hS hA (fun u_89 H locs hw hP hD hS => ?_)
                obtain ⟨r_89, f_89⟩ := u_89
                obtain ⟨hI, hF_89, hTK_89, h01_89⟩ : IN jn cI cR cM g L S f_89 ∧ FR S [1, 13, 14] f_87 f_89 ∧ (TK g cI f_89) ∧ (r_89.toInt = 0 ∨ r_89.toInt = 1) := hw
                have hP : va_P D vwCl (va_pl L f_89) H := hP
                have hD : va_D A (va_pl L f_89) := hD
                have hF := FR_tr hF hF_89 (by decide)
                refine a_if_eq (u := r_89.toInt) (tgt := 104) hx hb dX4_readBeat_80 (by decide) (rfl) (fun c_90 => ?_) (fun c_90 => ?_)
                · refine lv_iconst (v := 0) hx hb dX4_readBeat_104 (by decide) ?_
                  have hz_91 : (0 : Int32).toInt = 0 := by decide
                  exact g_zret ((0 : Int32), f_89) hx hb hr hlocks hS (by first | exact Or.inl rfl | exact Or.inr rfl) rfl (⟨hI, hF, show TK g cI f_89 from (by first | assumption | omega), show (0 : Int32).toInt = 0 ∨ (0 : Int32).toInt = 1 from (by first | assumption | omega)⟩) hP hD hQ (Nat.le_of_ble_eq_true rfl) (Nat.le_of_ble_eq_true rfl) dX4_readBeat_105
                · refine lv_iload_n hx hb dX4_readBeat_83 rfl (lv_at hl 0 rfl) ?_
                  refine a_if_eq (u := 1) (tgt := 106) hx hb dX4_readBeat_84 (by decide) (by decide) (fun c_92 => absurd c_92 (by omega)) (fun c_92 => ?_)
                  refine lv_aload_n hx hb dX4_readBeat_87 rfl (lv_at hl 1 rfl) ?_
                  refine lv_iload_n hx hb dX4_readBeat_88 rfl (lv_at hl 3 rfl) ?_
                  obtain ⟨fa_93, pl_93, fg_93⟩ := op_13 hI (gm_13 hG) (gs_13 hG)
                  refine call_p (va_runV (As := [.int ju]) (rest := []) ⟨hx, hb, hml, hown, hts⟩ (t_X4_readThrow l D cI cR cM _  hj hG hI  (by first | assumption | omega) (by first | assumption | omega)) (cwV 1 hts gX4_readBeat_X4_readThrow rfl rfl rfl (by decide +kernel) ⟨Nat.le_of_ble_eq_true rfl, Nat.le_of_ble_eq_true rfl⟩) (pre_T hK hP hD (gm_13 hG) fg_93 rfl) rfl rfl hl.1 rfl (lv_room (Nat.le_of_ble_eq_true rfl)) dX4_readBeat_89 ⟨Nat.le_of_ble_eq_true rfl, Nat.le_of_ble_eq_true rfl⟩) hD hS hA (fun u_94 H locs hw hP hD hS => ?_)
                  obtain ⟨r_94, f_94⟩ := u_94
                  obtain ⟨hI, hF_94, hTK_94, h01_94⟩ : IN jn cI cR cM g L S f_94 ∧ FR S [1, 13, 14] f_89 f_94 ∧ (TK g cI f_94) ∧ (r_94.toInt = 0 ∨ r_94.toInt = 1) := hw
                  have hP : va_P D vwCl (va_pl L f_94) H := hP
                  have hD : va_D A (va_pl L f_94) := hD
                  have hF := FR_tr hF hF_94 (by decide)
                  refine a_if_eq (u := r_94.toInt) (tgt := 104) hx hb dX4_readBeat_92 (by decide) (rfl) (fun c_95 => ?_) (fun c_95 => ?_)
                  · refine lv_iconst (v := 0) hx hb dX4_readBeat_104 (by decide) ?_
                    have hz_96 : (0 : Int32).toInt = 0 := by decide
                    exact g_zret ((0 : Int32), f_94) hx hb hr hlocks hS (by first | exact Or.inl rfl | exact Or.inr rfl) rfl (⟨hI, hF, show TK g cI f_94 from (by first | assumption | omega), show (0 : Int32).toInt = 0 ∨ (0 : Int32).toInt = 1 from (by first | assumption | omega)⟩) hP hD hQ (Nat.le_of_ble_eq_true rfl) (Nat.le_of_ble_eq_true rfl) dX4_readBeat_105
                  · refine lv_aload_n hx hb dX4_readBeat_95 rfl (lv_at hl 1 rfl) ?_
                    refine lv_bipush (v := 93) hx hb dX4_readBeat_96 (by decide) ?_
                    have hz_97 : (93 : Int32).toInt = 93 := by decide
                    obtain ⟨fa_98, pl_98, fg_98⟩ := op_13 hI (gm_13 hG) (gs_13 hG)
                    refine call_p (va_runV (As := [.int 93]) (rest := []) ⟨hx, hb, hml, hown, hts⟩ (t_X4_expect l D cI cR cM _  hj hG hI  (by first | assumption | omega)) (cwV 1 hts gX4_readBeat_X4_expect rfl rfl rfl (by decide +kernel) ⟨Nat.le_of_ble_eq_true rfl, Nat.le_of_ble_eq_true rfl⟩) (pre_T hK hP hD (gm_13 hG) fg_98 rfl) rfl rfl hl.1 rfl (lv_room (Nat.le_of_ble_eq_true rfl)) dX4_readBeat_98 ⟨Nat.le_of_ble_eq_true rfl, Nat.le_of_ble_eq_true rfl⟩) hD hS hA (fun u_99 H locs hw hP hD hS => ?_)
                    obtain ⟨r_99, f_99⟩ := u_99
                    obtain ⟨hI, hF_99, he_99, hTK_99, h01_99⟩ : IN jn cI cR cM g L S f_99 ∧ FR S [13, 14] f_94 f_99 ∧ (∀ cnt9 nx9 kd9 vl9 st9 ls9, f_94 (g 14) = .inr (8, [.ref (g 11), .ref (g 31), .ref (g 32), .ref (g 33), .int cnt9, .int nx9, .int kd9, .int vl9, .int st9, .int ls9]) → r_99.toInt = 1 → kd9.toInt = (93 : Int32).toInt) ∧ (TK g cI f_99) ∧ (r_99.toInt = 0 ∨ r_99.toInt = 1) := hw
                    have hP : va_P D vwCl (va_pl L f_99) H := hP
                    have hD : va_D A (va_pl L f_99) := hD
                    have hF := FR_tr hF hF_99 (by decide)
                    refine a_if_ne (u := r_99.toInt) (tgt := 106) hx hb dX4_readBeat_101 (by decide) (rfl) (fun c_100 => ?_) (fun c_100 => ?_)
                    · obtain ⟨z_101, q_101, e_101⟩ := i_inc (a := ju.toInt) (1) (rfl) (by decide) (by omega) (by omega)
                      refine lv_iinc (v := z_101) (lv' := [(2, .int z_101), (3, .int 1), (0, .ref (g 13)), (1, .ref b)]) hx hb dX4_readBeat_106 hl (k := 3) rfl q_101 (by decide) rfl (fun ls hl => ?_)
                      refine lv_goto (tgt := 10) hx hb dX4_readBeat_109 (by decide) ?_
                      exact ih10 z_101 f_99 _ _ _ (by omega) hI hF (by first | assumption | omega) (by first | assumption | omega) hP hD hS (lv_sub hl [2, 3, 0] rfl)
                    · refine lv_iconst (v := 0) hx hb dX4_readBeat_104 (by decide) ?_
                      have hz_102 : (0 : Int32).toInt = 0 := by decide
                      exact g_zret ((0 : Int32), f_99) hx hb hr hlocks hS (by first | exact Or.inl rfl | exact Or.inr rfl) rfl (⟨hI, hF, show TK g cI f_99 from (by first | assumption | omega), show (0 : Int32).toInt = 0 ∨ (0 : Int32).toInt = 1 from (by first | assumption | omega)⟩) hP hD hQ (Nat.le_of_ble_eq_true rfl) (Nat.le_of_ble_eq_true rfl) dX4_readBeat_105
            · refine lv_iconst (v := 0) hx hb dX4_readBeat_44 (by decide) ?_
              have hz_103 : (0 : Int32).toInt = 0 := by decide
              exact g_zret ((0 : Int32), f_75) hx hb hr hlocks hS (by first | exact Or.inl rfl | exact Or.inr rfl) rfl (⟨hI, hF, show TK g cI f_75 from (by first | assumption | omega), show (0 : Int32).toInt = 0 ∨ (0 : Int32).toInt = 1 from (by first | assumption | omega)⟩) hP hD hQ (Nat.le_of_ble_eq_true rfl) (Nat.le_of_ble_eq_true rfl) dX4_readBeat_45
          · refine lv_bipush (v := 60) hx hb dX4_readBeat_31 (by decide) ?_
            refine lv_goto (tgt := 38) hx hb dX4_readBeat_33 (by decide) ?_
            have hz_104 : (60 : Int32).toInt = 60 := by decide
            refine call_p (va_runV (As := [.int 60]) (rest := []) ⟨hx, hb, hml, hown, hts⟩ (t_X4_expect l D cI cR cM _  hj hG hI  (by first | assumption | omega)) (cwV 1 hts gX4_readBeat_X4_expect rfl rfl rfl (by decide +kernel) ⟨Nat.le_of_ble_eq_true rfl, Nat.le_of_ble_eq_true rfl⟩) (pre_T hK hP hD (gm_13 hG) fg_9 rfl) rfl rfl hl.1 rfl (lv_room (Nat.le_of_ble_eq_true rfl)) dX4_readBeat_38 ⟨Nat.le_of_ble_eq_true rfl, Nat.le_of_ble_eq_true rfl⟩) hD hS hA (fun u_105 H locs hw hP hD hS => ?_)
            obtain ⟨r_105, f_105⟩ := u_105
            obtain ⟨hI, hF_105, he_105, hTK_105, h01_105⟩ : IN jn cI cR cM g L S f_105 ∧ FR S [13, 14] f_8 f_105 ∧ (∀ cnt9 nx9 kd9 vl9 st9 ls9, f_8 (g 14) = .inr (8, [.ref (g 11), .ref (g 31), .ref (g 32), .ref (g 33), .int cnt9, .int nx9, .int kd9, .int vl9, .int st9, .int ls9]) → r_105.toInt = 1 → kd9.toInt = (60 : Int32).toInt) ∧ (TK g cI f_105) ∧ (r_105.toInt = 0 ∨ r_105.toInt = 1) := hw
            have hP : va_P D vwCl (va_pl L f_105) H := hP
            have hD : va_D A (va_pl L f_105) := hD
            have hF := FR_tr hF hF_105 (by decide)
            refine a_if_ne (u := r_105.toInt) (tgt := 46) hx hb dX4_readBeat_41 (by decide) (rfl) (fun c_106 => ?_) (fun c_106 => ?_)
            · refine lv_aload_n hx hb dX4_readBeat_46 rfl (lv_at hl 0 rfl) ?_
              obtain ⟨fa_107, pl_107, fg_107⟩ := op_13 hI (gm_13 hG) (gs_13 hG)
              refine t_get (D := D) (L := L) (f := f_105) (ci := 4) (v := .ref (g 14)) (C := RX4) (T := TX4) (N := 11) hx hb hts (by decide +kernel) hown hK.1 hP (gm_13 hG) fg_107 rfl 1 (by decide) (hts (.fieldLink RX4 41 "JugglingHall$Reader" "tokens" "LJugglingHall$Tokens;") (by decide +kernel)) (fun _ h9 => h9) rfl dX4_readBeat_47 ?_
              obtain ⟨cnt_108, nx_108, kd_108, vl_108, st_108, ls_108, fg_108, iv0_108, iv1_108, iv2_108⟩ := op_14 hI (gm_14 hG) (gs_14 hG)
              refine t_getN (D := D) (L := L) (f := f_105) (ci := 8) (v := .int kd_108) (C := RX8) (T := TX8) (N := 10) (host := "JugglingHall") hx hb hts (by decide +kernel) hown hK.1 hP (gm_14 hG) fg_108 rfl 6 (by decide) (hK.nw (.fieldLinkNest RX4 70 "JugglingHall$Tokens" "kind" "I" "JugglingHall") (by decide +kernel) rfl) (fun _ h9 => h9) rfl dX4_readBeat_50 ?_
              refine lv_bipush (v := 91) hx hb dX4_readBeat_53 (by decide) ?_
              refine a_icmp_ne (u := kd_108.toInt) (v := 91) (tgt := 62) hx hb dX4_readBeat_55 (by decide) (rfl) (by decide) (fun c_109 => ?_) (fun c_109 => ?_)
              · refine lv_iconst (v := 0) hx hb dX4_readBeat_62 (by decide) ?_
                refine lv_istore_n (lv' := [(3, .int 0), (0, .ref (g 13)), (1, .ref b), (2, .int ju)]) hx hb dX4_readBeat_63 rfl hl (by decide) rfl (fun ls hl => ?_)
                refine lv_iload_n hx hb dX4_readBeat_64 rfl (lv_at hl 0 rfl) ?_
                refine a_if_eq (u := 0) (tgt := 75) hx hb dX4_readBeat_65 (by decide) (by decide) (fun c_110 => ?_) (fun c_110 => absurd c_110 (by omega))
                refine lv_aload_n hx hb dX4_readBeat_75 rfl (lv_at hl 1 rfl) ?_
                refine lv_iload_n hx hb dX4_readBeat_76 rfl (lv_at hl 3 rfl) ?_
                refine call_p (va_runV (As := [.int ju]) (rest := []) ⟨hx, hb, hml, hown, hts⟩ (t_X4_readThrow l D cI cR cM _  hj hG hI  (by first | assumption | omega) (by first | assumption | omega)) (cwV 1 hts gX4_readBeat_X4_readThrow rfl rfl rfl (by decide +kernel) ⟨Nat.le_of_ble_eq_true rfl, Nat.le_of_ble_eq_true rfl⟩) (pre_T hK hP hD (gm_13 hG) fg_107 rfl) rfl rfl hl.1 rfl (lv_room (Nat.le_of_ble_eq_true rfl)) dX4_readBeat_77 ⟨Nat.le_of_ble_eq_true rfl, Nat.le_of_ble_eq_true rfl⟩) hD hS hA (fun u_111 H locs hw hP hD hS => ?_)
                obtain ⟨r_111, f_111⟩ := u_111
                obtain ⟨hI, hF_111, hTK_111, h01_111⟩ : IN jn cI cR cM g L S f_111 ∧ FR S [1, 13, 14] f_105 f_111 ∧ (TK g cI f_111) ∧ (r_111.toInt = 0 ∨ r_111.toInt = 1) := hw
                have hP : va_P D vwCl (va_pl L f_111) H := hP
                have hD : va_D A (va_pl L f_111) := hD
                have hF := FR_tr hF hF_111 (by decide)
                refine a_if_eq (u := r_111.toInt) (tgt := 104) hx hb dX4_readBeat_80 (by decide) (rfl) (fun c_112 => ?_) (fun c_112 => ?_)
                · refine lv_iconst (v := 0) hx hb dX4_readBeat_104 (by decide) ?_
                  have hz_113 : (0 : Int32).toInt = 0 := by decide
                  exact g_zret ((0 : Int32), f_111) hx hb hr hlocks hS (by first | exact Or.inl rfl | exact Or.inr rfl) rfl (⟨hI, hF, show TK g cI f_111 from (by first | assumption | omega), show (0 : Int32).toInt = 0 ∨ (0 : Int32).toInt = 1 from (by first | assumption | omega)⟩) hP hD hQ (Nat.le_of_ble_eq_true rfl) (Nat.le_of_ble_eq_true rfl) dX4_readBeat_105
                · refine lv_iload_n hx hb dX4_readBeat_83 rfl (lv_at hl 0 rfl) ?_
                  refine a_if_eq (u := 0) (tgt := 106) hx hb dX4_readBeat_84 (by decide) (by decide) (fun c_114 => ?_) (fun c_114 => absurd c_114 (by omega))
                  obtain ⟨z_115, q_115, e_115⟩ := i_inc (a := ju.toInt) (1) (rfl) (by decide) (by omega) (by omega)
                  refine lv_iinc (v := z_115) (lv' := [(2, .int z_115), (3, .int 0), (0, .ref (g 13)), (1, .ref b)]) hx hb dX4_readBeat_106 hl (k := 3) rfl q_115 (by decide) rfl (fun ls hl => ?_)
                  refine lv_goto (tgt := 10) hx hb dX4_readBeat_109 (by decide) ?_
                  exact ih10 z_115 f_111 _ _ _ (by omega) hI hF (by first | assumption | omega) (by first | assumption | omega) hP hD hS (lv_sub hl [2, 3, 0] rfl)
              · refine lv_iconst (v := 1) hx hb dX4_readBeat_58 (by decide) ?_
                refine lv_goto (tgt := 63) hx hb dX4_readBeat_59 (by decide) ?_
                refine lv_istore_n (lv' := [(3, .int 1), (0, .ref (g 13)), (1, .ref b), (2, .int ju)]) hx hb dX4_readBeat_63 rfl hl (by decide) rfl (fun ls hl => ?_)
                refine lv_iload_n hx hb dX4_readBeat_64 rfl (lv_at hl 0 rfl) ?_
                refine a_if_eq (u := 1) (tgt := 75) hx hb dX4_readBeat_65 (by decide) (by decide) (fun c_116 => absurd c_116 (by omega)) (fun c_116 => ?_)
                refine lv_aload_n hx hb dX4_readBeat_68 rfl (lv_at hl 1 rfl) ?_
                refine t_get (D := D) (L := L) (f := f_105) (ci := 4) (v := .ref (g 14)) (C := RX4) (T := TX4) (N := 11) hx hb hts (by decide +kernel) hown hK.1 hP (gm_13 hG) fg_107 rfl 1 (by decide) (hts (.fieldLink RX4 41 "JugglingHall$Reader" "tokens" "LJugglingHall$Tokens;") (by decide +kernel)) (fun _ h9 => h9) rfl dX4_readBeat_69 ?_
                refine call_p (va_runV (As := []) (rest := []) ⟨hx, hb, hml, hown, hts⟩ (t_X8_advance l D cI cR cM _  hj hG hI  (by first | assumption | omega)) (cwV 0 hts gX4_readBeat_X8_advance rfl rfl rfl (by decide +kernel) ⟨Nat.le_of_ble_eq_true rfl, Nat.le_of_ble_eq_true rfl⟩) (pre_T hK hP hD (gm_14 hG) fg_108 rfl) rfl rfl hl.1 rfl (lv_room (Nat.le_of_ble_eq_true rfl)) dX4_readBeat_72 ⟨Nat.le_of_ble_eq_true rfl, Nat.le_of_ble_eq_true rfl⟩) hD hS hA (fun u_117 H locs hw hP hD hS => ?_)
                obtain ⟨f_117, e0_117⟩ : ∃ x, x = u_117 := ⟨_, rfl⟩
                subst e0_117
                obtain ⟨hI, hF_117, hTK_117⟩ : IN jn cI cR cM g L S f_117 ∧ FR S [14] f_105 f_117 ∧ (TK g cI f_117) := hw
                have hP : va_P D vwCl (va_pl L f_117) H := hP
                have hD : va_D A (va_pl L f_117) := hD
                have hF := FR_tr hF hF_117 (by decide)
                have fb_118 : f_117 (g 13) = .inr (4, [.int (nI jn), .ref (g 14), .ref (g 12), .ref (g 22), .ref (g 34), .ref (g 23), .ref (g 24), .ref (g 25), .ref (g 26), .int fa_107, .int pl_107]) := FR_at hF_117 (gs_13 hG) (show (13 : Nat) ∉ ([14] : List Nat) by decide) fg_107
                refine lv_aload_n hx hb dX4_readBeat_75 rfl (lv_at hl 1 rfl) ?_
                refine lv_iload_n hx hb dX4_readBeat_76 rfl (lv_at hl 3 rfl) ?_
                refine call_p (va_runV (As := [.int ju]) (rest := []) ⟨hx, hb, hml, hown, hts⟩ (t_X4_readThrow l D cI cR cM _  hj hG hI  (by first | assumption | omega) (by first | assumption | omega)) (cwV 1 hts gX4_readBeat_X4_readThrow rfl rfl rfl (by decide +kernel) ⟨Nat.le_of_ble_eq_true rfl, Nat.le_of_ble_eq_true rfl⟩) (pre_T hK hP hD (gm_13 hG) fb_118 rfl) rfl rfl hl.1 rfl (lv_room (Nat.le_of_ble_eq_true rfl)) dX4_readBeat_77 ⟨Nat.le_of_ble_eq_true rfl, Nat.le_of_ble_eq_true rfl⟩) hD hS hA (fun u_119 H locs hw hP hD hS => ?_)
                obtain ⟨r_119, f_119⟩ := u_119
                obtain ⟨hI, hF_119, hTK_119, h01_119⟩ : IN jn cI cR cM g L S f_119 ∧ FR S [1, 13, 14] f_117 f_119 ∧ (TK g cI f_119) ∧ (r_119.toInt = 0 ∨ r_119.toInt = 1) := hw
                have hP : va_P D vwCl (va_pl L f_119) H := hP
                have hD : va_D A (va_pl L f_119) := hD
                have hF := FR_tr hF hF_119 (by decide)
                refine a_if_eq (u := r_119.toInt) (tgt := 104) hx hb dX4_readBeat_80 (by decide) (rfl) (fun c_120 => ?_) (fun c_120 => ?_)
                · refine lv_iconst (v := 0) hx hb dX4_readBeat_104 (by decide) ?_
                  have hz_121 : (0 : Int32).toInt = 0 := by decide
                  exact g_zret ((0 : Int32), f_119) hx hb hr hlocks hS (by first | exact Or.inl rfl | exact Or.inr rfl) rfl (⟨hI, hF, show TK g cI f_119 from (by first | assumption | omega), show (0 : Int32).toInt = 0 ∨ (0 : Int32).toInt = 1 from (by first | assumption | omega)⟩) hP hD hQ (Nat.le_of_ble_eq_true rfl) (Nat.le_of_ble_eq_true rfl) dX4_readBeat_105
                · refine lv_iload_n hx hb dX4_readBeat_83 rfl (lv_at hl 0 rfl) ?_
                  refine a_if_eq (u := 1) (tgt := 106) hx hb dX4_readBeat_84 (by decide) (by decide) (fun c_122 => absurd c_122 (by omega)) (fun c_122 => ?_)
                  refine lv_aload_n hx hb dX4_readBeat_87 rfl (lv_at hl 1 rfl) ?_
                  refine lv_iload_n hx hb dX4_readBeat_88 rfl (lv_at hl 3 rfl) ?_
                  obtain ⟨fa_123, pl_123, fg_123⟩ := op_13 hI (gm_13 hG) (gs_13 hG)
                  refine call_p (va_runV (As := [.int ju]) (rest := []) ⟨hx, hb, hml, hown, hts⟩ (t_X4_readThrow l D cI cR cM _  hj hG hI  (by first | assumption | omega) (by first | assumption | omega)) (cwV 1 hts gX4_readBeat_X4_readThrow rfl rfl rfl (by decide +kernel) ⟨Nat.le_of_ble_eq_true rfl, Nat.le_of_ble_eq_true rfl⟩) (pre_T hK hP hD (gm_13 hG) fg_123 rfl) rfl rfl hl.1 rfl (lv_room (Nat.le_of_ble_eq_true rfl)) dX4_readBeat_89 ⟨Nat.le_of_ble_eq_true rfl, Nat.le_of_ble_eq_true rfl⟩) hD hS hA (fun u_124 H locs hw hP hD hS => ?_)
                  obtain ⟨r_124, f_124⟩ := u_124
                  obtain ⟨hI, hF_124, hTK_124, h01_124⟩ : IN jn cI cR cM g L S f_124 ∧ FR S [1, 13, 14] f_119 f_124 ∧ (TK g cI f_124) ∧ (r_124.toInt = 0 ∨ r_124.toInt = 1) := hw
                  have hP : va_P D vwCl (va_pl L f_124) H := hP
                  have hD : va_D A (va_pl L f_124) := hD
                  have hF := FR_tr hF hF_124 (by decide)
                  refine a_if_eq (u := r_124.toInt) (tgt := 104) hx hb dX4_readBeat_92 (by decide) (rfl) (fun c_125 => ?_) (fun c_125 => ?_)
                  · refine lv_iconst (v := 0) hx hb dX4_readBeat_104 (by decide) ?_
                    have hz_126 : (0 : Int32).toInt = 0 := by decide
                    exact g_zret ((0 : Int32), f_124) hx hb hr hlocks hS (by first | exact Or.inl rfl | exact Or.inr rfl) rfl (⟨hI, hF, show TK g cI f_124 from (by first | assumption | omega), show (0 : Int32).toInt = 0 ∨ (0 : Int32).toInt = 1 from (by first | assumption | omega)⟩) hP hD hQ (Nat.le_of_ble_eq_true rfl) (Nat.le_of_ble_eq_true rfl) dX4_readBeat_105
                  · refine lv_aload_n hx hb dX4_readBeat_95 rfl (lv_at hl 1 rfl) ?_
                    refine lv_bipush (v := 93) hx hb dX4_readBeat_96 (by decide) ?_
                    have hz_127 : (93 : Int32).toInt = 93 := by decide
                    obtain ⟨fa_128, pl_128, fg_128⟩ := op_13 hI (gm_13 hG) (gs_13 hG)
                    refine call_p (va_runV (As := [.int 93]) (rest := []) ⟨hx, hb, hml, hown, hts⟩ (t_X4_expect l D cI cR cM _  hj hG hI  (by first | assumption | omega)) (cwV 1 hts gX4_readBeat_X4_expect rfl rfl rfl (by decide +kernel) ⟨Nat.le_of_ble_eq_true rfl, Nat.le_of_ble_eq_true rfl⟩) (pre_T hK hP hD (gm_13 hG) fg_128 rfl) rfl rfl hl.1 rfl (lv_room (Nat.le_of_ble_eq_true rfl)) dX4_readBeat_98 ⟨Nat.le_of_ble_eq_true rfl, Nat.le_of_ble_eq_true rfl⟩) hD hS hA (fun u_129 H locs hw hP hD hS => ?_)
                    obtain ⟨r_129, f_129⟩ := u_129
                    obtain ⟨hI, hF_129, he_129, hTK_129, h01_129⟩ : IN jn cI cR cM g L S f_129 ∧ FR S [13, 14] f_124 f_129 ∧ (∀ cnt9 nx9 kd9 vl9 st9 ls9, f_124 (g 14) = .inr (8, [.ref (g 11), .ref (g 31), .ref (g 32), .ref (g 33), .int cnt9, .int nx9, .int kd9, .int vl9, .int st9, .int ls9]) → r_129.toInt = 1 → kd9.toInt = (93 : Int32).toInt) ∧ (TK g cI f_129) ∧ (r_129.toInt = 0 ∨ r_129.toInt = 1) := hw
                    have hP : va_P D vwCl (va_pl L f_129) H := hP
                    have hD : va_D A (va_pl L f_129) := hD
                    have hF := FR_tr hF hF_129 (by decide)
                    refine a_if_ne (u := r_129.toInt) (tgt := 106) hx hb dX4_readBeat_101 (by decide) (rfl) (fun c_130 => ?_) (fun c_130 => ?_)
                    · obtain ⟨z_131, q_131, e_131⟩ := i_inc (a := ju.toInt) (1) (rfl) (by decide) (by omega) (by omega)
                      refine lv_iinc (v := z_131) (lv' := [(2, .int z_131), (3, .int 1), (0, .ref (g 13)), (1, .ref b)]) hx hb dX4_readBeat_106 hl (k := 3) rfl q_131 (by decide) rfl (fun ls hl => ?_)
                      refine lv_goto (tgt := 10) hx hb dX4_readBeat_109 (by decide) ?_
                      exact ih10 z_131 f_129 _ _ _ (by omega) hI hF (by first | assumption | omega) (by first | assumption | omega) hP hD hS (lv_sub hl [2, 3, 0] rfl)
                    · refine lv_iconst (v := 0) hx hb dX4_readBeat_104 (by decide) ?_
                      have hz_132 : (0 : Int32).toInt = 0 := by decide
                      exact g_zret ((0 : Int32), f_129) hx hb hr hlocks hS (by first | exact Or.inl rfl | exact Or.inr rfl) rfl (⟨hI, hF, show TK g cI f_129 from (by first | assumption | omega), show (0 : Int32).toInt = 0 ∨ (0 : Int32).toInt = 1 from (by first | assumption | omega)⟩) hP hD hQ (Nat.le_of_ble_eq_true rfl) (Nat.le_of_ble_eq_true rfl) dX4_readBeat_105
            · refine lv_iconst (v := 0) hx hb dX4_readBeat_44 (by decide) ?_
              have hz_133 : (0 : Int32).toInt = 0 := by decide
              exact g_zret ((0 : Int32), f_105) hx hb hr hlocks hS (by first | exact Or.inl rfl | exact Or.inr rfl) rfl (⟨hI, hF, show TK g cI f_105 from (by first | assumption | omega), show (0 : Int32).toInt = 0 ∨ (0 : Int32).toInt = 1 from (by first | assumption | omega)⟩) hP hD hQ (Nat.le_of_ble_eq_true rfl) (Nat.le_of_ble_eq_true rfl) dX4_readBeat_45
  have hz_134 : (0 : Int32).toInt = 0 := by decide
  exact loop10 ((10 - (0 : Int32).toInt).toNat + 1) (0 : Int32) f_6 _ _ _ (by omega) hI hF (by first | assumption | omega) (by first | assumption | omega) hP hD hS (lv_sub hl [1, 2, 0] rfl)
set_option maxRecDepth 100000 in
set_option maxHeartbeats 4000000 in
theorem t_X4_readLetter (l : Launch) (D : va_G) (cI cR cM : ClassId) (sz : Nat) {jn : Nat} {g : Nat → Nat} {L : List Nat} {S : Sg} {f : Nat → va_E} {b b_p b_n : Nat} {b_l : Int32} {b_c : Nat → Int32}  (hj : 1 ≤ jn ∧ jn ≤ 3) (hG : SG g L S) (hI : IN jn cI cR cM g L S f) (m_b : b ∈ L) (s_b : S b = (0, b_p, b_n)) (f_b : f b = .inr (5, [.int (nI jn), .int (nI (2 * jn)), .ref b_p, .int b_l])) (f_b_p : f b_p = .inl (cI, b_n, .inl b_c)) (hTK : TK g cI f) : Met l yX4_readLetter wsX4_readLetter ({ frames := 2, cells := 0, slots := 0, locals := 88 }) (P0 D cI cR cM [.ref (g 13), .ref b] sz (va_pl L f)) (QG (S := Int32 × (Nat → va_E)) (fun u => some (.int u.1)) (fun u => va_pl L u.2) (fun u => IN jn cI cR cM g L S u.2 ∧ FR S [0, 1, 13, 14] f u.2 ∧ (TK g cI u.2) ∧ (u.1.toInt = 0 ∨ u.1.toInt = 1)) D (va_A (va_pl L f) sz)) 0 0 (va_A (va_pl L f) sz) := by
  refine go (cc := cX4_readLetter) (maxL := 4) (ret := (some .boolean)) (by decide +kernel) rfl (Nat.le_of_ble_eq_true rfl) ?_
  intro p e s m below meth c ls args Q hQ hsz hx hb hr hml hts hown hlocks hnm hP hK hD hl
  subst hsz
  have hD := hD.self (sz := s.heap.size)
  generalize hAe : va_A (va_pl L f) s.heap.size = A at hD hQ
  have hA : ∀ q, s.heap.size ≤ q → A q := fun q h => by rw [← hAe]; exact Or.inr h
  have hS : va_S A s.heap s.heap [] := va_S.rf
  have hF : FR S [0, 1, 13, 14] f f := FR_rf
  have hl : lv_has ls 4 [(0, .ref (g 13)), (1, .ref b)] := hl
  obtain ⟨v1_b, v2_b, v3_b, m_b_p, s_b_p⟩ := iv_0 hI m_b s_b f_b
  obtain ⟨w1_b, w2_b, w3_b, w4_b, w5_b⟩ := lenw hj v1_b v2_b v3_b
  have k_b := iv_1 hI m_b_p s_b_p f_b_p
  refine lv_aload_n hx hb dX4_readLetter_0 rfl (lv_at hl 0 rfl) ?_
  obtain ⟨fa_1, pl_1, fg_1⟩ := op_13 hI (gm_13 hG) (gs_13 hG)
  refine t_get (D := D) (L := L) (f := f) (ci := 4) (v := .ref (g 14)) (C := RX4) (T := TX4) (N := 11) hx hb hts (by decide +kernel) hown hK.1 hP (gm_13 hG) fg_1 rfl 1 (by decide) (hts (.fieldLink RX4 41 "JugglingHall$Reader" "tokens" "LJugglingHall$Tokens;") (by decide +kernel)) (fun _ h9 => h9) rfl dX4_readLetter_1 ?_
  obtain ⟨cnt_2, nx_2, kd_2, vl_2, st_2, ls_2, fg_2, iv0_2, iv1_2, iv2_2⟩ := op_14 hI (gm_14 hG) (gs_14 hG)
  refine t_getN (D := D) (L := L) (f := f) (ci := 8) (v := .int vl_2) (C := RX8) (T := TX8) (N := 10) (host := "JugglingHall") hx hb hts (by decide +kernel) hown hK.1 hP (gm_14 hG) fg_2 rfl 7 (by decide) (hK.nw (.fieldLinkNest RX4 113 "JugglingHall$Tokens" "value" "I" "JugglingHall") (by decide +kernel) rfl) (fun _ h9 => h9) rfl dX4_readLetter_4 ?_
  refine lv_istore_n (lv' := [(2, .int vl_2), (0, .ref (g 13)), (1, .ref b)]) hx hb dX4_readLetter_7 rfl hl (by decide) rfl (fun ls hl => ?_)
  refine lv_iload_n hx hb dX4_readLetter_8 rfl (lv_at hl 0 rfl) ?_
  refine a_if_lt (u := vl_2.toInt) (tgt := 18) hx hb dX4_readLetter_9 (by decide) (rfl) (fun c_3 => ?_) (fun c_3 => ?_)
  · refine lv_aload_n hx hb dX4_readLetter_18 rfl (lv_at hl 1 rfl) ?_
    refine lv_iconst (v := 1) hx hb dX4_readLetter_19 (by decide) ?_
    have hz_4 : (1 : Int32).toInt = 1 := by decide
    refine call_p (va_runV (As := [.int 1]) (rest := []) ⟨hx, hb, hml, hown, hts⟩ (t_X4_fail l D cI cR cM _  hj hG hI  ) (cwV 1 hts gX4_readLetter_X4_fail rfl rfl rfl (by decide +kernel) ⟨Nat.le_of_ble_eq_true rfl, Nat.le_of_ble_eq_true rfl⟩) (pre_T hK hP hD (gm_13 hG) fg_1 rfl) rfl rfl hl.1 rfl (lv_room (Nat.le_of_ble_eq_true rfl)) dX4_readLetter_20 ⟨Nat.le_of_ble_eq_true rfl, Nat.le_of_ble_eq_true rfl⟩) hD hS hA (fun u_5 H locs hw hP hD hS => ?_)
    obtain ⟨r_5, f_5⟩ := u_5
    obtain ⟨hI, hF_5, h0_5, h01_5⟩ : IN jn cI cR cM g L S f_5 ∧ FR S [13] f f_5 ∧ (r_5.toInt = 0) ∧ (r_5.toInt = 0 ∨ r_5.toInt = 1) := hw
    have hP : va_P D vwCl (va_pl L f_5) H := hP
    have hD : va_D A (va_pl L f_5) := hD
    have hF := FR_tr hF hF_5 (by decide)
    have hTK_5 : TK g cI f_5 := TK_fr (f := f) (by assumption) hG hF_5 (by decide)
    have fb_6 : f_5 b = .inr (5, [.int (nI jn), .int (nI (2 * jn)), .ref b_p, .int b_l]) := FR_at hF_5 s_b (show (0 : Nat) ∉ ([13] : List Nat) by decide) f_b
    have fb_7 : f_5 b_p = .inl (cI, b_n, .inl b_c) := FR_at hF_5 s_b_p (show (1 : Nat) ∉ ([13] : List Nat) by decide) f_b_p
    have fb_8 : f_5 (g 14) = .inr (8, [.ref (g 11), .ref (g 31), .ref (g 32), .ref (g 33), .int cnt_2, .int nx_2, .int kd_2, .int vl_2, .int st_2, .int ls_2]) := FR_at hF_5 (gs_14 hG) (show (14 : Nat) ∉ ([13] : List Nat) by decide) fg_2
    exact g_zret (r_5, f_5) hx hb hr hlocks hS (b01 (by omega)) rfl (⟨hI, hF, show TK g cI f_5 from (by first | assumption | omega), show r_5.toInt = 0 ∨ r_5.toInt = 1 from (by first | assumption | omega)⟩) hP hD hQ (Nat.le_of_ble_eq_true rfl) (Nat.le_of_ble_eq_true rfl) dX4_readLetter_23
  · refine lv_iload_n hx hb dX4_readLetter_12 rfl (lv_at hl 0 rfl) ?_
    refine lv_bipush (v := 8) hx hb dX4_readLetter_13 (by decide) ?_
    refine a_icmp_lt (u := vl_2.toInt) (v := 8) (tgt := 24) hx hb dX4_readLetter_15 (by decide) (rfl) (by decide) (fun c_9 => ?_) (fun c_9 => ?_)
    · refine lv_aload_n hx hb dX4_readLetter_24 rfl (lv_at hl 1 rfl) ?_
      refine t_get (D := D) (L := L) (f := f) (ci := 4) (v := .ref (g 23)) (C := RX4) (T := TX4) (N := 11) hx hb hts (by decide +kernel) hown hK.1 hP (gm_13 hG) fg_1 rfl 5 (by decide) (hts (.fieldLink RX4 21 "JugglingHall$Reader" "here" "[LJugglingHall$Row;") (by decide +kernel)) (fun _ h9 => h9) rfl dX4_readLetter_25 ?_
      refine lv_iload_n hx hb dX4_readLetter_28 rfl (lv_at hl 0 rfl) ?_
      obtain ⟨c_10, fg_10, iv0_10⟩ := op_23 hI (gm_23 hG) (gs_23 hG)
      refine t_aald (L := L) (f := f) (y := c_10) (u := vl_2.toInt) hx hb hK.1 hP (gm_23 hG) 1 fg_10 rfl dX4_readLetter_29 (rfl) (by omega) (fun w_11 q_11 => ?_)
      obtain ⟨r_11, p_11, n_11, er_11, m_11, s_11⟩ := iv0_10 vl_2.toInt (by omega) (by omega)
      have q_11 := q_11.trans er_11
      subst q_11
      refine W.eq (g2 := F0 m 30 ls [.ref r_11]) rfl ?_
      obtain ⟨len_12, fg_12, v1_12, v2_12, v3_12, mp_12, sp_12⟩ := op_0 hI m_11 s_11
      obtain ⟨w1_12, w2_12, w3_12, w4_12, w5_12⟩ := lenw hj v1_12 v2_12 v3_12
      refine t_getN (D := D) (L := L) (f := f) (ci := 5) (v := .int len_12) (C := RX5) (T := TX5) (N := 4) (host := "JugglingHall") hx hb hts (by decide +kernel) hown hK.1 hP m_11 fg_12 rfl 3 (by decide) (hK.nw (.fieldLinkNest RX4 62 "JugglingHall$Row" "length" "I" "JugglingHall") (by decide +kernel) rfl) (fun _ h9 => h9) rfl dX4_readLetter_30 ?_
      refine a_if_le (u := len_12.toInt) (tgt := 45) hx hb dX4_readLetter_33 (by decide) (rfl) (fun c_13 => ?_) (fun c_13 => ?_)
      · refine lv_aload_n hx hb dX4_readLetter_45 rfl (lv_at hl 1 rfl) ?_
        refine t_get (D := D) (L := L) (f := f) (ci := 4) (v := .ref (g 12)) (C := RX4) (T := TX4) (N := 11) hx hb hts (by decide +kernel) hown hK.1 hP (gm_13 hG) fg_1 rfl 2 (by decide) (hts (.fieldLink RX4 45 "JugglingHall$Reader" "book" "LJugglingHall$Book;") (by decide +kernel)) (fun _ h9 => h9) rfl dX4_readLetter_46 ?_
        refine lv_iload_n hx hb dX4_readLetter_49 rfl (lv_at hl 0 rfl) ?_
        obtain ⟨tm_14, lk_14, fg_14, iv0_14, iv1_14, iv2_14⟩ := op_12 hI (gm_12 hG) (gs_12 hG)
        refine roR (va_runV (As := [.int vl_2]) (rest := []) ⟨hx, hb, hml, hown, hts⟩ (t_X0_rowLatest l D cI cR cM _  hj hG hI  ) (cwV 1 hts gX4_readLetter_X0_rowLatest rfl rfl rfl (by decide +kernel) ⟨Nat.le_of_ble_eq_true rfl, Nat.le_of_ble_eq_true rfl⟩) (pre_T hK hP hD (gm_12 hG) fg_14 rfl) rfl rfl hl.1 rfl (lv_room (Nat.le_of_ble_eq_true rfl)) dX4_readLetter_50 ⟨Nat.le_of_ble_eq_true rfl, Nat.le_of_ble_eq_true rfl⟩) hS hA hP (fun w_15 H locs hw hP hS => ?_)
        have ho_15 : (∀ z, w_15 = some z → ∃ p n, isRow L S z p n) := hw
        rcases x_opt w_15 with e_16 | ⟨r_16, e_16⟩
        · subst e_16
          refine W.eq (g2 := F0 m 53 ls [.null]) rfl ?_
          have hl : lv_has ls 4 [(2, .int vl_2), (0, .ref (g 13)), (1, .ref b)] := hl
          refine lv_astore_nN (lv' := [(3, .null), (2, .int vl_2), (0, .ref (g 13)), (1, .ref b)]) hx hb dX4_readLetter_53 rfl hl (by decide) rfl (fun ls hl => ?_)
          refine lv_aload_nN hx hb dX4_readLetter_54 rfl (lv_at hl 0 rfl) ?_
          refine lv_ifnonnullN hx hb dX4_readLetter_55 ?_
          refine lv_aload_n hx hb dX4_readLetter_58 rfl (lv_at hl 2 rfl) ?_
          refine lv_bipush (v := 6) hx hb dX4_readLetter_59 (by decide) ?_
          have hz_17 : (6 : Int32).toInt = 6 := by decide
          refine call_p (va_runV (As := [.int 6]) (rest := []) ⟨hx, hb, hml, hown, hts⟩ (t_X4_fail l D cI cR cM _  hj hG hI  ) (cwV 1 hts gX4_readLetter_X4_fail rfl rfl rfl (by decide +kernel) ⟨Nat.le_of_ble_eq_true rfl, Nat.le_of_ble_eq_true rfl⟩) (pre_T hK hP hD (gm_13 hG) fg_1 rfl) rfl rfl hl.1 rfl (lv_room (Nat.le_of_ble_eq_true rfl)) dX4_readLetter_61 ⟨Nat.le_of_ble_eq_true rfl, Nat.le_of_ble_eq_true rfl⟩) hD hS hA (fun u_18 H locs hw hP hD hS => ?_)
          obtain ⟨r_18, f_18⟩ := u_18
          obtain ⟨hI, hF_18, h0_18, h01_18⟩ : IN jn cI cR cM g L S f_18 ∧ FR S [13] f f_18 ∧ (r_18.toInt = 0) ∧ (r_18.toInt = 0 ∨ r_18.toInt = 1) := hw
          have hP : va_P D vwCl (va_pl L f_18) H := hP
          have hD : va_D A (va_pl L f_18) := hD
          have hF := FR_tr hF hF_18 (by decide)
          have hTK_18 : TK g cI f_18 := TK_fr (f := f) (by assumption) hG hF_18 (by decide)
          have fb_19 : f_18 b = .inr (5, [.int (nI jn), .int (nI (2 * jn)), .ref b_p, .int b_l]) := FR_at hF_18 s_b (show (0 : Nat) ∉ ([13] : List Nat) by decide) f_b
          have fb_20 : f_18 b_p = .inl (cI, b_n, .inl b_c) := FR_at hF_18 s_b_p (show (1 : Nat) ∉ ([13] : List Nat) by decide) f_b_p
          have fb_21 : f_18 (g 14) = .inr (8, [.ref (g 11), .ref (g 31), .ref (g 32), .ref (g 33), .int cnt_2, .int nx_2, .int kd_2, .int vl_2, .int st_2, .int ls_2]) := FR_at hF_18 (gs_14 hG) (show (14 : Nat) ∉ ([13] : List Nat) by decide) fg_2
          have fb_22 : f_18 (g 23) = .inl (cR, 8, .inr (.inr (.inr (.inr c_10)))) := FR_at hF_18 (gs_23 hG) (show (23 : Nat) ∉ ([13] : List Nat) by decide) fg_10
          have fb_23 : f_18 r_11 = .inr (5, [.int (nI jn), .int (nI (2 * jn)), .ref p_11, .int len_12]) := FR_at hF_18 s_11 (show (0 : Nat) ∉ ([13] : List Nat) by decide) fg_12
          have fb_24 : f_18 (g 12) = .inr (0, [.ref (g 20), .ref (g 21), .int tm_14, .int lk_14]) := FR_at hF_18 (gs_12 hG) (show (12 : Nat) ∉ ([13] : List Nat) by decide) fg_14
          exact g_zret (r_18, f_18) hx hb hr hlocks hS (b01 (by omega)) rfl (⟨hI, hF, show TK g cI f_18 from (by first | assumption | omega), show r_18.toInt = 0 ∨ r_18.toInt = 1 from (by first | assumption | omega)⟩) hP hD hQ (Nat.le_of_ble_eq_true rfl) (Nat.le_of_ble_eq_true rfl) dX4_readLetter_64
        · subst e_16
          refine W.eq (g2 := F0 m 53 ls [.ref r_16]) rfl ?_
          have hl : lv_has ls 4 [(2, .int vl_2), (0, .ref (g 13)), (1, .ref b)] := hl
          obtain ⟨p_25, n_25, m_25, s_25⟩ := ho_15 _ rfl
          refine lv_astore_n (lv' := [(3, .ref r_16), (2, .int vl_2), (0, .ref (g 13)), (1, .ref b)]) hx hb dX4_readLetter_53 rfl hl (by decide) rfl (fun ls hl => ?_)
          refine lv_aload_n hx hb dX4_readLetter_54 rfl (lv_at hl 0 rfl) ?_
          refine lv_ifnonnull (tgt := 65) hx hb dX4_readLetter_55 (by decide) ?_
          refine lv_aload_n hx hb dX4_readLetter_65 rfl (lv_at hl 2 rfl) ?_
          refine t_get (D := D) (L := L) (f := f) (ci := 4) (v := .ref (g 14)) (C := RX4) (T := TX4) (N := 11) hx hb hts (by decide +kernel) hown hK.1 hP (gm_13 hG) fg_1 rfl 1 (by decide) (hts (.fieldLink RX4 41 "JugglingHall$Reader" "tokens" "LJugglingHall$Tokens;") (by decide +kernel)) (fun _ h9 => h9) rfl dX4_readLetter_66 ?_
          refine call_p (va_runV (As := []) (rest := []) ⟨hx, hb, hml, hown, hts⟩ (t_X8_advance l D cI cR cM _  hj hG hI  (by first | assumption | omega)) (cwV 0 hts gX4_readLetter_X8_advance rfl rfl rfl (by decide +kernel) ⟨Nat.le_of_ble_eq_true rfl, Nat.le_of_ble_eq_true rfl⟩) (pre_T hK hP hD (gm_14 hG) fg_2 rfl) rfl rfl hl.1 rfl (lv_room (Nat.le_of_ble_eq_true rfl)) dX4_readLetter_69 ⟨Nat.le_of_ble_eq_true rfl, Nat.le_of_ble_eq_true rfl⟩) hD hS hA (fun u_26 H locs hw hP hD hS => ?_)
          obtain ⟨f_26, e0_26⟩ : ∃ x, x = u_26 := ⟨_, rfl⟩
          subst e0_26
          obtain ⟨hI, hF_26, hTK_26⟩ : IN jn cI cR cM g L S f_26 ∧ FR S [14] f f_26 ∧ (TK g cI f_26) := hw
          have hP : va_P D vwCl (va_pl L f_26) H := hP
          have hD : va_D A (va_pl L f_26) := hD
          have hF := FR_tr hF hF_26 (by decide)
          have fb_27 : f_26 b = .inr (5, [.int (nI jn), .int (nI (2 * jn)), .ref b_p, .int b_l]) := FR_at hF_26 s_b (show (0 : Nat) ∉ ([14] : List Nat) by decide) f_b
          have fb_28 : f_26 b_p = .inl (cI, b_n, .inl b_c) := FR_at hF_26 s_b_p (show (1 : Nat) ∉ ([14] : List Nat) by decide) f_b_p
          have fb_29 : f_26 (g 13) = .inr (4, [.int (nI jn), .ref (g 14), .ref (g 12), .ref (g 22), .ref (g 34), .ref (g 23), .ref (g 24), .ref (g 25), .ref (g 26), .int fa_1, .int pl_1]) := FR_at hF_26 (gs_13 hG) (show (13 : Nat) ∉ ([14] : List Nat) by decide) fg_1
          have fb_30 : f_26 (g 23) = .inl (cR, 8, .inr (.inr (.inr (.inr c_10)))) := FR_at hF_26 (gs_23 hG) (show (23 : Nat) ∉ ([14] : List Nat) by decide) fg_10
          have fb_31 : f_26 r_11 = .inr (5, [.int (nI jn), .int (nI (2 * jn)), .ref p_11, .int len_12]) := FR_at hF_26 s_11 (show (0 : Nat) ∉ ([14] : List Nat) by decide) fg_12
          have fb_32 : f_26 (g 12) = .inr (0, [.ref (g 20), .ref (g 21), .int tm_14, .int lk_14]) := FR_at hF_26 (gs_12 hG) (show (12 : Nat) ∉ ([14] : List Nat) by decide) fg_14
          refine lv_aload_n hx hb dX4_readLetter_72 rfl (lv_at hl 3 rfl) ?_
          refine lv_aload_n hx hb dX4_readLetter_73 rfl (lv_at hl 0 rfl) ?_
          refine lv_iconst (v := 0) hx hb dX4_readLetter_74 (by decide) ?_
          refine lv_aload_n hx hb dX4_readLetter_75 rfl (lv_at hl 0 rfl) ?_
          obtain ⟨len_33, fg_33, v1_33, v2_33, v3_33, mp_33, sp_33⟩ := op_0 hI m_25 s_25
          obtain ⟨w1_33, w2_33, w3_33, w4_33, w5_33⟩ := lenw hj v1_33 v2_33 v3_33
          refine t_getN (D := D) (L := L) (f := f_26) (ci := 5) (v := .int len_33) (C := RX5) (T := TX5) (N := 4) (host := "JugglingHall") hx hb hts (by decide +kernel) hown hK.1 hP m_25 fg_33 rfl 3 (by decide) (hK.nw (.fieldLinkNest RX4 62 "JugglingHall$Row" "length" "I" "JugglingHall") (by decide +kernel) rfl) (fun _ h9 => h9) rfl dX4_readLetter_76 ?_
          have hz_34 : (0 : Int32).toInt = 0 := by decide
          obtain ⟨c_35, fg_35, iv0_35⟩ := op_1 hI mp_33 sp_33
          refine call_p (va_runV (As := [.ref r_16, .int 0, .int len_33]) (rest := []) ⟨hx, hb, hml, hown, hts⟩ (t_X5_append l D cI cR cM _  hj hG hI m_b s_b fb_27 fb_28 m_25 s_25 fg_33 fg_35 (by first | assumption | omega) (by first | assumption | omega)) (cwV 3 hts gX4_readLetter_X5_append rfl rfl rfl (by decide +kernel) ⟨Nat.le_of_ble_eq_true rfl, Nat.le_of_ble_eq_true rfl⟩) (pre_T hK hP hD m_b fb_27 rfl) rfl rfl hl.1 rfl (lv_room (Nat.le_of_ble_eq_true rfl)) dX4_readLetter_79 ⟨Nat.le_of_ble_eq_true rfl, Nat.le_of_ble_eq_true rfl⟩) hD hS hA (fun u_36 H locs hw hP hD hS => ?_)
          obtain ⟨r_36, f_36⟩ := u_36
          obtain ⟨hI, hF_36, h01_36⟩ : IN jn cI cR cM g L S f_36 ∧ FR S [0, 1] f_26 f_36 ∧ (r_36.toInt = 0 ∨ r_36.toInt = 1) := hw
          have hP : va_P D vwCl (va_pl L f_36) H := hP
          have hD : va_D A (va_pl L f_36) := hD
          have hF := FR_tr hF hF_36 (by decide)
          have hTK_36 : TK g cI f_36 := TK_fr (f := f_26) (by assumption) hG hF_36 (by decide)
          have fb_37 : f_36 (g 13) = .inr (4, [.int (nI jn), .ref (g 14), .ref (g 12), .ref (g 22), .ref (g 34), .ref (g 23), .ref (g 24), .ref (g 25), .ref (g 26), .int fa_1, .int pl_1]) := FR_at hF_36 (gs_13 hG) (show (13 : Nat) ∉ ([0, 1] : List Nat) by decide) fb_29
          have fb_38 : f_36 (g 23) = .inl (cR, 8, .inr (.inr (.inr (.inr c_10)))) := FR_at hF_36 (gs_23 hG) (show (23 : Nat) ∉ ([0, 1] : List Nat) by decide) fb_30
          have fb_39 : f_36 (g 12) = .inr (0, [.ref (g 20), .ref (g 21), .int tm_14, .int lk_14]) := FR_at hF_36 (gs_12 hG) (show (12 : Nat) ∉ ([0, 1] : List Nat) by decide) fb_32
          refine a_if_ne (u := r_36.toInt) (tgt := 93) hx hb dX4_readLetter_82 (by decide) (rfl) (fun c_40 => ?_) (fun c_40 => ?_)
          · refine lv_iconst (v := 1) hx hb dX4_readLetter_93 (by decide) ?_
            refine lv_goto (tgt := 98) hx hb dX4_readLetter_94 (by decide) ?_
            have hz_41 : (1 : Int32).toInt = 1 := by decide
            exact g_zret ((1 : Int32), f_36) hx hb hr hlocks hS (by first | exact Or.inl rfl | exact Or.inr rfl) rfl (⟨hI, hF, show TK g cI f_36 from (by first | assumption | omega), show (1 : Int32).toInt = 0 ∨ (1 : Int32).toInt = 1 from (by first | assumption | omega)⟩) hP hD hQ (Nat.le_of_ble_eq_true rfl) (Nat.le_of_ble_eq_true rfl) dX4_readLetter_98
          · refine lv_aload_n hx hb dX4_readLetter_85 rfl (lv_at hl 2 rfl) ?_
            refine lv_iconst (v := 4) hx hb dX4_readLetter_86 (by decide) ?_
            have hz_42 : (4 : Int32).toInt = 4 := by decide
            refine call_p (va_runV (As := [.int 4]) (rest := []) ⟨hx, hb, hml, hown, hts⟩ (t_X4_failBehind l D cI cR cM _  hj hG hI  ) (cwV 1 hts gX4_readLetter_X4_failBehind rfl rfl rfl (by decide +kernel) ⟨Nat.le_of_ble_eq_true rfl, Nat.le_of_ble_eq_true rfl⟩) (pre_T hK hP hD (gm_13 hG) fb_37 rfl) rfl rfl hl.1 rfl (lv_room (Nat.le_of_ble_eq_true rfl)) dX4_readLetter_87 ⟨Nat.le_of_ble_eq_true rfl, Nat.le_of_ble_eq_true rfl⟩) hD hS hA (fun u_43 H locs hw hP hD hS => ?_)
            obtain ⟨r_43, f_43⟩ := u_43
            obtain ⟨hI, hF_43, h0_43, h01_43⟩ : IN jn cI cR cM g L S f_43 ∧ FR S [13] f_36 f_43 ∧ (r_43.toInt = 0) ∧ (r_43.toInt = 0 ∨ r_43.toInt = 1) := hw
            have hP : va_P D vwCl (va_pl L f_43) H := hP
            have hD : va_D A (va_pl L f_43) := hD
            have hF := FR_tr hF hF_43 (by decide)
            have hTK_43 : TK g cI f_43 := TK_fr (f := f_36) (by assumption) hG hF_43 (by decide)
            have fb_44 : f_43 (g 23) = .inl (cR, 8, .inr (.inr (.inr (.inr c_10)))) := FR_at hF_43 (gs_23 hG) (show (23 : Nat) ∉ ([13] : List Nat) by decide) fb_38
            have fb_45 : f_43 (g 12) = .inr (0, [.ref (g 20), .ref (g 21), .int tm_14, .int lk_14]) := FR_at hF_43 (gs_12 hG) (show (12 : Nat) ∉ ([13] : List Nat) by decide) fb_39
            refine a_if_eq (u := r_43.toInt) (tgt := 97) hx hb dX4_readLetter_90 (by decide) (rfl) (fun c_46 => ?_) (fun c_46 => ?_)
            · refine lv_iconst (v := 0) hx hb dX4_readLetter_97 (by decide) ?_
              have hz_47 : (0 : Int32).toInt = 0 := by decide
              exact g_zret ((0 : Int32), f_43) hx hb hr hlocks hS (by first | exact Or.inl rfl | exact Or.inr rfl) rfl (⟨hI, hF, show TK g cI f_43 from (by first | assumption | omega), show (0 : Int32).toInt = 0 ∨ (0 : Int32).toInt = 1 from (by first | assumption | omega)⟩) hP hD hQ (Nat.le_of_ble_eq_true rfl) (Nat.le_of_ble_eq_true rfl) dX4_readLetter_98
            · refine lv_iconst (v := 1) hx hb dX4_readLetter_93 (by decide) ?_
              refine lv_goto (tgt := 98) hx hb dX4_readLetter_94 (by decide) ?_
              have hz_48 : (1 : Int32).toInt = 1 := by decide
              exact g_zret ((1 : Int32), f_43) hx hb hr hlocks hS (by first | exact Or.inl rfl | exact Or.inr rfl) rfl (⟨hI, hF, show TK g cI f_43 from (by first | assumption | omega), show (1 : Int32).toInt = 0 ∨ (1 : Int32).toInt = 1 from (by first | assumption | omega)⟩) hP hD hQ (Nat.le_of_ble_eq_true rfl) (Nat.le_of_ble_eq_true rfl) dX4_readLetter_98
      · refine lv_aload_n hx hb dX4_readLetter_36 rfl (lv_at hl 1 rfl) ?_
        refine t_get (D := D) (L := L) (f := f) (ci := 4) (v := .ref (g 23)) (C := RX4) (T := TX4) (N := 11) hx hb hts (by decide +kernel) hown hK.1 hP (gm_13 hG) fg_1 rfl 5 (by decide) (hts (.fieldLink RX4 21 "JugglingHall$Reader" "here" "[LJugglingHall$Row;") (by decide +kernel)) (fun _ h9 => h9) rfl dX4_readLetter_37 ?_
        refine lv_iload_n hx hb dX4_readLetter_40 rfl (lv_at hl 0 rfl) ?_
        refine t_aald (L := L) (f := f) (y := c_10) (u := vl_2.toInt) hx hb hK.1 hP (gm_23 hG) 1 fg_10 rfl dX4_readLetter_41 (rfl) (by omega) (fun w_49 q_49 => ?_)
        obtain ⟨r_49, p_49, n_49, er_49, m_49, s_49⟩ := iv0_10 vl_2.toInt (by omega) (by omega)
        have q_49 := q_49.trans er_49
        subst q_49
        refine W.eq (g2 := F0 m 42 ls [.ref r_49]) rfl ?_
        refine lv_goto (tgt := 53) hx hb dX4_readLetter_42 (by decide) ?_
        refine lv_astore_n (lv' := [(3, .ref r_49), (2, .int vl_2), (0, .ref (g 13)), (1, .ref b)]) hx hb dX4_readLetter_53 rfl hl (by decide) rfl (fun ls hl => ?_)
        refine lv_aload_n hx hb dX4_readLetter_54 rfl (lv_at hl 0 rfl) ?_
        refine lv_ifnonnull (tgt := 65) hx hb dX4_readLetter_55 (by decide) ?_
        refine lv_aload_n hx hb dX4_readLetter_65 rfl (lv_at hl 2 rfl) ?_
        refine t_get (D := D) (L := L) (f := f) (ci := 4) (v := .ref (g 14)) (C := RX4) (T := TX4) (N := 11) hx hb hts (by decide +kernel) hown hK.1 hP (gm_13 hG) fg_1 rfl 1 (by decide) (hts (.fieldLink RX4 41 "JugglingHall$Reader" "tokens" "LJugglingHall$Tokens;") (by decide +kernel)) (fun _ h9 => h9) rfl dX4_readLetter_66 ?_
        refine call_p (va_runV (As := []) (rest := []) ⟨hx, hb, hml, hown, hts⟩ (t_X8_advance l D cI cR cM _  hj hG hI  (by first | assumption | omega)) (cwV 0 hts gX4_readLetter_X8_advance rfl rfl rfl (by decide +kernel) ⟨Nat.le_of_ble_eq_true rfl, Nat.le_of_ble_eq_true rfl⟩) (pre_T hK hP hD (gm_14 hG) fg_2 rfl) rfl rfl hl.1 rfl (lv_room (Nat.le_of_ble_eq_true rfl)) dX4_readLetter_69 ⟨Nat.le_of_ble_eq_true rfl, Nat.le_of_ble_eq_true rfl⟩) hD hS hA (fun u_50 H locs hw hP hD hS => ?_)
        obtain ⟨f_50, e0_50⟩ : ∃ x, x = u_50 := ⟨_, rfl⟩
        subst e0_50
        obtain ⟨hI, hF_50, hTK_50⟩ : IN jn cI cR cM g L S f_50 ∧ FR S [14] f f_50 ∧ (TK g cI f_50) := hw
        have hP : va_P D vwCl (va_pl L f_50) H := hP
        have hD : va_D A (va_pl L f_50) := hD
        have hF := FR_tr hF hF_50 (by decide)
        have fb_51 : f_50 b = .inr (5, [.int (nI jn), .int (nI (2 * jn)), .ref b_p, .int b_l]) := FR_at hF_50 s_b (show (0 : Nat) ∉ ([14] : List Nat) by decide) f_b
        have fb_52 : f_50 b_p = .inl (cI, b_n, .inl b_c) := FR_at hF_50 s_b_p (show (1 : Nat) ∉ ([14] : List Nat) by decide) f_b_p
        have fb_53 : f_50 (g 13) = .inr (4, [.int (nI jn), .ref (g 14), .ref (g 12), .ref (g 22), .ref (g 34), .ref (g 23), .ref (g 24), .ref (g 25), .ref (g 26), .int fa_1, .int pl_1]) := FR_at hF_50 (gs_13 hG) (show (13 : Nat) ∉ ([14] : List Nat) by decide) fg_1
        have fb_54 : f_50 (g 23) = .inl (cR, 8, .inr (.inr (.inr (.inr c_10)))) := FR_at hF_50 (gs_23 hG) (show (23 : Nat) ∉ ([14] : List Nat) by decide) fg_10
        have fb_55 : f_50 r_11 = .inr (5, [.int (nI jn), .int (nI (2 * jn)), .ref p_11, .int len_12]) := FR_at hF_50 s_11 (show (0 : Nat) ∉ ([14] : List Nat) by decide) fg_12
        refine lv_aload_n hx hb dX4_readLetter_72 rfl (lv_at hl 3 rfl) ?_
        refine lv_aload_n hx hb dX4_readLetter_73 rfl (lv_at hl 0 rfl) ?_
        refine lv_iconst (v := 0) hx hb dX4_readLetter_74 (by decide) ?_
        refine lv_aload_n hx hb dX4_readLetter_75 rfl (lv_at hl 0 rfl) ?_
        obtain ⟨len_56, fg_56, v1_56, v2_56, v3_56, mp_56, sp_56⟩ := op_0 hI m_49 s_49
        obtain ⟨w1_56, w2_56, w3_56, w4_56, w5_56⟩ := lenw hj v1_56 v2_56 v3_56
        refine t_getN (D := D) (L := L) (f := f_50) (ci := 5) (v := .int len_56) (C := RX5) (T := TX5) (N := 4) (host := "JugglingHall") hx hb hts (by decide +kernel) hown hK.1 hP m_49 fg_56 rfl 3 (by decide) (hK.nw (.fieldLinkNest RX4 62 "JugglingHall$Row" "length" "I" "JugglingHall") (by decide +kernel) rfl) (fun _ h9 => h9) rfl dX4_readLetter_76 ?_
        have hz_57 : (0 : Int32).toInt = 0 := by decide
        obtain ⟨c_58, fg_58, iv0_58⟩ := op_1 hI mp_56 sp_56
        refine call_p (va_runV (As := [.ref r_49, .int 0, .int len_56]) (rest := []) ⟨hx, hb, hml, hown, hts⟩ (t_X5_append l D cI cR cM _  hj hG hI m_b s_b fb_51 fb_52 m_49 s_49 fg_56 fg_58 (by first | assumption | omega) (by first | assumption | omega)) (cwV 3 hts gX4_readLetter_X5_append rfl rfl rfl (by decide +kernel) ⟨Nat.le_of_ble_eq_true rfl, Nat.le_of_ble_eq_true rfl⟩) (pre_T hK hP hD m_b fb_51 rfl) rfl rfl hl.1 rfl (lv_room (Nat.le_of_ble_eq_true rfl)) dX4_readLetter_79 ⟨Nat.le_of_ble_eq_true rfl, Nat.le_of_ble_eq_true rfl⟩) hD hS hA (fun u_59 H locs hw hP hD hS => ?_)
        obtain ⟨r_59, f_59⟩ := u_59
        obtain ⟨hI, hF_59, h01_59⟩ : IN jn cI cR cM g L S f_59 ∧ FR S [0, 1] f_50 f_59 ∧ (r_59.toInt = 0 ∨ r_59.toInt = 1) := hw
        have hP : va_P D vwCl (va_pl L f_59) H := hP
        have hD : va_D A (va_pl L f_59) := hD
        have hF := FR_tr hF hF_59 (by decide)
        have hTK_59 : TK g cI f_59 := TK_fr (f := f_50) (by assumption) hG hF_59 (by decide)
        have fb_60 : f_59 (g 13) = .inr (4, [.int (nI jn), .ref (g 14), .ref (g 12), .ref (g 22), .ref (g 34), .ref (g 23), .ref (g 24), .ref (g 25), .ref (g 26), .int fa_1, .int pl_1]) := FR_at hF_59 (gs_13 hG) (show (13 : Nat) ∉ ([0, 1] : List Nat) by decide) fb_53
        have fb_61 : f_59 (g 23) = .inl (cR, 8, .inr (.inr (.inr (.inr c_10)))) := FR_at hF_59 (gs_23 hG) (show (23 : Nat) ∉ ([0, 1] : List Nat) by decide) fb_54
        refine a_if_ne (u := r_59.toInt) (tgt := 93) hx hb dX4_readLetter_82 (by decide) (rfl) (fun c_62 => ?_) (fun c_62 => ?_)
        · refine lv_iconst (v := 1) hx hb dX4_readLetter_93 (by decide) ?_
          refine lv_goto (tgt := 98) hx hb dX4_readLetter_94 (by decide) ?_
          have hz_63 : (1 : Int32).toInt = 1 := by decide
          exact g_zret ((1 : Int32), f_59) hx hb hr hlocks hS (by first | exact Or.inl rfl | exact Or.inr rfl) rfl (⟨hI, hF, show TK g cI f_59 from (by first | assumption | omega), show (1 : Int32).toInt = 0 ∨ (1 : Int32).toInt = 1 from (by first | assumption | omega)⟩) hP hD hQ (Nat.le_of_ble_eq_true rfl) (Nat.le_of_ble_eq_true rfl) dX4_readLetter_98
        · refine lv_aload_n hx hb dX4_readLetter_85 rfl (lv_at hl 2 rfl) ?_
          refine lv_iconst (v := 4) hx hb dX4_readLetter_86 (by decide) ?_
          have hz_64 : (4 : Int32).toInt = 4 := by decide
          refine call_p (va_runV (As := [.int 4]) (rest := []) ⟨hx, hb, hml, hown, hts⟩ (t_X4_failBehind l D cI cR cM _  hj hG hI  ) (cwV 1 hts gX4_readLetter_X4_failBehind rfl rfl rfl (by decide +kernel) ⟨Nat.le_of_ble_eq_true rfl, Nat.le_of_ble_eq_true rfl⟩) (pre_T hK hP hD (gm_13 hG) fb_60 rfl) rfl rfl hl.1 rfl (lv_room (Nat.le_of_ble_eq_true rfl)) dX4_readLetter_87 ⟨Nat.le_of_ble_eq_true rfl, Nat.le_of_ble_eq_true rfl⟩) hD hS hA (fun u_65 H locs hw hP hD hS => ?_)
          obtain ⟨r_65, f_65⟩ := u_65
          obtain ⟨hI, hF_65, h0_65, h01_65⟩ : IN jn cI cR cM g L S f_65 ∧ FR S [13] f_59 f_65 ∧ (r_65.toInt = 0) ∧ (r_65.toInt = 0 ∨ r_65.toInt = 1) := hw
          have hP : va_P D vwCl (va_pl L f_65) H := hP
          have hD : va_D A (va_pl L f_65) := hD
          have hF := FR_tr hF hF_65 (by decide)
          have hTK_65 : TK g cI f_65 := TK_fr (f := f_59) (by assumption) hG hF_65 (by decide)
          have fb_66 : f_65 (g 23) = .inl (cR, 8, .inr (.inr (.inr (.inr c_10)))) := FR_at hF_65 (gs_23 hG) (show (23 : Nat) ∉ ([13] : List Nat) by decide) fb_61
          refine a_if_eq (u := r_65.toInt) (tgt := 97) hx hb dX4_readLetter_90 (by decide) (rfl) (fun c_67 => ?_) (fun c_67 => ?_)
          · refine lv_iconst (v := 0) hx hb dX4_readLetter_97 (by decide) ?_
            have hz_68 : (0 : Int32).toInt = 0 := by decide
            exact g_zret ((0 : Int32), f_65) hx hb hr hlocks hS (by first | exact Or.inl rfl | exact Or.inr rfl) rfl (⟨hI, hF, show TK g cI f_65 from (by first | assumption | omega), show (0 : Int32).toInt = 0 ∨ (0 : Int32).toInt = 1 from (by first | assumption | omega)⟩) hP hD hQ (Nat.le_of_ble_eq_true rfl) (Nat.le_of_ble_eq_true rfl) dX4_readLetter_98
          · refine lv_iconst (v := 1) hx hb dX4_readLetter_93 (by decide) ?_
            refine lv_goto (tgt := 98) hx hb dX4_readLetter_94 (by decide) ?_
            have hz_69 : (1 : Int32).toInt = 1 := by decide
            exact g_zret ((1 : Int32), f_65) hx hb hr hlocks hS (by first | exact Or.inl rfl | exact Or.inr rfl) rfl (⟨hI, hF, show TK g cI f_65 from (by first | assumption | omega), show (1 : Int32).toInt = 0 ∨ (1 : Int32).toInt = 1 from (by first | assumption | omega)⟩) hP hD hQ (Nat.le_of_ble_eq_true rfl) (Nat.le_of_ble_eq_true rfl) dX4_readLetter_98
    · refine lv_aload_n hx hb dX4_readLetter_18 rfl (lv_at hl 1 rfl) ?_
      refine lv_iconst (v := 1) hx hb dX4_readLetter_19 (by decide) ?_
      have hz_70 : (1 : Int32).toInt = 1 := by decide
      refine call_p (va_runV (As := [.int 1]) (rest := []) ⟨hx, hb, hml, hown, hts⟩ (t_X4_fail l D cI cR cM _  hj hG hI  ) (cwV 1 hts gX4_readLetter_X4_fail rfl rfl rfl (by decide +kernel) ⟨Nat.le_of_ble_eq_true rfl, Nat.le_of_ble_eq_true rfl⟩) (pre_T hK hP hD (gm_13 hG) fg_1 rfl) rfl rfl hl.1 rfl (lv_room (Nat.le_of_ble_eq_true rfl)) dX4_readLetter_20 ⟨Nat.le_of_ble_eq_true rfl, Nat.le_of_ble_eq_true rfl⟩) hD hS hA (fun u_71 H locs hw hP hD hS => ?_)
      obtain ⟨r_71, f_71⟩ := u_71
      obtain ⟨hI, hF_71, h0_71, h01_71⟩ : IN jn cI cR cM g L S f_71 ∧ FR S [13] f f_71 ∧ (r_71.toInt = 0) ∧ (r_71.toInt = 0 ∨ r_71.toInt = 1) := hw
      have hP : va_P D vwCl (va_pl L f_71) H := hP
      have hD : va_D A (va_pl L f_71) := hD
      have hF := FR_tr hF hF_71 (by decide)
      have hTK_71 : TK g cI f_71 := TK_fr (f := f) (by assumption) hG hF_71 (by decide)
      have fb_72 : f_71 b = .inr (5, [.int (nI jn), .int (nI (2 * jn)), .ref b_p, .int b_l]) := FR_at hF_71 s_b (show (0 : Nat) ∉ ([13] : List Nat) by decide) f_b
      have fb_73 : f_71 b_p = .inl (cI, b_n, .inl b_c) := FR_at hF_71 s_b_p (show (1 : Nat) ∉ ([13] : List Nat) by decide) f_b_p
      have fb_74 : f_71 (g 14) = .inr (8, [.ref (g 11), .ref (g 31), .ref (g 32), .ref (g 33), .int cnt_2, .int nx_2, .int kd_2, .int vl_2, .int st_2, .int ls_2]) := FR_at hF_71 (gs_14 hG) (show (14 : Nat) ∉ ([13] : List Nat) by decide) fg_2
      exact g_zret (r_71, f_71) hx hb hr hlocks hS (b01 (by omega)) rfl (⟨hI, hF, show TK g cI f_71 from (by first | assumption | omega), show r_71.toInt = 0 ∨ r_71.toInt = 1 from (by first | assumption | omega)⟩) hP hD hQ (Nat.le_of_ble_eq_true rfl) (Nat.le_of_ble_eq_true rfl) dX4_readLetter_23
set_option maxRecDepth 100000 in
set_option maxHeartbeats 4000000 in
theorem t_X4_readTimes (l : Launch) (D : va_G) (cI cR cM : ClassId) (sz : Nat) {jn : Nat} {g : Nat → Nat} {L : List Nat} {S : Sg} {f : Nat → va_E} {b b_p b_n : Nat} {b_l : Int32} {b_c : Nat → Int32} {x : Int32}  (hj : 1 ≤ jn ∧ jn ≤ 3) (hG : SG g L S) (hI : IN jn cI cR cM g L S f) (m_b : b ∈ L) (s_b : S b = (0, b_p, b_n)) (f_b : f b = .inr (5, [.int (nI jn), .int (nI (2 * jn)), .ref b_p, .int b_l])) (f_b_p : f b_p = .inl (cI, b_n, .inl b_c)) (hx0 : 0 ≤ x.toInt ∧ x.toInt ≤ 1000) (hTK : TK g cI f) : Met l yX4_readTimes wsX4_readTimes ({ frames := 2, cells := 0, slots := 0, locals := 88 }) (P0 D cI cR cM [.ref (g 13), .ref b, .int x] sz (va_pl L f)) (QG (S := Int32 × (Nat → va_E)) (fun u => some (.int u.1)) (fun u => va_pl L u.2) (fun u => IN jn cI cR cM g L S u.2 ∧ FR S [0, 1, 13, 14] f u.2 ∧ (TK g cI u.2) ∧ (u.1.toInt = 0 ∨ u.1.toInt = 1)) D (va_A (va_pl L f) sz)) 0 0 (va_A (va_pl L f) sz) := by
  refine go (cc := cX4_readTimes) (maxL := 5) (ret := (some .boolean)) (by decide +kernel) rfl (Nat.le_of_ble_eq_true rfl) ?_
  intro p e s m below meth c ls args Q hQ hsz hx hb hr hml hts hown hlocks hnm hP hK hD hl
  subst hsz
  have hD := hD.self (sz := s.heap.size)
  generalize hAe : va_A (va_pl L f) s.heap.size = A at hD hQ
  have hA : ∀ q, s.heap.size ≤ q → A q := fun q h => by rw [← hAe]; exact Or.inr h
  have hS : va_S A s.heap s.heap [] := va_S.rf
  have hF : FR S [0, 1, 13, 14] f f := FR_rf
  have hl : lv_has ls 5 [(0, .ref (g 13)), (1, .ref b), (2, .int x)] := hl
  obtain ⟨v1_b, v2_b, v3_b, m_b_p, s_b_p⟩ := iv_0 hI m_b s_b f_b
  obtain ⟨w1_b, w2_b, w3_b, w4_b, w5_b⟩ := lenw hj v1_b v2_b v3_b
  have k_b := iv_1 hI m_b_p s_b_p f_b_p
  refine lv_aload_n hx hb dX4_readTimes_0 rfl (lv_at hl 0 rfl) ?_
  obtain ⟨fa_1, pl_1, fg_1⟩ := op_13 hI (gm_13 hG) (gs_13 hG)
  refine t_get (D := D) (L := L) (f := f) (ci := 4) (v := .ref (g 14)) (C := RX4) (T := TX4) (N := 11) hx hb hts (by decide +kernel) hown hK.1 hP (gm_13 hG) fg_1 rfl 1 (by decide) (hts (.fieldLink RX4 41 "JugglingHall$Reader" "tokens" "LJugglingHall$Tokens;") (by decide +kernel)) (fun _ h9 => h9) rfl dX4_readTimes_1 ?_
  obtain ⟨cnt_2, nx_2, kd_2, vl_2, st_2, ls_2, fg_2, iv0_2, iv1_2, iv2_2⟩ := op_14 hI (gm_14 hG) (gs_14 hG)
  refine t_getN (D := D) (L := L) (f := f) (ci := 8) (v := .int kd_2) (C := RX8) (T := TX8) (N := 10) (host := "JugglingHall") hx hb hts (by decide +kernel) hown hK.1 hP (gm_14 hG) fg_2 rfl 6 (by decide) (hK.nw (.fieldLinkNest RX4 70 "JugglingHall$Tokens" "kind" "I" "JugglingHall") (by decide +kernel) rfl) (fun _ h9 => h9) rfl dX4_readTimes_4 ?_
  refine lv_bipush (v := 42) hx hb dX4_readTimes_7 (by decide) ?_
  refine a_icmp_eq (u := kd_2.toInt) (v := 42) (tgt := 14) hx hb dX4_readTimes_9 (by decide) (rfl) (by decide) (fun c_3 => ?_) (fun c_3 => ?_)
  · refine lv_aload_n hx hb dX4_readTimes_14 rfl (lv_at hl 0 rfl) ?_
    refine t_get (D := D) (L := L) (f := f) (ci := 4) (v := .ref (g 14)) (C := RX4) (T := TX4) (N := 11) hx hb hts (by decide +kernel) hown hK.1 hP (gm_13 hG) fg_1 rfl 1 (by decide) (hts (.fieldLink RX4 41 "JugglingHall$Reader" "tokens" "LJugglingHall$Tokens;") (by decide +kernel)) (fun _ h9 => h9) rfl dX4_readTimes_15 ?_
    refine call_p (va_runV (As := []) (rest := []) ⟨hx, hb, hml, hown, hts⟩ (t_X8_advance l D cI cR cM _  hj hG hI  (by first | assumption | omega)) (cwV 0 hts gX4_readTimes_X8_advance rfl rfl rfl (by decide +kernel) ⟨Nat.le_of_ble_eq_true rfl, Nat.le_of_ble_eq_true rfl⟩) (pre_T hK hP hD (gm_14 hG) fg_2 rfl) rfl rfl hl.1 rfl (lv_room (Nat.le_of_ble_eq_true rfl)) dX4_readTimes_18 ⟨Nat.le_of_ble_eq_true rfl, Nat.le_of_ble_eq_true rfl⟩) hD hS hA (fun u_4 H locs hw hP hD hS => ?_)
    obtain ⟨f_4, e0_4⟩ : ∃ x, x = u_4 := ⟨_, rfl⟩
    subst e0_4
    obtain ⟨hI, hF_4, hTK_4⟩ : IN jn cI cR cM g L S f_4 ∧ FR S [14] f f_4 ∧ (TK g cI f_4) := hw
    have hP : va_P D vwCl (va_pl L f_4) H := hP
    have hD : va_D A (va_pl L f_4) := hD
    have hF := FR_tr hF hF_4 (by decide)
    have fb_5 : f_4 b = .inr (5, [.int (nI jn), .int (nI (2 * jn)), .ref b_p, .int b_l]) := FR_at hF_4 s_b (show (0 : Nat) ∉ ([14] : List Nat) by decide) f_b
    have fb_6 : f_4 b_p = .inl (cI, b_n, .inl b_c) := FR_at hF_4 s_b_p (show (1 : Nat) ∉ ([14] : List Nat) by decide) f_b_p
    have fb_7 : f_4 (g 13) = .inr (4, [.int (nI jn), .ref (g 14), .ref (g 12), .ref (g 22), .ref (g 34), .ref (g 23), .ref (g 24), .ref (g 25), .ref (g 26), .int fa_1, .int pl_1]) := FR_at hF_4 (gs_13 hG) (show (13 : Nat) ∉ ([14] : List Nat) by decide) fg_1
    refine lv_aload_n hx hb dX4_readTimes_21 rfl (lv_at hl 0 rfl) ?_
    refine t_get (D := D) (L := L) (f := f_4) (ci := 4) (v := .ref (g 14)) (C := RX4) (T := TX4) (N := 11) hx hb hts (by decide +kernel) hown hK.1 hP (gm_13 hG) fb_7 rfl 1 (by decide) (hts (.fieldLink RX4 41 "JugglingHall$Reader" "tokens" "LJugglingHall$Tokens;") (by decide +kernel)) (fun _ h9 => h9) rfl dX4_readTimes_22 ?_
    obtain ⟨cnt_8, nx_8, kd_8, vl_8, st_8, ls_8, fg_8, iv0_8, iv1_8, iv2_8⟩ := op_14 hI (gm_14 hG) (gs_14 hG)
    refine t_getN (D := D) (L := L) (f := f_4) (ci := 8) (v := .int kd_8) (C := RX8) (T := TX8) (N := 10) (host := "JugglingHall") hx hb hts (by decide +kernel) hown hK.1 hP (gm_14 hG) fg_8 rfl 6 (by decide) (hK.nw (.fieldLinkNest RX4 70 "JugglingHall$Tokens" "kind" "I" "JugglingHall") (by decide +kernel) rfl) (fun _ h9 => h9) rfl dX4_readTimes_25 ?_
    refine lv_iconst (v := 2) hx hb dX4_readTimes_28 (by decide) ?_
    refine a_icmp_eq (u := kd_8.toInt) (v := 2) (tgt := 38) hx hb dX4_readTimes_29 (by decide) (rfl) (by decide) (fun c_9 => ?_) (fun c_9 => ?_)
    · refine lv_aload_n hx hb dX4_readTimes_38 rfl (lv_at hl 0 rfl) ?_
      refine t_get (D := D) (L := L) (f := f_4) (ci := 4) (v := .ref (g 14)) (C := RX4) (T := TX4) (N := 11) hx hb hts (by decide +kernel) hown hK.1 hP (gm_13 hG) fb_7 rfl 1 (by decide) (hts (.fieldLink RX4 41 "JugglingHall$Reader" "tokens" "LJugglingHall$Tokens;") (by decide +kernel)) (fun _ h9 => h9) rfl dX4_readTimes_39 ?_
      refine t_getN (D := D) (L := L) (f := f_4) (ci := 8) (v := .int vl_8) (C := RX8) (T := TX8) (N := 10) (host := "JugglingHall") hx hb hts (by decide +kernel) hown hK.1 hP (gm_14 hG) fg_8 rfl 7 (by decide) (hK.nw (.fieldLinkNest RX4 113 "JugglingHall$Tokens" "value" "I" "JugglingHall") (by decide +kernel) rfl) (fun _ h9 => h9) rfl dX4_readTimes_42 ?_
      refine a_if_ne (u := vl_8.toInt) (tgt := 54) hx hb dX4_readTimes_45 (by decide) (rfl) (fun c_10 => ?_) (fun c_10 => ?_)
      · refine lv_aload_n hx hb dX4_readTimes_54 rfl (lv_at hl 1 rfl) ?_
        refine t_getN (D := D) (L := L) (f := f_4) (ci := 5) (v := .int b_l) (C := RX5) (T := TX5) (N := 4) (host := "JugglingHall") hx hb hts (by decide +kernel) hown hK.1 hP m_b fb_5 rfl 3 (by decide) (hK.nw (.fieldLinkNest RX4 62 "JugglingHall$Row" "length" "I" "JugglingHall") (by decide +kernel) rfl) (fun _ h9 => h9) rfl dX4_readTimes_55 ?_
        refine lv_istore_n (lv' := [(3, .int b_l), (0, .ref (g 13)), (1, .ref b), (2, .int x)]) hx hb dX4_readTimes_58 rfl hl (by decide) rfl (fun ls hl => ?_)
        refine lv_iconst (v := 1) hx hb dX4_readTimes_59 (by decide) ?_
        refine lv_istore (lv' := [(4, .int 1), (3, .int b_l), (0, .ref (g 13)), (1, .ref b), (2, .int x)]) hx hb dX4_readTimes_60 hl (by decide) rfl (fun ls hl => ?_)
        have loop62 : ∀ (ddloop62 : Nat) (ii : Int32) (f_11 : Nat → va_E) (H : Heap) (locs : List Loc) (ls : Array Slot), (2147483647 - ii.toInt).toNat < ddloop62 → IN jn cI cR cM g L S f_11 → FR S [0, 1, 13, 14] f f_11 → (1 ≤ ii.toInt) → (TK g cI f_11) → va_P D vwCl (va_pl L f_11) H → va_D A (va_pl L f_11) → va_S A s.heap H locs → lv_has ls 5 [(0, .ref (g 13)), (1, .ref b), (2, .int x), (3, .int b_l), (4, .int ii)] → W p l e ({ frames := 2, cells := 0, slots := 0, locals := 88 }) s m args below meth c H locs 0 0 Q (F0 m 62 ls []) := by
          intro ddloop62
          induction ddloop62 with
          | zero =>
            intro ii f_11 H locs ls hdd
            exact absurd hdd (Nat.not_lt_zero _)
          | succ ddloop62 ih62 =>
            intro ii f_11 H locs ls hdd hI hF hi hTK hP hD hS hl
            refine lv_iload hx hb dX4_readTimes_62 (lv_at hl 4 rfl) ?_
            refine lv_aload_n hx hb dX4_readTimes_64 rfl (lv_at hl 0 rfl) ?_
            obtain ⟨fa_12, pl_12, fg_12⟩ := op_13 hI (gm_13 hG) (gs_13 hG)
            refine t_get (D := D) (L := L) (f := f_11) (ci := 4) (v := .ref (g 14)) (C := RX4) (T := TX4) (N := 11) hx hb hts (by decide +kernel) hown hK.1 hP (gm_13 hG) fg_12 rfl 1 (by decide) (hts (.fieldLink RX4 41 "JugglingHall$Reader" "tokens" "LJugglingHall$Tokens;") (by decide +kernel)) (fun _ h9 => h9) rfl dX4_readTimes_65 ?_
            obtain ⟨cnt_13, nx_13, kd_13, vl_13, st_13, ls_13, fg_13, iv0_13, iv1_13, iv2_13⟩ := op_14 hI (gm_14 hG) (gs_14 hG)
            refine t_getN (D := D) (L := L) (f := f_11) (ci := 8) (v := .int vl_13) (C := RX8) (T := TX8) (N := 10) (host := "JugglingHall") hx hb hts (by decide +kernel) hown hK.1 hP (gm_14 hG) fg_13 rfl 7 (by decide) (hK.nw (.fieldLinkNest RX4 113 "JugglingHall$Tokens" "value" "I" "JugglingHall") (by decide +kernel) rfl) (fun _ h9 => h9) rfl dX4_readTimes_68 ?_
            refine a_icmp_ge (u := ii.toInt) (v := vl_13.toInt) (tgt := 96) hx hb dX4_readTimes_71 (by decide) (rfl) (rfl) (fun c_14 => ?_) (fun c_14 => ?_)
            · refine lv_aload_n hx hb dX4_readTimes_96 rfl (lv_at hl 0 rfl) ?_
              refine t_get (D := D) (L := L) (f := f_11) (ci := 4) (v := .ref (g 14)) (C := RX4) (T := TX4) (N := 11) hx hb hts (by decide +kernel) hown hK.1 hP (gm_13 hG) fg_12 rfl 1 (by decide) (hts (.fieldLink RX4 41 "JugglingHall$Reader" "tokens" "LJugglingHall$Tokens;") (by decide +kernel)) (fun _ h9 => h9) rfl dX4_readTimes_97 ?_
              refine call_p (va_runV (As := []) (rest := []) ⟨hx, hb, hml, hown, hts⟩ (t_X8_advance l D cI cR cM _  hj hG hI  (by first | assumption | omega)) (cwV 0 hts gX4_readTimes_X8_advance rfl rfl rfl (by decide +kernel) ⟨Nat.le_of_ble_eq_true rfl, Nat.le_of_ble_eq_true rfl⟩) (pre_T hK hP hD (gm_14 hG) fg_13 rfl) rfl rfl hl.1 rfl (lv_room (Nat.le_of_ble_eq_true rfl)) dX4_readTimes_100 ⟨Nat.le_of_ble_eq_true rfl, Nat.le_of_ble_eq_true rfl⟩) hD hS hA (fun u_15 H locs hw hP hD hS => ?_)
              obtain ⟨f_15, e0_15⟩ : ∃ x, x = u_15 := ⟨_, rfl⟩
              subst e0_15
              obtain ⟨hI, hF_15, hTK_15⟩ : IN jn cI cR cM g L S f_15 ∧ FR S [14] f_11 f_15 ∧ (TK g cI f_15) := hw
              have hP : va_P D vwCl (va_pl L f_15) H := hP
              have hD : va_D A (va_pl L f_15) := hD
              have hF := FR_tr hF hF_15 (by decide)
              have fb_16 : f_15 (g 13) = .inr (4, [.int (nI jn), .ref (g 14), .ref (g 12), .ref (g 22), .ref (g 34), .ref (g 23), .ref (g 24), .ref (g 25), .ref (g 26), .int fa_12, .int pl_12]) := FR_at hF_15 (gs_13 hG) (show (13 : Nat) ∉ ([14] : List Nat) by decide) fg_12
              refine lv_iconst (v := 1) hx hb dX4_readTimes_103 (by decide) ?_
              have hz_17 : (1 : Int32).toInt = 1 := by decide
              exact g_zret ((1 : Int32), f_15) hx hb hr hlocks hS (by first | exact Or.inl rfl | exact Or.inr rfl) rfl (⟨hI, hF, show TK g cI f_15 from (by first | assumption | omega), show (1 : Int32).toInt = 0 ∨ (1 : Int32).toInt = 1 from (by first | assumption | omega)⟩) hP hD hQ (Nat.le_of_ble_eq_true rfl) (Nat.le_of_ble_eq_true rfl) dX4_readTimes_104
            · refine lv_aload_n hx hb dX4_readTimes_74 rfl (lv_at hl 1 rfl) ?_
              refine lv_aload_n hx hb dX4_readTimes_75 rfl (lv_at hl 1 rfl) ?_
              refine lv_iload_n hx hb dX4_readTimes_76 rfl (lv_at hl 2 rfl) ?_
              refine lv_iload_n hx hb dX4_readTimes_77 rfl (lv_at hl 3 rfl) ?_
              obtain ⟨len_18, fg_18, v1_18, v2_18, v3_18, mp_18, sp_18⟩ := op_0 hI m_b s_b
              obtain ⟨w1_18, w2_18, w3_18, w4_18, w5_18⟩ := lenw hj v1_18 v2_18 v3_18
              obtain ⟨c_19, fg_19, iv0_19⟩ := op_1 hI m_b_p s_b_p
              refine call_p (va_runV (As := [.ref b, .int x, .int b_l]) (rest := []) ⟨hx, hb, hml, hown, hts⟩ (t_X5_append l D cI cR cM _  hj hG hI m_b s_b fg_18 fg_19 m_b s_b fg_18 fg_19 (by first | assumption | omega) (by first | assumption | omega)) (cwV 3 hts gX4_readTimes_X5_append rfl rfl rfl (by decide +kernel) ⟨Nat.le_of_ble_eq_true rfl, Nat.le_of_ble_eq_true rfl⟩) (pre_T hK hP hD m_b fg_18 rfl) rfl rfl hl.1 rfl (lv_room (Nat.le_of_ble_eq_true rfl)) dX4_readTimes_78 ⟨Nat.le_of_ble_eq_true rfl, Nat.le_of_ble_eq_true rfl⟩) hD hS hA (fun u_20 H locs hw hP hD hS => ?_)
              obtain ⟨r_20, f_20⟩ := u_20
              obtain ⟨hI, hF_20, h01_20⟩ : IN jn cI cR cM g L S f_20 ∧ FR S [0, 1] f_11 f_20 ∧ (r_20.toInt = 0 ∨ r_20.toInt = 1) := hw
              have hP : va_P D vwCl (va_pl L f_20) H := hP
              have hD : va_D A (va_pl L f_20) := hD
              have hF := FR_tr hF hF_20 (by decide)
              have hTK_20 : TK g cI f_20 := TK_fr (f := f_11) (by assumption) hG hF_20 (by decide)
              have fb_21 : f_20 (g 13) = .inr (4, [.int (nI jn), .ref (g 14), .ref (g 12), .ref (g 22), .ref (g 34), .ref (g 23), .ref (g 24), .ref (g 25), .ref (g 26), .int fa_12, .int pl_12]) := FR_at hF_20 (gs_13 hG) (show (13 : Nat) ∉ ([0, 1] : List Nat) by decide) fg_12
              have fb_22 : f_20 (g 14) = .inr (8, [.ref (g 11), .ref (g 31), .ref (g 32), .ref (g 33), .int cnt_13, .int nx_13, .int kd_13, .int vl_13, .int st_13, .int ls_13]) := FR_at hF_20 (gs_14 hG) (show (14 : Nat) ∉ ([0, 1] : List Nat) by decide) fg_13
              refine a_if_ne (u := r_20.toInt) (tgt := 90) hx hb dX4_readTimes_81 (by decide) (rfl) (fun c_23 => ?_) (fun c_23 => ?_)
              · have hlt := i_lt vl_13
                obtain ⟨z_24, q_24, e_24⟩ := i_inc (a := ii.toInt) (1) (rfl) (by decide) (by omega) (by omega)
                refine lv_iinc (v := z_24) (lv' := [(4, .int z_24), (0, .ref (g 13)), (1, .ref b), (2, .int x), (3, .int b_l)]) hx hb dX4_readTimes_90 hl (k := 4) rfl q_24 (by decide) rfl (fun ls hl => ?_)
                refine lv_goto (tgt := 62) hx hb dX4_readTimes_93 (by decide) ?_
                exact ih62 z_24 f_20 _ _ _ (by omega) hI hF (by first | assumption | omega) (by first | assumption | omega) hP hD hS (lv_sub hl [1, 2, 3, 4, 0] rfl)
              · refine lv_aload_n hx hb dX4_readTimes_84 rfl (lv_at hl 0 rfl) ?_
                refine lv_iconst (v := 4) hx hb dX4_readTimes_85 (by decide) ?_
                have hz_25 : (4 : Int32).toInt = 4 := by decide
                refine call_p (va_runV (As := [.int 4]) (rest := []) ⟨hx, hb, hml, hown, hts⟩ (t_X4_fail l D cI cR cM _  hj hG hI  ) (cwV 1 hts gX4_readTimes_X4_fail rfl rfl rfl (by decide +kernel) ⟨Nat.le_of_ble_eq_true rfl, Nat.le_of_ble_eq_true rfl⟩) (pre_T hK hP hD (gm_13 hG) fb_21 rfl) rfl rfl hl.1 rfl (lv_room (Nat.le_of_ble_eq_true rfl)) dX4_readTimes_86 ⟨Nat.le_of_ble_eq_true rfl, Nat.le_of_ble_eq_true rfl⟩) hD hS hA (fun u_26 H locs hw hP hD hS => ?_)
                obtain ⟨r_26, f_26⟩ := u_26
                obtain ⟨hI, hF_26, h0_26, h01_26⟩ : IN jn cI cR cM g L S f_26 ∧ FR S [13] f_20 f_26 ∧ (r_26.toInt = 0) ∧ (r_26.toInt = 0 ∨ r_26.toInt = 1) := hw
                have hP : va_P D vwCl (va_pl L f_26) H := hP
                have hD : va_D A (va_pl L f_26) := hD
                have hF := FR_tr hF hF_26 (by decide)
                have hTK_26 : TK g cI f_26 := TK_fr (f := f_20) (by assumption) hG hF_26 (by decide)
                have fb_27 : f_26 (g 14) = .inr (8, [.ref (g 11), .ref (g 31), .ref (g 32), .ref (g 33), .int cnt_13, .int nx_13, .int kd_13, .int vl_13, .int st_13, .int ls_13]) := FR_at hF_26 (gs_14 hG) (show (14 : Nat) ∉ ([13] : List Nat) by decide) fb_22
                exact g_zret (r_26, f_26) hx hb hr hlocks hS (b01 (by omega)) rfl (⟨hI, hF, show TK g cI f_26 from (by first | assumption | omega), show r_26.toInt = 0 ∨ r_26.toInt = 1 from (by first | assumption | omega)⟩) hP hD hQ (Nat.le_of_ble_eq_true rfl) (Nat.le_of_ble_eq_true rfl) dX4_readTimes_89
        have hz_28 : (1 : Int32).toInt = 1 := by decide
        exact loop62 ((2147483647 - (1 : Int32).toInt).toNat + 1) (1 : Int32) f_4 _ _ _ (by omega) hI hF (by first | assumption | omega) (by first | assumption | omega) hP hD hS (lv_sub hl [2, 3, 4, 1, 0] rfl)
      · refine lv_aload_n hx hb dX4_readTimes_48 rfl (lv_at hl 0 rfl) ?_
        refine lv_iconst (v := 2) hx hb dX4_readTimes_49 (by decide) ?_
        have hz_29 : (2 : Int32).toInt = 2 := by decide
        refine call_p (va_runV (As := [.int 2]) (rest := []) ⟨hx, hb, hml, hown, hts⟩ (t_X4_fail l D cI cR cM _  hj hG hI  ) (cwV 1 hts gX4_readTimes_X4_fail rfl rfl rfl (by decide +kernel) ⟨Nat.le_of_ble_eq_true rfl, Nat.le_of_ble_eq_true rfl⟩) (pre_T hK hP hD (gm_13 hG) fb_7 rfl) rfl rfl hl.1 rfl (lv_room (Nat.le_of_ble_eq_true rfl)) dX4_readTimes_50 ⟨Nat.le_of_ble_eq_true rfl, Nat.le_of_ble_eq_true rfl⟩) hD hS hA (fun u_30 H locs hw hP hD hS => ?_)
        obtain ⟨r_30, f_30⟩ := u_30
        obtain ⟨hI, hF_30, h0_30, h01_30⟩ : IN jn cI cR cM g L S f_30 ∧ FR S [13] f_4 f_30 ∧ (r_30.toInt = 0) ∧ (r_30.toInt = 0 ∨ r_30.toInt = 1) := hw
        have hP : va_P D vwCl (va_pl L f_30) H := hP
        have hD : va_D A (va_pl L f_30) := hD
        have hF := FR_tr hF hF_30 (by decide)
        have hTK_30 : TK g cI f_30 := TK_fr (f := f_4) (by assumption) hG hF_30 (by decide)
        have fb_31 : f_30 b = .inr (5, [.int (nI jn), .int (nI (2 * jn)), .ref b_p, .int b_l]) := FR_at hF_30 s_b (show (0 : Nat) ∉ ([13] : List Nat) by decide) fb_5
        have fb_32 : f_30 b_p = .inl (cI, b_n, .inl b_c) := FR_at hF_30 s_b_p (show (1 : Nat) ∉ ([13] : List Nat) by decide) fb_6
        have fb_33 : f_30 (g 14) = .inr (8, [.ref (g 11), .ref (g 31), .ref (g 32), .ref (g 33), .int cnt_8, .int nx_8, .int kd_8, .int vl_8, .int st_8, .int ls_8]) := FR_at hF_30 (gs_14 hG) (show (14 : Nat) ∉ ([13] : List Nat) by decide) fg_8
        exact g_zret (r_30, f_30) hx hb hr hlocks hS (b01 (by omega)) rfl (⟨hI, hF, show TK g cI f_30 from (by first | assumption | omega), show r_30.toInt = 0 ∨ r_30.toInt = 1 from (by first | assumption | omega)⟩) hP hD hQ (Nat.le_of_ble_eq_true rfl) (Nat.le_of_ble_eq_true rfl) dX4_readTimes_53
    · refine lv_aload_n hx hb dX4_readTimes_32 rfl (lv_at hl 0 rfl) ?_
      refine lv_iconst (v := 1) hx hb dX4_readTimes_33 (by decide) ?_
      have hz_34 : (1 : Int32).toInt = 1 := by decide
      refine call_p (va_runV (As := [.int 1]) (rest := []) ⟨hx, hb, hml, hown, hts⟩ (t_X4_fail l D cI cR cM _  hj hG hI  ) (cwV 1 hts gX4_readTimes_X4_fail rfl rfl rfl (by decide +kernel) ⟨Nat.le_of_ble_eq_true rfl, Nat.le_of_ble_eq_true rfl⟩) (pre_T hK hP hD (gm_13 hG) fb_7 rfl) rfl rfl hl.1 rfl (lv_room (Nat.le_of_ble_eq_true rfl)) dX4_readTimes_34 ⟨Nat.le_of_ble_eq_true rfl, Nat.le_of_ble_eq_true rfl⟩) hD hS hA (fun u_35 H locs hw hP hD hS => ?_)
      obtain ⟨r_35, f_35⟩ := u_35
      obtain ⟨hI, hF_35, h0_35, h01_35⟩ : IN jn cI cR cM g L S f_35 ∧ FR S [13] f_4 f_35 ∧ (r_35.toInt = 0) ∧ (r_35.toInt = 0 ∨ r_35.toInt = 1) := hw
      have hP : va_P D vwCl (va_pl L f_35) H := hP
      have hD : va_D A (va_pl L f_35) := hD
      have hF := FR_tr hF hF_35 (by decide)
      have hTK_35 : TK g cI f_35 := TK_fr (f := f_4) (by assumption) hG hF_35 (by decide)
      have fb_36 : f_35 b = .inr (5, [.int (nI jn), .int (nI (2 * jn)), .ref b_p, .int b_l]) := FR_at hF_35 s_b (show (0 : Nat) ∉ ([13] : List Nat) by decide) fb_5
      have fb_37 : f_35 b_p = .inl (cI, b_n, .inl b_c) := FR_at hF_35 s_b_p (show (1 : Nat) ∉ ([13] : List Nat) by decide) fb_6
      have fb_38 : f_35 (g 14) = .inr (8, [.ref (g 11), .ref (g 31), .ref (g 32), .ref (g 33), .int cnt_8, .int nx_8, .int kd_8, .int vl_8, .int st_8, .int ls_8]) := FR_at hF_35 (gs_14 hG) (show (14 : Nat) ∉ ([13] : List Nat) by decide) fg_8
      exact g_zret (r_35, f_35) hx hb hr hlocks hS (b01 (by omega)) rfl (⟨hI, hF, show TK g cI f_35 from (by first | assumption | omega), show r_35.toInt = 0 ∨ r_35.toInt = 1 from (by first | assumption | omega)⟩) hP hD hQ (Nat.le_of_ble_eq_true rfl) (Nat.le_of_ble_eq_true rfl) dX4_readTimes_37
  · refine lv_iconst (v := 1) hx hb dX4_readTimes_12 (by decide) ?_
    have hz_39 : (1 : Int32).toInt = 1 := by decide
    exact g_zret ((1 : Int32), f) hx hb hr hlocks hS (by first | exact Or.inl rfl | exact Or.inr rfl) rfl (⟨hI, hF, show TK g cI f from (by first | assumption | omega), show (1 : Int32).toInt = 0 ∨ (1 : Int32).toInt = 1 from (by first | assumption | omega)⟩) hP hD hQ (Nat.le_of_ble_eq_true rfl) (Nat.le_of_ble_eq_true rfl) dX4_readTimes_13
set_option maxRecDepth 100000 in
set_option maxHeartbeats 4000000 in
theorem t_X4_openGroup (l : Launch) (D : va_G) (cI cR cM : ClassId) (sz : Nat) {jn : Nat} {g : Nat → Nat} {L : List Nat} {S : Sg} {f : Nat → va_E} {x y : Int32}  (hj : 1 ≤ jn ∧ jn ≤ 3) (hG : SG g L S) (hI : IN jn cI cR cM g L S f) (hy0 : 0 ≤ y.toInt ∧ y.toInt ≤ 5) (hTK : TK g cI f) : Met l yX4_openGroup wsX4_openGroup ({ frames := 2, cells := 0, slots := 0, locals := 42 }) (P0 D cI cR cM [.ref (g 13), .int x, .int y] sz (va_pl L f)) (QG (S := Int32 × (Nat → va_E)) (fun u => some (.int u.1)) (fun u => va_pl L u.2) (fun u => IN jn cI cR cM g L S u.2 ∧ FR S [13, 14, 34] f u.2 ∧ (u.1.toInt = 1 → y.toInt ≤ 4) ∧ (TK g cI u.2) ∧ (u.1.toInt = 0 ∨ u.1.toInt = 1)) D (va_A (va_pl L f) sz)) 0 0 (va_A (va_pl L f) sz) := by
  refine go (cc := cX4_openGroup) (maxL := 3) (ret := (some .boolean)) (by decide +kernel) rfl (Nat.le_of_ble_eq_true rfl) ?_
  intro p e s m below meth c ls args Q hQ hsz hx hb hr hml hts hown hlocks hnm hP hK hD hl
  subst hsz
  have hD := hD.self (sz := s.heap.size)
  generalize hAe : va_A (va_pl L f) s.heap.size = A at hD hQ
  have hA : ∀ q, s.heap.size ≤ q → A q := fun q h => by rw [← hAe]; exact Or.inr h
  have hS : va_S A s.heap s.heap [] := va_S.rf
  have hF : FR S [13, 14, 34] f f := FR_rf
  have hl : lv_has ls 3 [(0, .ref (g 13)), (1, .int x), (2, .int y)] := hl
  refine lv_iload_n hx hb dX4_openGroup_0 rfl (lv_at hl 1 rfl) ?_
  refine lv_bipush (v := 40) hx hb dX4_openGroup_1 (by decide) ?_
  refine a_icmp_eq (u := x.toInt) (v := 40) (tgt := 13) hx hb dX4_openGroup_3 (by decide) (rfl) (by decide) (fun c_1 => ?_) (fun c_1 => ?_)
  · refine lv_iload_n hx hb dX4_openGroup_13 rfl (lv_at hl 1 rfl) ?_
    refine lv_bipush (v := 9) hx hb dX4_openGroup_14 (by decide) ?_
    refine a_icmp_ne (u := x.toInt) (v := 9) (tgt := 42) hx hb dX4_openGroup_16 (by decide) (rfl) (by decide) (fun c_2 => ?_) (fun c_2 => ?_)
    · refine lv_aload_n hx hb dX4_openGroup_42 rfl (lv_at hl 0 rfl) ?_
      obtain ⟨fa_3, pl_3, fg_3⟩ := op_13 hI (gm_13 hG) (gs_13 hG)
      refine t_get (D := D) (L := L) (f := f) (ci := 4) (v := .ref (g 14)) (C := RX4) (T := TX4) (N := 11) hx hb hts (by decide +kernel) hown hK.1 hP (gm_13 hG) fg_3 rfl 1 (by decide) (hts (.fieldLink RX4 41 "JugglingHall$Reader" "tokens" "LJugglingHall$Tokens;") (by decide +kernel)) (fun _ h9 => h9) rfl dX4_openGroup_43 ?_
      obtain ⟨cnt_4, nx_4, kd_4, vl_4, st_4, ls_4, fg_4, iv0_4, iv1_4, iv2_4⟩ := op_14 hI (gm_14 hG) (gs_14 hG)
      refine t_getN (D := D) (L := L) (f := f) (ci := 8) (v := .int kd_4) (C := RX8) (T := TX8) (N := 10) (host := "JugglingHall") hx hb hts (by decide +kernel) hown hK.1 hP (gm_14 hG) fg_4 rfl 6 (by decide) (hK.nw (.fieldLinkNest RX4 70 "JugglingHall$Tokens" "kind" "I" "JugglingHall") (by decide +kernel) rfl) (fun _ h9 => h9) rfl dX4_openGroup_46 ?_
      refine lv_bipush (v := 40) hx hb dX4_openGroup_49 (by decide) ?_
      refine a_icmp_ne (u := kd_4.toInt) (v := 40) (tgt := 65) hx hb dX4_openGroup_51 (by decide) (rfl) (by decide) (fun c_5 => ?_) (fun c_5 => ?_)
      · refine lv_aload_n hx hb dX4_openGroup_65 rfl (lv_at hl 0 rfl) ?_
        refine lv_bipush (v := 40) hx hb dX4_openGroup_66 (by decide) ?_
        have hz_6 : (40 : Int32).toInt = 40 := by decide
        refine call_p (va_runV (As := [.int 40]) (rest := []) ⟨hx, hb, hml, hown, hts⟩ (t_X4_expect l D cI cR cM _  hj hG hI  (by first | assumption | omega)) (cwV 1 hts gX4_openGroup_X4_expect rfl rfl rfl (by decide +kernel) ⟨Nat.le_of_ble_eq_true rfl, Nat.le_of_ble_eq_true rfl⟩) (pre_T hK hP hD (gm_13 hG) fg_3 rfl) rfl rfl hl.1 rfl (lv_room (Nat.le_of_ble_eq_true rfl)) dX4_openGroup_68 ⟨Nat.le_of_ble_eq_true rfl, Nat.le_of_ble_eq_true rfl⟩) hD hS hA (fun u_7 H locs hw hP hD hS => ?_)
        obtain ⟨r_7, f_7⟩ := u_7
        obtain ⟨hI, hF_7, he_7, hTK_7, h01_7⟩ : IN jn cI cR cM g L S f_7 ∧ FR S [13, 14] f f_7 ∧ (∀ cnt9 nx9 kd9 vl9 st9 ls9, f (g 14) = .inr (8, [.ref (g 11), .ref (g 31), .ref (g 32), .ref (g 33), .int cnt9, .int nx9, .int kd9, .int vl9, .int st9, .int ls9]) → r_7.toInt = 1 → kd9.toInt = (40 : Int32).toInt) ∧ (TK g cI f_7) ∧ (r_7.toInt = 0 ∨ r_7.toInt = 1) := hw
        have hP : va_P D vwCl (va_pl L f_7) H := hP
        have hD : va_D A (va_pl L f_7) := hD
        have hF := FR_tr hF hF_7 (by decide)
        have he9 := he_7 _ _ _ _ _ _ fg_4
        exact g_zret (r_7, f_7) hx hb hr hlocks hS (b01 (by omega)) rfl (⟨hI, hF, show r_7.toInt = 1 → y.toInt ≤ 4 from (by first | assumption | omega), show TK g cI f_7 from (by first | assumption | omega), show r_7.toInt = 0 ∨ r_7.toInt = 1 from (by first | assumption | omega)⟩) hP hD hQ (Nat.le_of_ble_eq_true rfl) (Nat.le_of_ble_eq_true rfl) dX4_openGroup_71
      · refine lv_iload_n hx hb dX4_openGroup_54 rfl (lv_at hl 2 rfl) ?_
        refine lv_iconst (v := 5) hx hb dX4_openGroup_55 (by decide) ?_
        refine a_icmp_lt (u := y.toInt) (v := 5) (tgt := 65) hx hb dX4_openGroup_56 (by decide) (rfl) (by decide) (fun c_8 => ?_) (fun c_8 => ?_)
        · refine lv_aload_n hx hb dX4_openGroup_65 rfl (lv_at hl 0 rfl) ?_
          refine lv_bipush (v := 40) hx hb dX4_openGroup_66 (by decide) ?_
          have hz_9 : (40 : Int32).toInt = 40 := by decide
          refine call_p (va_runV (As := [.int 40]) (rest := []) ⟨hx, hb, hml, hown, hts⟩ (t_X4_expect l D cI cR cM _  hj hG hI  (by first | assumption | omega)) (cwV 1 hts gX4_openGroup_X4_expect rfl rfl rfl (by decide +kernel) ⟨Nat.le_of_ble_eq_true rfl, Nat.le_of_ble_eq_true rfl⟩) (pre_T hK hP hD (gm_13 hG) fg_3 rfl) rfl rfl hl.1 rfl (lv_room (Nat.le_of_ble_eq_true rfl)) dX4_openGroup_68 ⟨Nat.le_of_ble_eq_true rfl, Nat.le_of_ble_eq_true rfl⟩) hD hS hA (fun u_10 H locs hw hP hD hS => ?_)
          obtain ⟨r_10, f_10⟩ := u_10
          obtain ⟨hI, hF_10, he_10, hTK_10, h01_10⟩ : IN jn cI cR cM g L S f_10 ∧ FR S [13, 14] f f_10 ∧ (∀ cnt9 nx9 kd9 vl9 st9 ls9, f (g 14) = .inr (8, [.ref (g 11), .ref (g 31), .ref (g 32), .ref (g 33), .int cnt9, .int nx9, .int kd9, .int vl9, .int st9, .int ls9]) → r_10.toInt = 1 → kd9.toInt = (40 : Int32).toInt) ∧ (TK g cI f_10) ∧ (r_10.toInt = 0 ∨ r_10.toInt = 1) := hw
          have hP : va_P D vwCl (va_pl L f_10) H := hP
          have hD : va_D A (va_pl L f_10) := hD
          have hF := FR_tr hF hF_10 (by decide)
          have he9 := he_10 _ _ _ _ _ _ fg_4
          exact g_zret (r_10, f_10) hx hb hr hlocks hS (b01 (by omega)) rfl (⟨hI, hF, show r_10.toInt = 1 → y.toInt ≤ 4 from (by first | assumption | omega), show TK g cI f_10 from (by first | assumption | omega), show r_10.toInt = 0 ∨ r_10.toInt = 1 from (by first | assumption | omega)⟩) hP hD hQ (Nat.le_of_ble_eq_true rfl) (Nat.le_of_ble_eq_true rfl) dX4_openGroup_71
        · refine lv_aload_n hx hb dX4_openGroup_59 rfl (lv_at hl 0 rfl) ?_
          refine lv_iconst (v := 3) hx hb dX4_openGroup_60 (by decide) ?_
          have hz_11 : (3 : Int32).toInt = 3 := by decide
          refine call_p (va_runV (As := [.int 3]) (rest := []) ⟨hx, hb, hml, hown, hts⟩ (t_X4_fail l D cI cR cM _  hj hG hI  ) (cwV 1 hts gX4_openGroup_X4_fail rfl rfl rfl (by decide +kernel) ⟨Nat.le_of_ble_eq_true rfl, Nat.le_of_ble_eq_true rfl⟩) (pre_T hK hP hD (gm_13 hG) fg_3 rfl) rfl rfl hl.1 rfl (lv_room (Nat.le_of_ble_eq_true rfl)) dX4_openGroup_61 ⟨Nat.le_of_ble_eq_true rfl, Nat.le_of_ble_eq_true rfl⟩) hD hS hA (fun u_12 H locs hw hP hD hS => ?_)
          obtain ⟨r_12, f_12⟩ := u_12
          obtain ⟨hI, hF_12, h0_12, h01_12⟩ : IN jn cI cR cM g L S f_12 ∧ FR S [13] f f_12 ∧ (r_12.toInt = 0) ∧ (r_12.toInt = 0 ∨ r_12.toInt = 1) := hw
          have hP : va_P D vwCl (va_pl L f_12) H := hP
          have hD : va_D A (va_pl L f_12) := hD
          have hF := FR_tr hF hF_12 (by decide)
          have hTK_12 : TK g cI f_12 := TK_fr (f := f) (by assumption) hG hF_12 (by decide)
          have fb_13 : f_12 (g 14) = .inr (8, [.ref (g 11), .ref (g 31), .ref (g 32), .ref (g 33), .int cnt_4, .int nx_4, .int kd_4, .int vl_4, .int st_4, .int ls_4]) := FR_at hF_12 (gs_14 hG) (show (14 : Nat) ∉ ([13] : List Nat) by decide) fg_4
          exact g_zret (r_12, f_12) hx hb hr hlocks hS (b01 (by omega)) rfl (⟨hI, hF, show r_12.toInt = 1 → y.toInt ≤ 4 from (by first | assumption | omega), show TK g cI f_12 from (by first | assumption | omega), show r_12.toInt = 0 ∨ r_12.toInt = 1 from (by first | assumption | omega)⟩) hP hD hQ (Nat.le_of_ble_eq_true rfl) (Nat.le_of_ble_eq_true rfl) dX4_openGroup_64
    · refine lv_aload_n hx hb dX4_openGroup_19 rfl (lv_at hl 0 rfl) ?_
      obtain ⟨fa_14, pl_14, fg_14⟩ := op_13 hI (gm_13 hG) (gs_13 hG)
      refine t_get (D := D) (L := L) (f := f) (ci := 4) (v := .ref (g 34)) (C := RX4) (T := TX4) (N := 11) hx hb hts (by decide +kernel) hown hK.1 hP (gm_13 hG) fg_14 rfl 4 (by decide) (hts (.fieldLink RX4 17 "JugglingHall$Reader" "turns" "[I") (by decide +kernel)) (fun _ h9 => h9) rfl dX4_openGroup_20 ?_
      refine lv_iload_n hx hb dX4_openGroup_23 rfl (lv_at hl 2 rfl) ?_
      refine lv_aload_n hx hb dX4_openGroup_24 rfl (lv_at hl 0 rfl) ?_
      refine t_get (D := D) (L := L) (f := f) (ci := 4) (v := .ref (g 14)) (C := RX4) (T := TX4) (N := 11) hx hb hts (by decide +kernel) hown hK.1 hP (gm_13 hG) fg_14 rfl 1 (by decide) (hts (.fieldLink RX4 41 "JugglingHall$Reader" "tokens" "LJugglingHall$Tokens;") (by decide +kernel)) (fun _ h9 => h9) rfl dX4_openGroup_25 ?_
      obtain ⟨cnt_15, nx_15, kd_15, vl_15, st_15, ls_15, fg_15, iv0_15, iv1_15, iv2_15⟩ := op_14 hI (gm_14 hG) (gs_14 hG)
      refine t_getN (D := D) (L := L) (f := f) (ci := 8) (v := .int vl_15) (C := RX8) (T := TX8) (N := 10) (host := "JugglingHall") hx hb hts (by decide +kernel) hown hK.1 hP (gm_14 hG) fg_15 rfl 7 (by decide) (hK.nw (.fieldLinkNest RX4 113 "JugglingHall$Tokens" "value" "I" "JugglingHall") (by decide +kernel) rfl) (fun _ h9 => h9) rfl dX4_openGroup_28 ?_
      obtain ⟨c_16, fg_16⟩ := op_34 hI (gm_34 hG) (gs_34 hG)
      refine t_iast (L := L) (f := f) (h := c_16) (u := y.toInt) hx hb hK.1 hP hD hS (gm_34 hG) 0 fg_16 rfl dX4_openGroup_31 (rfl) (by omega) (fun g_17 f_17 H locs eg_17 e9_17 o_17 hP hD hS => ?_)
      have fa_17 : f_17 (g 34) = .inl (cI, 6, .inl g_17) := e9_17
      have hI := IN_set (e := .inl (cI, 6, .inl g_17)) hI (gs_34 hG) (mk_34) fa_17 o_17
      have hF := FR_set hF (gs_34 hG) (show (34 : Nat) ∈ ([13, 14, 34] : List Nat) by decide) o_17
      have hTK_17 : TK g cI f_17 := TK_set (f := f) (by assumption) hG (gs_34 hG) (show (34 : Nat) ∉ ([14, 31, 32] : List Nat) by decide) o_17
      have fb_18 : f_17 (g 13) = .inr (4, [.int (nI jn), .ref (g 14), .ref (g 12), .ref (g 22), .ref (g 34), .ref (g 23), .ref (g 24), .ref (g 25), .ref (g 26), .int fa_14, .int pl_14]) := f_at o_17 (S_ne (gs_13 hG) (gs_34 hG) (show (13 : Nat) ≠ 34 by decide)) fg_14
      have fb_19 : f_17 (g 14) = .inr (8, [.ref (g 11), .ref (g 31), .ref (g 32), .ref (g 33), .int cnt_15, .int nx_15, .int kd_15, .int vl_15, .int st_15, .int ls_15]) := f_at o_17 (S_ne (gs_14 hG) (gs_34 hG) (show (14 : Nat) ≠ 34 by decide)) fg_15
      refine lv_aload_n hx hb dX4_openGroup_32 rfl (lv_at hl 0 rfl) ?_
      refine lv_iconst (v := 2) hx hb dX4_openGroup_33 (by decide) ?_
      have hz_20 : (2 : Int32).toInt = 2 := by decide
      refine call_p (va_runV (As := [.int 2]) (rest := []) ⟨hx, hb, hml, hown, hts⟩ (t_X4_expect l D cI cR cM _  hj hG hI  (by first | assumption | omega)) (cwV 1 hts gX4_openGroup_X4_expect rfl rfl rfl (by decide +kernel) ⟨Nat.le_of_ble_eq_true rfl, Nat.le_of_ble_eq_true rfl⟩) (pre_T hK hP hD (gm_13 hG) fb_18 rfl) rfl rfl hl.1 rfl (lv_room (Nat.le_of_ble_eq_true rfl)) dX4_openGroup_34 ⟨Nat.le_of_ble_eq_true rfl, Nat.le_of_ble_eq_true rfl⟩) hD hS hA (fun u_21 H locs hw hP hD hS => ?_)
      obtain ⟨r_21, f_21⟩ := u_21
      obtain ⟨hI, hF_21, he_21, hTK_21, h01_21⟩ : IN jn cI cR cM g L S f_21 ∧ FR S [13, 14] f_17 f_21 ∧ (∀ cnt9 nx9 kd9 vl9 st9 ls9, f_17 (g 14) = .inr (8, [.ref (g 11), .ref (g 31), .ref (g 32), .ref (g 33), .int cnt9, .int nx9, .int kd9, .int vl9, .int st9, .int ls9]) → r_21.toInt = 1 → kd9.toInt = (2 : Int32).toInt) ∧ (TK g cI f_21) ∧ (r_21.toInt = 0 ∨ r_21.toInt = 1) := hw
      have hP : va_P D vwCl (va_pl L f_21) H := hP
      have hD : va_D A (va_pl L f_21) := hD
      have hF := FR_tr hF hF_21 (by decide)
      have fb_22 : f_21 (g 34) = .inl (cI, 6, .inl g_17) := FR_at hF_21 (gs_34 hG) (show (34 : Nat) ∉ ([13, 14] : List Nat) by decide) fa_17
      refine a_if_ne (u := r_21.toInt) (tgt := 42) hx hb dX4_openGroup_37 (by decide) (rfl) (fun c_23 => ?_) (fun c_23 => ?_)
      · refine lv_aload_n hx hb dX4_openGroup_42 rfl (lv_at hl 0 rfl) ?_
        obtain ⟨fa_24, pl_24, fg_24⟩ := op_13 hI (gm_13 hG) (gs_13 hG)
        refine t_get (D := D) (L := L) (f := f_21) (ci := 4) (v := .ref (g 14)) (C := RX4) (T := TX4) (N := 11) hx hb hts (by decide +kernel) hown hK.1 hP (gm_13 hG) fg_24 rfl 1 (by decide) (hts (.fieldLink RX4 41 "JugglingHall$Reader" "tokens" "LJugglingHall$Tokens;") (by decide +kernel)) (fun _ h9 => h9) rfl dX4_openGroup_43 ?_
        obtain ⟨cnt_25, nx_25, kd_25, vl_25, st_25, ls_25, fg_25, iv0_25, iv1_25, iv2_25⟩ := op_14 hI (gm_14 hG) (gs_14 hG)
        refine t_getN (D := D) (L := L) (f := f_21) (ci := 8) (v := .int kd_25) (C := RX8) (T := TX8) (N := 10) (host := "JugglingHall") hx hb hts (by decide +kernel) hown hK.1 hP (gm_14 hG) fg_25 rfl 6 (by decide) (hK.nw (.fieldLinkNest RX4 70 "JugglingHall$Tokens" "kind" "I" "JugglingHall") (by decide +kernel) rfl) (fun _ h9 => h9) rfl dX4_openGroup_46 ?_
        refine lv_bipush (v := 40) hx hb dX4_openGroup_49 (by decide) ?_
        refine a_icmp_ne (u := kd_25.toInt) (v := 40) (tgt := 65) hx hb dX4_openGroup_51 (by decide) (rfl) (by decide) (fun c_26 => ?_) (fun c_26 => ?_)
        · refine lv_aload_n hx hb dX4_openGroup_65 rfl (lv_at hl 0 rfl) ?_
          refine lv_bipush (v := 40) hx hb dX4_openGroup_66 (by decide) ?_
          have hz_27 : (40 : Int32).toInt = 40 := by decide
          refine call_p (va_runV (As := [.int 40]) (rest := []) ⟨hx, hb, hml, hown, hts⟩ (t_X4_expect l D cI cR cM _  hj hG hI  (by first | assumption | omega)) (cwV 1 hts gX4_openGroup_X4_expect rfl rfl rfl (by decide +kernel) ⟨Nat.le_of_ble_eq_true rfl, Nat.le_of_ble_eq_true rfl⟩) (pre_T hK hP hD (gm_13 hG) fg_24 rfl) rfl rfl hl.1 rfl (lv_room (Nat.le_of_ble_eq_true rfl)) dX4_openGroup_68 ⟨Nat.le_of_ble_eq_true rfl, Nat.le_of_ble_eq_true rfl⟩) hD hS hA (fun u_28 H locs hw hP hD hS => ?_)
          obtain ⟨r_28, f_28⟩ := u_28
          obtain ⟨hI, hF_28, he_28, hTK_28, h01_28⟩ : IN jn cI cR cM g L S f_28 ∧ FR S [13, 14] f_21 f_28 ∧ (∀ cnt9 nx9 kd9 vl9 st9 ls9, f_21 (g 14) = .inr (8, [.ref (g 11), .ref (g 31), .ref (g 32), .ref (g 33), .int cnt9, .int nx9, .int kd9, .int vl9, .int st9, .int ls9]) → r_28.toInt = 1 → kd9.toInt = (40 : Int32).toInt) ∧ (TK g cI f_28) ∧ (r_28.toInt = 0 ∨ r_28.toInt = 1) := hw
          have hP : va_P D vwCl (va_pl L f_28) H := hP
          have hD : va_D A (va_pl L f_28) := hD
          have hF := FR_tr hF hF_28 (by decide)
          have fb_29 : f_28 (g 34) = .inl (cI, 6, .inl g_17) := FR_at hF_28 (gs_34 hG) (show (34 : Nat) ∉ ([13, 14] : List Nat) by decide) fb_22
          have he9 := he_28 _ _ _ _ _ _ fg_25
          exact g_zret (r_28, f_28) hx hb hr hlocks hS (b01 (by omega)) rfl (⟨hI, hF, show r_28.toInt = 1 → y.toInt ≤ 4 from (by first | assumption | omega), show TK g cI f_28 from (by first | assumption | omega), show r_28.toInt = 0 ∨ r_28.toInt = 1 from (by first | assumption | omega)⟩) hP hD hQ (Nat.le_of_ble_eq_true rfl) (Nat.le_of_ble_eq_true rfl) dX4_openGroup_71
        · refine lv_iload_n hx hb dX4_openGroup_54 rfl (lv_at hl 2 rfl) ?_
          refine lv_iconst (v := 5) hx hb dX4_openGroup_55 (by decide) ?_
          refine a_icmp_lt (u := y.toInt) (v := 5) (tgt := 65) hx hb dX4_openGroup_56 (by decide) (rfl) (by decide) (fun c_30 => ?_) (fun c_30 => ?_)
          · refine lv_aload_n hx hb dX4_openGroup_65 rfl (lv_at hl 0 rfl) ?_
            refine lv_bipush (v := 40) hx hb dX4_openGroup_66 (by decide) ?_
            have hz_31 : (40 : Int32).toInt = 40 := by decide
            refine call_p (va_runV (As := [.int 40]) (rest := []) ⟨hx, hb, hml, hown, hts⟩ (t_X4_expect l D cI cR cM _  hj hG hI  (by first | assumption | omega)) (cwV 1 hts gX4_openGroup_X4_expect rfl rfl rfl (by decide +kernel) ⟨Nat.le_of_ble_eq_true rfl, Nat.le_of_ble_eq_true rfl⟩) (pre_T hK hP hD (gm_13 hG) fg_24 rfl) rfl rfl hl.1 rfl (lv_room (Nat.le_of_ble_eq_true rfl)) dX4_openGroup_68 ⟨Nat.le_of_ble_eq_true rfl, Nat.le_of_ble_eq_true rfl⟩) hD hS hA (fun u_32 H locs hw hP hD hS => ?_)
            obtain ⟨r_32, f_32⟩ := u_32
            obtain ⟨hI, hF_32, he_32, hTK_32, h01_32⟩ : IN jn cI cR cM g L S f_32 ∧ FR S [13, 14] f_21 f_32 ∧ (∀ cnt9 nx9 kd9 vl9 st9 ls9, f_21 (g 14) = .inr (8, [.ref (g 11), .ref (g 31), .ref (g 32), .ref (g 33), .int cnt9, .int nx9, .int kd9, .int vl9, .int st9, .int ls9]) → r_32.toInt = 1 → kd9.toInt = (40 : Int32).toInt) ∧ (TK g cI f_32) ∧ (r_32.toInt = 0 ∨ r_32.toInt = 1) := hw
            have hP : va_P D vwCl (va_pl L f_32) H := hP
            have hD : va_D A (va_pl L f_32) := hD
            have hF := FR_tr hF hF_32 (by decide)
            have fb_33 : f_32 (g 34) = .inl (cI, 6, .inl g_17) := FR_at hF_32 (gs_34 hG) (show (34 : Nat) ∉ ([13, 14] : List Nat) by decide) fb_22
            have he9 := he_32 _ _ _ _ _ _ fg_25
            exact g_zret (r_32, f_32) hx hb hr hlocks hS (b01 (by omega)) rfl (⟨hI, hF, show r_32.toInt = 1 → y.toInt ≤ 4 from (by first | assumption | omega), show TK g cI f_32 from (by first | assumption | omega), show r_32.toInt = 0 ∨ r_32.toInt = 1 from (by first | assumption | omega)⟩) hP hD hQ (Nat.le_of_ble_eq_true rfl) (Nat.le_of_ble_eq_true rfl) dX4_openGroup_71
          · refine lv_aload_n hx hb dX4_openGroup_59 rfl (lv_at hl 0 rfl) ?_
            refine lv_iconst (v := 3) hx hb dX4_openGroup_60 (by decide) ?_
            have hz_34 : (3 : Int32).toInt = 3 := by decide
            refine call_p (va_runV (As := [.int 3]) (rest := []) ⟨hx, hb, hml, hown, hts⟩ (t_X4_fail l D cI cR cM _  hj hG hI  ) (cwV 1 hts gX4_openGroup_X4_fail rfl rfl rfl (by decide +kernel) ⟨Nat.le_of_ble_eq_true rfl, Nat.le_of_ble_eq_true rfl⟩) (pre_T hK hP hD (gm_13 hG) fg_24 rfl) rfl rfl hl.1 rfl (lv_room (Nat.le_of_ble_eq_true rfl)) dX4_openGroup_61 ⟨Nat.le_of_ble_eq_true rfl, Nat.le_of_ble_eq_true rfl⟩) hD hS hA (fun u_35 H locs hw hP hD hS => ?_)
            obtain ⟨r_35, f_35⟩ := u_35
            obtain ⟨hI, hF_35, h0_35, h01_35⟩ : IN jn cI cR cM g L S f_35 ∧ FR S [13] f_21 f_35 ∧ (r_35.toInt = 0) ∧ (r_35.toInt = 0 ∨ r_35.toInt = 1) := hw
            have hP : va_P D vwCl (va_pl L f_35) H := hP
            have hD : va_D A (va_pl L f_35) := hD
            have hF := FR_tr hF hF_35 (by decide)
            have hTK_35 : TK g cI f_35 := TK_fr (f := f_21) (by assumption) hG hF_35 (by decide)
            have fb_36 : f_35 (g 34) = .inl (cI, 6, .inl g_17) := FR_at hF_35 (gs_34 hG) (show (34 : Nat) ∉ ([13] : List Nat) by decide) fb_22
            have fb_37 : f_35 (g 14) = .inr (8, [.ref (g 11), .ref (g 31), .ref (g 32), .ref (g 33), .int cnt_25, .int nx_25, .int kd_25, .int vl_25, .int st_25, .int ls_25]) := FR_at hF_35 (gs_14 hG) (show (14 : Nat) ∉ ([13] : List Nat) by decide) fg_25
            exact g_zret (r_35, f_35) hx hb hr hlocks hS (b01 (by omega)) rfl (⟨hI, hF, show r_35.toInt = 1 → y.toInt ≤ 4 from (by first | assumption | omega), show TK g cI f_35 from (by first | assumption | omega), show r_35.toInt = 0 ∨ r_35.toInt = 1 from (by first | assumption | omega)⟩) hP hD hQ (Nat.le_of_ble_eq_true rfl) (Nat.le_of_ble_eq_true rfl) dX4_openGroup_64
      · refine lv_iconst (v := 0) hx hb dX4_openGroup_40 (by decide) ?_
        have hz_38 : (0 : Int32).toInt = 0 := by decide
        exact g_zret ((0 : Int32), f_21) hx hb hr hlocks hS (by first | exact Or.inl rfl | exact Or.inr rfl) rfl (⟨hI, hF, show (0 : Int32).toInt = 1 → y.toInt ≤ 4 from (by first | assumption | omega), show TK g cI f_21 from (by first | assumption | omega), show (0 : Int32).toInt = 0 ∨ (0 : Int32).toInt = 1 from (by first | assumption | omega)⟩) hP hD hQ (Nat.le_of_ble_eq_true rfl) (Nat.le_of_ble_eq_true rfl) dX4_openGroup_41
  · refine lv_aload_n hx hb dX4_openGroup_6 rfl (lv_at hl 0 rfl) ?_
    obtain ⟨fa_39, pl_39, fg_39⟩ := op_13 hI (gm_13 hG) (gs_13 hG)
    refine t_get (D := D) (L := L) (f := f) (ci := 4) (v := .ref (g 14)) (C := RX4) (T := TX4) (N := 11) hx hb hts (by decide +kernel) hown hK.1 hP (gm_13 hG) fg_39 rfl 1 (by decide) (hts (.fieldLink RX4 41 "JugglingHall$Reader" "tokens" "LJugglingHall$Tokens;") (by decide +kernel)) (fun _ h9 => h9) rfl dX4_openGroup_7 ?_
    obtain ⟨cnt_40, nx_40, kd_40, vl_40, st_40, ls_40, fg_40, iv0_40, iv1_40, iv2_40⟩ := op_14 hI (gm_14 hG) (gs_14 hG)
    refine call_p (va_runV (As := []) (rest := []) ⟨hx, hb, hml, hown, hts⟩ (t_X8_advance l D cI cR cM _  hj hG hI  (by first | assumption | omega)) (cwV 0 hts gX4_openGroup_X8_advance rfl rfl rfl (by decide +kernel) ⟨Nat.le_of_ble_eq_true rfl, Nat.le_of_ble_eq_true rfl⟩) (pre_T hK hP hD (gm_14 hG) fg_40 rfl) rfl rfl hl.1 rfl (lv_room (Nat.le_of_ble_eq_true rfl)) dX4_openGroup_10 ⟨Nat.le_of_ble_eq_true rfl, Nat.le_of_ble_eq_true rfl⟩) hD hS hA (fun u_41 H locs hw hP hD hS => ?_)
    obtain ⟨f_41, e0_41⟩ : ∃ x, x = u_41 := ⟨_, rfl⟩
    subst e0_41
    obtain ⟨hI, hF_41, hTK_41⟩ : IN jn cI cR cM g L S f_41 ∧ FR S [14] f f_41 ∧ (TK g cI f_41) := hw
    have hP : va_P D vwCl (va_pl L f_41) H := hP
    have hD : va_D A (va_pl L f_41) := hD
    have hF := FR_tr hF hF_41 (by decide)
    have fb_42 : f_41 (g 13) = .inr (4, [.int (nI jn), .ref (g 14), .ref (g 12), .ref (g 22), .ref (g 34), .ref (g 23), .ref (g 24), .ref (g 25), .ref (g 26), .int fa_39, .int pl_39]) := FR_at hF_41 (gs_13 hG) (show (13 : Nat) ∉ ([14] : List Nat) by decide) fg_39
    refine lv_iload_n hx hb dX4_openGroup_13 rfl (lv_at hl 1 rfl) ?_
    refine lv_bipush (v := 9) hx hb dX4_openGroup_14 (by decide) ?_
    refine a_icmp_ne (u := x.toInt) (v := 9) (tgt := 42) hx hb dX4_openGroup_16 (by decide) (rfl) (by decide) (fun c_43 => ?_) (fun c_43 => ?_)
    · refine lv_aload_n hx hb dX4_openGroup_42 rfl (lv_at hl 0 rfl) ?_
      refine t_get (D := D) (L := L) (f := f_41) (ci := 4) (v := .ref (g 14)) (C := RX4) (T := TX4) (N := 11) hx hb hts (by decide +kernel) hown hK.1 hP (gm_13 hG) fb_42 rfl 1 (by decide) (hts (.fieldLink RX4 41 "JugglingHall$Reader" "tokens" "LJugglingHall$Tokens;") (by decide +kernel)) (fun _ h9 => h9) rfl dX4_openGroup_43 ?_
      obtain ⟨cnt_44, nx_44, kd_44, vl_44, st_44, ls_44, fg_44, iv0_44, iv1_44, iv2_44⟩ := op_14 hI (gm_14 hG) (gs_14 hG)
      refine t_getN (D := D) (L := L) (f := f_41) (ci := 8) (v := .int kd_44) (C := RX8) (T := TX8) (N := 10) (host := "JugglingHall") hx hb hts (by decide +kernel) hown hK.1 hP (gm_14 hG) fg_44 rfl 6 (by decide) (hK.nw (.fieldLinkNest RX4 70 "JugglingHall$Tokens" "kind" "I" "JugglingHall") (by decide +kernel) rfl) (fun _ h9 => h9) rfl dX4_openGroup_46 ?_
      refine lv_bipush (v := 40) hx hb dX4_openGroup_49 (by decide) ?_
      refine a_icmp_ne (u := kd_44.toInt) (v := 40) (tgt := 65) hx hb dX4_openGroup_51 (by decide) (rfl) (by decide) (fun c_45 => ?_) (fun c_45 => ?_)
      · refine lv_aload_n hx hb dX4_openGroup_65 rfl (lv_at hl 0 rfl) ?_
        refine lv_bipush (v := 40) hx hb dX4_openGroup_66 (by decide) ?_
        have hz_46 : (40 : Int32).toInt = 40 := by decide
        refine call_p (va_runV (As := [.int 40]) (rest := []) ⟨hx, hb, hml, hown, hts⟩ (t_X4_expect l D cI cR cM _  hj hG hI  (by first | assumption | omega)) (cwV 1 hts gX4_openGroup_X4_expect rfl rfl rfl (by decide +kernel) ⟨Nat.le_of_ble_eq_true rfl, Nat.le_of_ble_eq_true rfl⟩) (pre_T hK hP hD (gm_13 hG) fb_42 rfl) rfl rfl hl.1 rfl (lv_room (Nat.le_of_ble_eq_true rfl)) dX4_openGroup_68 ⟨Nat.le_of_ble_eq_true rfl, Nat.le_of_ble_eq_true rfl⟩) hD hS hA (fun u_47 H locs hw hP hD hS => ?_)
        obtain ⟨r_47, f_47⟩ := u_47
        obtain ⟨hI, hF_47, he_47, hTK_47, h01_47⟩ : IN jn cI cR cM g L S f_47 ∧ FR S [13, 14] f_41 f_47 ∧ (∀ cnt9 nx9 kd9 vl9 st9 ls9, f_41 (g 14) = .inr (8, [.ref (g 11), .ref (g 31), .ref (g 32), .ref (g 33), .int cnt9, .int nx9, .int kd9, .int vl9, .int st9, .int ls9]) → r_47.toInt = 1 → kd9.toInt = (40 : Int32).toInt) ∧ (TK g cI f_47) ∧ (r_47.toInt = 0 ∨ r_47.toInt = 1) := hw
        have hP : va_P D vwCl (va_pl L f_47) H := hP
        have hD : va_D A (va_pl L f_47) := hD
        have hF := FR_tr hF hF_47 (by decide)
        have he9 := he_47 _ _ _ _ _ _ fg_44
        exact g_zret (r_47, f_47) hx hb hr hlocks hS (b01 (by omega)) rfl (⟨hI, hF, show r_47.toInt = 1 → y.toInt ≤ 4 from (by first | assumption | omega), show TK g cI f_47 from (by first | assumption | omega), show r_47.toInt = 0 ∨ r_47.toInt = 1 from (by first | assumption | omega)⟩) hP hD hQ (Nat.le_of_ble_eq_true rfl) (Nat.le_of_ble_eq_true rfl) dX4_openGroup_71
      · refine lv_iload_n hx hb dX4_openGroup_54 rfl (lv_at hl 2 rfl) ?_
        refine lv_iconst (v := 5) hx hb dX4_openGroup_55 (by decide) ?_
        refine a_icmp_lt (u := y.toInt) (v := 5) (tgt := 65) hx hb dX4_openGroup_56 (by decide) (rfl) (by decide) (fun c_48 => ?_) (fun c_48 => ?_)
        · refine lv_aload_n hx hb dX4_openGroup_65 rfl (lv_at hl 0 rfl) ?_
          refine lv_bipush (v := 40) hx hb dX4_openGroup_66 (by decide) ?_
          have hz_49 : (40 : Int32).toInt = 40 := by decide
          refine call_p (va_runV (As := [.int 40]) (rest := []) ⟨hx, hb, hml, hown, hts⟩ (t_X4_expect l D cI cR cM _  hj hG hI  (by first | assumption | omega)) (cwV 1 hts gX4_openGroup_X4_expect rfl rfl rfl (by decide +kernel) ⟨Nat.le_of_ble_eq_true rfl, Nat.le_of_ble_eq_true rfl⟩) (pre_T hK hP hD (gm_13 hG) fb_42 rfl) rfl rfl hl.1 rfl (lv_room (Nat.le_of_ble_eq_true rfl)) dX4_openGroup_68 ⟨Nat.le_of_ble_eq_true rfl, Nat.le_of_ble_eq_true rfl⟩) hD hS hA (fun u_50 H locs hw hP hD hS => ?_)
          obtain ⟨r_50, f_50⟩ := u_50
          obtain ⟨hI, hF_50, he_50, hTK_50, h01_50⟩ : IN jn cI cR cM g L S f_50 ∧ FR S [13, 14] f_41 f_50 ∧ (∀ cnt9 nx9 kd9 vl9 st9 ls9, f_41 (g 14) = .inr (8, [.ref (g 11), .ref (g 31), .ref (g 32), .ref (g 33), .int cnt9, .int nx9, .int kd9, .int vl9, .int st9, .int ls9]) → r_50.toInt = 1 → kd9.toInt = (40 : Int32).toInt) ∧ (TK g cI f_50) ∧ (r_50.toInt = 0 ∨ r_50.toInt = 1) := hw
          have hP : va_P D vwCl (va_pl L f_50) H := hP
          have hD : va_D A (va_pl L f_50) := hD
          have hF := FR_tr hF hF_50 (by decide)
          have he9 := he_50 _ _ _ _ _ _ fg_44
          exact g_zret (r_50, f_50) hx hb hr hlocks hS (b01 (by omega)) rfl (⟨hI, hF, show r_50.toInt = 1 → y.toInt ≤ 4 from (by first | assumption | omega), show TK g cI f_50 from (by first | assumption | omega), show r_50.toInt = 0 ∨ r_50.toInt = 1 from (by first | assumption | omega)⟩) hP hD hQ (Nat.le_of_ble_eq_true rfl) (Nat.le_of_ble_eq_true rfl) dX4_openGroup_71
        · refine lv_aload_n hx hb dX4_openGroup_59 rfl (lv_at hl 0 rfl) ?_
          refine lv_iconst (v := 3) hx hb dX4_openGroup_60 (by decide) ?_
          have hz_51 : (3 : Int32).toInt = 3 := by decide
          refine call_p (va_runV (As := [.int 3]) (rest := []) ⟨hx, hb, hml, hown, hts⟩ (t_X4_fail l D cI cR cM _  hj hG hI  ) (cwV 1 hts gX4_openGroup_X4_fail rfl rfl rfl (by decide +kernel) ⟨Nat.le_of_ble_eq_true rfl, Nat.le_of_ble_eq_true rfl⟩) (pre_T hK hP hD (gm_13 hG) fb_42 rfl) rfl rfl hl.1 rfl (lv_room (Nat.le_of_ble_eq_true rfl)) dX4_openGroup_61 ⟨Nat.le_of_ble_eq_true rfl, Nat.le_of_ble_eq_true rfl⟩) hD hS hA (fun u_52 H locs hw hP hD hS => ?_)
          obtain ⟨r_52, f_52⟩ := u_52
          obtain ⟨hI, hF_52, h0_52, h01_52⟩ : IN jn cI cR cM g L S f_52 ∧ FR S [13] f_41 f_52 ∧ (r_52.toInt = 0) ∧ (r_52.toInt = 0 ∨ r_52.toInt = 1) := hw
          have hP : va_P D vwCl (va_pl L f_52) H := hP
          have hD : va_D A (va_pl L f_52) := hD
          have hF := FR_tr hF hF_52 (by decide)
          have hTK_52 : TK g cI f_52 := TK_fr (f := f_41) (by assumption) hG hF_52 (by decide)
          have fb_53 : f_52 (g 14) = .inr (8, [.ref (g 11), .ref (g 31), .ref (g 32), .ref (g 33), .int cnt_44, .int nx_44, .int kd_44, .int vl_44, .int st_44, .int ls_44]) := FR_at hF_52 (gs_14 hG) (show (14 : Nat) ∉ ([13] : List Nat) by decide) fg_44
          exact g_zret (r_52, f_52) hx hb hr hlocks hS (b01 (by omega)) rfl (⟨hI, hF, show r_52.toInt = 1 → y.toInt ≤ 4 from (by first | assumption | omega), show TK g cI f_52 from (by first | assumption | omega), show r_52.toInt = 0 ∨ r_52.toInt = 1 from (by first | assumption | omega)⟩) hP hD hQ (Nat.le_of_ble_eq_true rfl) (Nat.le_of_ble_eq_true rfl) dX4_openGroup_64
    · refine lv_aload_n hx hb dX4_openGroup_19 rfl (lv_at hl 0 rfl) ?_
      refine t_get (D := D) (L := L) (f := f_41) (ci := 4) (v := .ref (g 34)) (C := RX4) (T := TX4) (N := 11) hx hb hts (by decide +kernel) hown hK.1 hP (gm_13 hG) fb_42 rfl 4 (by decide) (hts (.fieldLink RX4 17 "JugglingHall$Reader" "turns" "[I") (by decide +kernel)) (fun _ h9 => h9) rfl dX4_openGroup_20 ?_
      refine lv_iload_n hx hb dX4_openGroup_23 rfl (lv_at hl 2 rfl) ?_
      refine lv_aload_n hx hb dX4_openGroup_24 rfl (lv_at hl 0 rfl) ?_
      refine t_get (D := D) (L := L) (f := f_41) (ci := 4) (v := .ref (g 14)) (C := RX4) (T := TX4) (N := 11) hx hb hts (by decide +kernel) hown hK.1 hP (gm_13 hG) fb_42 rfl 1 (by decide) (hts (.fieldLink RX4 41 "JugglingHall$Reader" "tokens" "LJugglingHall$Tokens;") (by decide +kernel)) (fun _ h9 => h9) rfl dX4_openGroup_25 ?_
      obtain ⟨cnt_54, nx_54, kd_54, vl_54, st_54, ls_54, fg_54, iv0_54, iv1_54, iv2_54⟩ := op_14 hI (gm_14 hG) (gs_14 hG)
      refine t_getN (D := D) (L := L) (f := f_41) (ci := 8) (v := .int vl_54) (C := RX8) (T := TX8) (N := 10) (host := "JugglingHall") hx hb hts (by decide +kernel) hown hK.1 hP (gm_14 hG) fg_54 rfl 7 (by decide) (hK.nw (.fieldLinkNest RX4 113 "JugglingHall$Tokens" "value" "I" "JugglingHall") (by decide +kernel) rfl) (fun _ h9 => h9) rfl dX4_openGroup_28 ?_
      obtain ⟨c_55, fg_55⟩ := op_34 hI (gm_34 hG) (gs_34 hG)
      refine t_iast (L := L) (f := f_41) (h := c_55) (u := y.toInt) hx hb hK.1 hP hD hS (gm_34 hG) 0 fg_55 rfl dX4_openGroup_31 (rfl) (by omega) (fun g_56 f_56 H locs eg_56 e9_56 o_56 hP hD hS => ?_)
      have fa_56 : f_56 (g 34) = .inl (cI, 6, .inl g_56) := e9_56
      have hI := IN_set (e := .inl (cI, 6, .inl g_56)) hI (gs_34 hG) (mk_34) fa_56 o_56
      have hF := FR_set hF (gs_34 hG) (show (34 : Nat) ∈ ([13, 14, 34] : List Nat) by decide) o_56
      have hTK_56 : TK g cI f_56 := TK_set (f := f_41) (by assumption) hG (gs_34 hG) (show (34 : Nat) ∉ ([14, 31, 32] : List Nat) by decide) o_56
      have fb_57 : f_56 (g 13) = .inr (4, [.int (nI jn), .ref (g 14), .ref (g 12), .ref (g 22), .ref (g 34), .ref (g 23), .ref (g 24), .ref (g 25), .ref (g 26), .int fa_39, .int pl_39]) := f_at o_56 (S_ne (gs_13 hG) (gs_34 hG) (show (13 : Nat) ≠ 34 by decide)) fb_42
      have fb_58 : f_56 (g 14) = .inr (8, [.ref (g 11), .ref (g 31), .ref (g 32), .ref (g 33), .int cnt_54, .int nx_54, .int kd_54, .int vl_54, .int st_54, .int ls_54]) := f_at o_56 (S_ne (gs_14 hG) (gs_34 hG) (show (14 : Nat) ≠ 34 by decide)) fg_54
      refine lv_aload_n hx hb dX4_openGroup_32 rfl (lv_at hl 0 rfl) ?_
      refine lv_iconst (v := 2) hx hb dX4_openGroup_33 (by decide) ?_
      have hz_59 : (2 : Int32).toInt = 2 := by decide
      refine call_p (va_runV (As := [.int 2]) (rest := []) ⟨hx, hb, hml, hown, hts⟩ (t_X4_expect l D cI cR cM _  hj hG hI  (by first | assumption | omega)) (cwV 1 hts gX4_openGroup_X4_expect rfl rfl rfl (by decide +kernel) ⟨Nat.le_of_ble_eq_true rfl, Nat.le_of_ble_eq_true rfl⟩) (pre_T hK hP hD (gm_13 hG) fb_57 rfl) rfl rfl hl.1 rfl (lv_room (Nat.le_of_ble_eq_true rfl)) dX4_openGroup_34 ⟨Nat.le_of_ble_eq_true rfl, Nat.le_of_ble_eq_true rfl⟩) hD hS hA (fun u_60 H locs hw hP hD hS => ?_)
      obtain ⟨r_60, f_60⟩ := u_60
      obtain ⟨hI, hF_60, he_60, hTK_60, h01_60⟩ : IN jn cI cR cM g L S f_60 ∧ FR S [13, 14] f_56 f_60 ∧ (∀ cnt9 nx9 kd9 vl9 st9 ls9, f_56 (g 14) = .inr (8, [.ref (g 11), .ref (g 31), .ref (g 32), .ref (g 33), .int cnt9, .int nx9, .int kd9, .int vl9, .int st9, .int ls9]) → r_60.toInt = 1 → kd9.toInt = (2 : Int32).toInt) ∧ (TK g cI f_60) ∧ (r_60.toInt = 0 ∨ r_60.toInt = 1) := hw
      have hP : va_P D vwCl (va_pl L f_60) H := hP
      have hD : va_D A (va_pl L f_60) := hD
      have hF := FR_tr hF hF_60 (by decide)
      have fb_61 : f_60 (g 34) = .inl (cI, 6, .inl g_56) := FR_at hF_60 (gs_34 hG) (show (34 : Nat) ∉ ([13, 14] : List Nat) by decide) fa_56
      refine a_if_ne (u := r_60.toInt) (tgt := 42) hx hb dX4_openGroup_37 (by decide) (rfl) (fun c_62 => ?_) (fun c_62 => ?_)
      · refine lv_aload_n hx hb dX4_openGroup_42 rfl (lv_at hl 0 rfl) ?_
        obtain ⟨fa_63, pl_63, fg_63⟩ := op_13 hI (gm_13 hG) (gs_13 hG)
        refine t_get (D := D) (L := L) (f := f_60) (ci := 4) (v := .ref (g 14)) (C := RX4) (T := TX4) (N := 11) hx hb hts (by decide +kernel) hown hK.1 hP (gm_13 hG) fg_63 rfl 1 (by decide) (hts (.fieldLink RX4 41 "JugglingHall$Reader" "tokens" "LJugglingHall$Tokens;") (by decide +kernel)) (fun _ h9 => h9) rfl dX4_openGroup_43 ?_
        obtain ⟨cnt_64, nx_64, kd_64, vl_64, st_64, ls_64, fg_64, iv0_64, iv1_64, iv2_64⟩ := op_14 hI (gm_14 hG) (gs_14 hG)
        refine t_getN (D := D) (L := L) (f := f_60) (ci := 8) (v := .int kd_64) (C := RX8) (T := TX8) (N := 10) (host := "JugglingHall") hx hb hts (by decide +kernel) hown hK.1 hP (gm_14 hG) fg_64 rfl 6 (by decide) (hK.nw (.fieldLinkNest RX4 70 "JugglingHall$Tokens" "kind" "I" "JugglingHall") (by decide +kernel) rfl) (fun _ h9 => h9) rfl dX4_openGroup_46 ?_
        refine lv_bipush (v := 40) hx hb dX4_openGroup_49 (by decide) ?_
        refine a_icmp_ne (u := kd_64.toInt) (v := 40) (tgt := 65) hx hb dX4_openGroup_51 (by decide) (rfl) (by decide) (fun c_65 => ?_) (fun c_65 => ?_)
        · refine lv_aload_n hx hb dX4_openGroup_65 rfl (lv_at hl 0 rfl) ?_
          refine lv_bipush (v := 40) hx hb dX4_openGroup_66 (by decide) ?_
          have hz_66 : (40 : Int32).toInt = 40 := by decide
          refine call_p (va_runV (As := [.int 40]) (rest := []) ⟨hx, hb, hml, hown, hts⟩ (t_X4_expect l D cI cR cM _  hj hG hI  (by first | assumption | omega)) (cwV 1 hts gX4_openGroup_X4_expect rfl rfl rfl (by decide +kernel) ⟨Nat.le_of_ble_eq_true rfl, Nat.le_of_ble_eq_true rfl⟩) (pre_T hK hP hD (gm_13 hG) fg_63 rfl) rfl rfl hl.1 rfl (lv_room (Nat.le_of_ble_eq_true rfl)) dX4_openGroup_68 ⟨Nat.le_of_ble_eq_true rfl, Nat.le_of_ble_eq_true rfl⟩) hD hS hA (fun u_67 H locs hw hP hD hS => ?_)
          obtain ⟨r_67, f_67⟩ := u_67
          obtain ⟨hI, hF_67, he_67, hTK_67, h01_67⟩ : IN jn cI cR cM g L S f_67 ∧ FR S [13, 14] f_60 f_67 ∧ (∀ cnt9 nx9 kd9 vl9 st9 ls9, f_60 (g 14) = .inr (8, [.ref (g 11), .ref (g 31), .ref (g 32), .ref (g 33), .int cnt9, .int nx9, .int kd9, .int vl9, .int st9, .int ls9]) → r_67.toInt = 1 → kd9.toInt = (40 : Int32).toInt) ∧ (TK g cI f_67) ∧ (r_67.toInt = 0 ∨ r_67.toInt = 1) := hw
          have hP : va_P D vwCl (va_pl L f_67) H := hP
          have hD : va_D A (va_pl L f_67) := hD
          have hF := FR_tr hF hF_67 (by decide)
          have fb_68 : f_67 (g 34) = .inl (cI, 6, .inl g_56) := FR_at hF_67 (gs_34 hG) (show (34 : Nat) ∉ ([13, 14] : List Nat) by decide) fb_61
          have he9 := he_67 _ _ _ _ _ _ fg_64
          exact g_zret (r_67, f_67) hx hb hr hlocks hS (b01 (by omega)) rfl (⟨hI, hF, show r_67.toInt = 1 → y.toInt ≤ 4 from (by first | assumption | omega), show TK g cI f_67 from (by first | assumption | omega), show r_67.toInt = 0 ∨ r_67.toInt = 1 from (by first | assumption | omega)⟩) hP hD hQ (Nat.le_of_ble_eq_true rfl) (Nat.le_of_ble_eq_true rfl) dX4_openGroup_71
        · refine lv_iload_n hx hb dX4_openGroup_54 rfl (lv_at hl 2 rfl) ?_
          refine lv_iconst (v := 5) hx hb dX4_openGroup_55 (by decide) ?_
          refine a_icmp_lt (u := y.toInt) (v := 5) (tgt := 65) hx hb dX4_openGroup_56 (by decide) (rfl) (by decide) (fun c_69 => ?_) (fun c_69 => ?_)
          · refine lv_aload_n hx hb dX4_openGroup_65 rfl (lv_at hl 0 rfl) ?_
            refine lv_bipush (v := 40) hx hb dX4_openGroup_66 (by decide) ?_
            have hz_70 : (40 : Int32).toInt = 40 := by decide
            refine call_p (va_runV (As := [.int 40]) (rest := []) ⟨hx, hb, hml, hown, hts⟩ (t_X4_expect l D cI cR cM _  hj hG hI  (by first | assumption | omega)) (cwV 1 hts gX4_openGroup_X4_expect rfl rfl rfl (by decide +kernel) ⟨Nat.le_of_ble_eq_true rfl, Nat.le_of_ble_eq_true rfl⟩) (pre_T hK hP hD (gm_13 hG) fg_63 rfl) rfl rfl hl.1 rfl (lv_room (Nat.le_of_ble_eq_true rfl)) dX4_openGroup_68 ⟨Nat.le_of_ble_eq_true rfl, Nat.le_of_ble_eq_true rfl⟩) hD hS hA (fun u_71 H locs hw hP hD hS => ?_)
            obtain ⟨r_71, f_71⟩ := u_71
            obtain ⟨hI, hF_71, he_71, hTK_71, h01_71⟩ : IN jn cI cR cM g L S f_71 ∧ FR S [13, 14] f_60 f_71 ∧ (∀ cnt9 nx9 kd9 vl9 st9 ls9, f_60 (g 14) = .inr (8, [.ref (g 11), .ref (g 31), .ref (g 32), .ref (g 33), .int cnt9, .int nx9, .int kd9, .int vl9, .int st9, .int ls9]) → r_71.toInt = 1 → kd9.toInt = (40 : Int32).toInt) ∧ (TK g cI f_71) ∧ (r_71.toInt = 0 ∨ r_71.toInt = 1) := hw
            have hP : va_P D vwCl (va_pl L f_71) H := hP
            have hD : va_D A (va_pl L f_71) := hD
            have hF := FR_tr hF hF_71 (by decide)
            have fb_72 : f_71 (g 34) = .inl (cI, 6, .inl g_56) := FR_at hF_71 (gs_34 hG) (show (34 : Nat) ∉ ([13, 14] : List Nat) by decide) fb_61
            have he9 := he_71 _ _ _ _ _ _ fg_64
            exact g_zret (r_71, f_71) hx hb hr hlocks hS (b01 (by omega)) rfl (⟨hI, hF, show r_71.toInt = 1 → y.toInt ≤ 4 from (by first | assumption | omega), show TK g cI f_71 from (by first | assumption | omega), show r_71.toInt = 0 ∨ r_71.toInt = 1 from (by first | assumption | omega)⟩) hP hD hQ (Nat.le_of_ble_eq_true rfl) (Nat.le_of_ble_eq_true rfl) dX4_openGroup_71
          · refine lv_aload_n hx hb dX4_openGroup_59 rfl (lv_at hl 0 rfl) ?_
            refine lv_iconst (v := 3) hx hb dX4_openGroup_60 (by decide) ?_
            have hz_73 : (3 : Int32).toInt = 3 := by decide
            refine call_p (va_runV (As := [.int 3]) (rest := []) ⟨hx, hb, hml, hown, hts⟩ (t_X4_fail l D cI cR cM _  hj hG hI  ) (cwV 1 hts gX4_openGroup_X4_fail rfl rfl rfl (by decide +kernel) ⟨Nat.le_of_ble_eq_true rfl, Nat.le_of_ble_eq_true rfl⟩) (pre_T hK hP hD (gm_13 hG) fg_63 rfl) rfl rfl hl.1 rfl (lv_room (Nat.le_of_ble_eq_true rfl)) dX4_openGroup_61 ⟨Nat.le_of_ble_eq_true rfl, Nat.le_of_ble_eq_true rfl⟩) hD hS hA (fun u_74 H locs hw hP hD hS => ?_)
            obtain ⟨r_74, f_74⟩ := u_74
            obtain ⟨hI, hF_74, h0_74, h01_74⟩ : IN jn cI cR cM g L S f_74 ∧ FR S [13] f_60 f_74 ∧ (r_74.toInt = 0) ∧ (r_74.toInt = 0 ∨ r_74.toInt = 1) := hw
            have hP : va_P D vwCl (va_pl L f_74) H := hP
            have hD : va_D A (va_pl L f_74) := hD
            have hF := FR_tr hF hF_74 (by decide)
            have hTK_74 : TK g cI f_74 := TK_fr (f := f_60) (by assumption) hG hF_74 (by decide)
            have fb_75 : f_74 (g 34) = .inl (cI, 6, .inl g_56) := FR_at hF_74 (gs_34 hG) (show (34 : Nat) ∉ ([13] : List Nat) by decide) fb_61
            have fb_76 : f_74 (g 14) = .inr (8, [.ref (g 11), .ref (g 31), .ref (g 32), .ref (g 33), .int cnt_64, .int nx_64, .int kd_64, .int vl_64, .int st_64, .int ls_64]) := FR_at hF_74 (gs_14 hG) (show (14 : Nat) ∉ ([13] : List Nat) by decide) fg_64
            exact g_zret (r_74, f_74) hx hb hr hlocks hS (b01 (by omega)) rfl (⟨hI, hF, show r_74.toInt = 1 → y.toInt ≤ 4 from (by first | assumption | omega), show TK g cI f_74 from (by first | assumption | omega), show r_74.toInt = 0 ∨ r_74.toInt = 1 from (by first | assumption | omega)⟩) hP hD hQ (Nat.le_of_ble_eq_true rfl) (Nat.le_of_ble_eq_true rfl) dX4_openGroup_64
      · refine lv_iconst (v := 0) hx hb dX4_openGroup_40 (by decide) ?_
        have hz_77 : (0 : Int32).toInt = 0 := by decide
        exact g_zret ((0 : Int32), f_60) hx hb hr hlocks hS (by first | exact Or.inl rfl | exact Or.inr rfl) rfl (⟨hI, hF, show (0 : Int32).toInt = 1 → y.toInt ≤ 4 from (by first | assumption | omega), show TK g cI f_60 from (by first | assumption | omega), show (0 : Int32).toInt = 0 ∨ (0 : Int32).toInt = 1 from (by first | assumption | omega)⟩) hP hD hQ (Nat.le_of_ble_eq_true rfl) (Nat.le_of_ble_eq_true rfl) dX4_openGroup_41
set_option maxRecDepth 100000 in
set_option maxHeartbeats 4000000 in
theorem t_X4_joinGroup (l : Launch) (D : va_G) (cI cR cM : ClassId) (sz : Nat) {jn : Nat} {g : Nat → Nat} {L : List Nat} {S : Sg} {f : Nat → va_E} {x y : Int32}  (hj : 1 ≤ jn ∧ jn ≤ 3) (hG : SG g L S) (hI : IN jn cI cR cM g L S f) (hy0 : 0 ≤ y.toInt ∧ y.toInt ≤ 4) (hTK : TK g cI f) : Met l yX4_joinGroup wsX4_joinGroup ({ frames := 3, cells := 0, slots := 0, locals := 111 }) (P0 D cI cR cM [.ref (g 13), .int x, .int y] sz (va_pl L f)) (QG (S := Int32 × (Nat → va_E)) (fun u => some (.int u.1)) (fun u => va_pl L u.2) (fun u => IN jn cI cR cM g L S u.2 ∧ FR S [0, 1, 13] f u.2 ∧ (TK g cI u.2) ∧ (u.1.toInt = 0 ∨ u.1.toInt = 1)) D (va_A (va_pl L f) sz)) 0 0 (va_A (va_pl L f) sz) := by
  refine go (cc := cX4_joinGroup) (maxL := 6) (ret := (some .boolean)) (by decide +kernel) rfl (Nat.le_of_ble_eq_true rfl) ?_
  intro p e s m below meth c ls args Q hQ hsz hx hb hr hml hts hown hlocks hnm hP hK hD hl
  subst hsz
  have hD := hD.self (sz := s.heap.size)
  generalize hAe : va_A (va_pl L f) s.heap.size = A at hD hQ
  have hA : ∀ q, s.heap.size ≤ q → A q := fun q h => by rw [← hAe]; exact Or.inr h
  have hS : va_S A s.heap s.heap [] := va_S.rf
  have hF : FR S [0, 1, 13] f f := FR_rf
  have hl : lv_has ls 6 [(0, .ref (g 13)), (1, .int x), (2, .int y)] := hl
  refine lv_aload_n hx hb dX4_joinGroup_0 rfl (lv_at hl 0 rfl) ?_
  obtain ⟨fa_1, pl_1, fg_1⟩ := op_13 hI (gm_13 hG) (gs_13 hG)
  refine t_get (D := D) (L := L) (f := f) (ci := 4) (v := .ref (g 22)) (C := RX4) (T := TX4) (N := 11) hx hb hts (by decide +kernel) hown hK.1 hP (gm_13 hG) fg_1 rfl 3 (by decide) (hts (.fieldLink RX4 13 "JugglingHall$Reader" "levels" "[LJugglingHall$Row;") (by decide +kernel)) (fun _ h9 => h9) rfl dX4_joinGroup_1 ?_
  refine lv_iload_n hx hb dX4_joinGroup_4 rfl (lv_at hl 2 rfl) ?_
  obtain ⟨c_2, fg_2, iv0_2⟩ := op_22 hI (gm_22 hG) (gs_22 hG)
  refine t_aald (L := L) (f := f) (y := c_2) (u := y.toInt) hx hb hK.1 hP (gm_22 hG) 1 fg_2 rfl dX4_joinGroup_5 (rfl) (by omega) (fun w_3 q_3 => ?_)
  obtain ⟨r_3, p_3, n_3, er_3, m_3, s_3⟩ := iv0_2 y.toInt (by omega) (by omega)
  have q_3 := q_3.trans er_3
  subst q_3
  refine W.eq (g2 := F0 m 6 ls [.ref r_3]) rfl ?_
  refine lv_astore_n (lv' := [(3, .ref r_3), (0, .ref (g 13)), (1, .int x), (2, .int y)]) hx hb dX4_joinGroup_6 rfl hl (by decide) rfl (fun ls hl => ?_)
  refine lv_aload_n hx hb dX4_joinGroup_7 rfl (lv_at hl 1 rfl) ?_
  refine t_get (D := D) (L := L) (f := f) (ci := 4) (v := .ref (g 22)) (C := RX4) (T := TX4) (N := 11) hx hb hts (by decide +kernel) hown hK.1 hP (gm_13 hG) fg_1 rfl 3 (by decide) (hts (.fieldLink RX4 13 "JugglingHall$Reader" "levels" "[LJugglingHall$Row;") (by decide +kernel)) (fun _ h9 => h9) rfl dX4_joinGroup_8 ?_
  refine lv_iload_n hx hb dX4_joinGroup_11 rfl (lv_at hl 3 rfl) ?_
  refine lv_iconst (v := 1) hx hb dX4_joinGroup_12 (by decide) ?_
  refine a_iadd (u := y.toInt) (v := 1) hx hb dX4_joinGroup_13 (rfl) (by decide) (by omega) (fun z_4 e_4 => ?_)
  refine t_aald (L := L) (f := f) (y := c_2) (u := (y.toInt + 1)) hx hb hK.1 hP (gm_22 hG) 1 fg_2 rfl dX4_joinGroup_14 (e_4) (by omega) (fun w_5 q_5 => ?_)
  obtain ⟨r_5, p_5, n_5, er_5, m_5, s_5⟩ := iv0_2 (y.toInt + 1) (by omega) (by omega)
  have q_5 := q_5.trans er_5
  subst q_5
  refine W.eq (g2 := F0 m 15 ls [.ref r_5]) rfl ?_
  refine lv_astore (lv' := [(4, .ref r_5), (3, .ref r_3), (0, .ref (g 13)), (1, .int x), (2, .int y)]) hx hb dX4_joinGroup_15 hl (by decide) rfl (fun ls hl => ?_)
  refine lv_aload_n hx hb dX4_joinGroup_17 rfl (lv_at hl 1 rfl) ?_
  obtain ⟨len_6, fg_6, v1_6, v2_6, v3_6, mp_6, sp_6⟩ := op_0 hI m_3 s_3
  obtain ⟨w1_6, w2_6, w3_6, w4_6, w5_6⟩ := lenw hj v1_6 v2_6 v3_6
  refine t_getN (D := D) (L := L) (f := f) (ci := 5) (v := .int len_6) (C := RX5) (T := TX5) (N := 4) (host := "JugglingHall") hx hb hts (by decide +kernel) hown hK.1 hP m_3 fg_6 rfl 3 (by decide) (hK.nw (.fieldLinkNest RX4 62 "JugglingHall$Row" "length" "I" "JugglingHall") (by decide +kernel) rfl) (fun _ h9 => h9) rfl dX4_joinGroup_18 ?_
  refine lv_aload hx hb dX4_joinGroup_21 (lv_at hl 0 rfl) ?_
  obtain ⟨len_7, fg_7, v1_7, v2_7, v3_7, mp_7, sp_7⟩ := op_0 hI m_5 s_5
  obtain ⟨w1_7, w2_7, w3_7, w4_7, w5_7⟩ := lenw hj v1_7 v2_7 v3_7
  refine t_getN (D := D) (L := L) (f := f) (ci := 5) (v := .int len_7) (C := RX5) (T := TX5) (N := 4) (host := "JugglingHall") hx hb hts (by decide +kernel) hown hK.1 hP m_5 fg_7 rfl 3 (by decide) (hK.nw (.fieldLinkNest RX4 62 "JugglingHall$Row" "length" "I" "JugglingHall") (by decide +kernel) rfl) (fun _ h9 => h9) rfl dX4_joinGroup_23 ?_
  refine a_iadd (u := len_6.toInt) (v := len_7.toInt) hx hb dX4_joinGroup_26 (rfl) (rfl) (by omega) (fun z_8 e_8 => ?_)
  refine lv_bipush (v := 24) hx hb dX4_joinGroup_27 (by decide) ?_
  refine a_icmp_le (u := (len_6.toInt + len_7.toInt)) (v := 24) (tgt := 38) hx hb dX4_joinGroup_29 (by decide) (e_8) (by decide) (fun c_9 => ?_) (fun c_9 => ?_)
  · refine lv_iconst (v := 1) hx hb dX4_joinGroup_38 (by decide) ?_
    refine lv_istore (lv' := [(5, .int 1), (4, .ref r_5), (3, .ref r_3), (0, .ref (g 13)), (1, .int x), (2, .int y)]) hx hb dX4_joinGroup_39 hl (by decide) rfl (fun ls hl => ?_)
    refine lv_iload_n hx hb dX4_joinGroup_41 rfl (lv_at hl 4 rfl) ?_
    have hu_10 : x.toInt = x.toInt := rfl
    rcases (show (x.toInt < 6 ∨ 9 < x.toInt) ∨ (x.toInt = 6) ∨ (x.toInt = 7) ∨ (x.toInt = 8) ∨ (x.toInt = 9) by omega) with c_10 | c_10 | c_10 | c_10 | c_10
    · refine lv_tableOut (tgt := 130) hx hb dX4_joinGroup_42 (by omega) (by decide) ?_
      refine lv_aload_n hx hb dX4_joinGroup_130 rfl (lv_at hl 3 rfl) ?_
      refine t_get (D := D) (L := L) (f := f) (ci := 4) (v := .ref (g 25)) (C := RX4) (T := TX4) (N := 11) hx hb hts (by decide +kernel) hown hK.1 hP (gm_13 hG) fg_1 rfl 7 (by decide) (hts (.fieldLink RX4 56 "JugglingHall$Reader" "changed" "LJugglingHall$Row;") (by decide +kernel)) (fun _ h9 => h9) rfl dX4_joinGroup_131 ?_
      refine lv_aload hx hb dX4_joinGroup_134 (lv_at hl 1 rfl) ?_
      obtain ⟨p_11, n_11, m_11, s_11⟩ := hG.2.2.1
      obtain ⟨len_12, fg_12, v1_12, v2_12, v3_12, mp_12, sp_12⟩ := op_0 hI m_11 s_11
      obtain ⟨w1_12, w2_12, w3_12, w4_12, w5_12⟩ := lenw hj v1_12 v2_12 v3_12
      obtain ⟨c_13, fg_13, iv0_13⟩ := op_1 hI mp_12 sp_12
      obtain ⟨c_14, fg_14, iv0_14⟩ := op_1 hI mp_7 sp_7
      refine call_p (va_runV (As := [.ref r_5]) (rest := []) ⟨hx, hb, hml, hown, hts⟩ (t_X5_takeFrom l D cI cR cM _  hj hG hI m_11 s_11 fg_12 fg_13 m_5 s_5 fg_7 fg_14 ) (cwV 1 hts gX4_joinGroup_X5_takeFrom rfl rfl rfl (by decide +kernel) ⟨Nat.le_of_ble_eq_true rfl, Nat.le_of_ble_eq_true rfl⟩) (pre_T hK hP hD m_11 fg_12 rfl) rfl rfl hl.1 rfl (lv_room (Nat.le_of_ble_eq_true rfl)) dX4_joinGroup_136 ⟨Nat.le_of_ble_eq_true rfl, Nat.le_of_ble_eq_true rfl⟩) hD hS hA (fun u_15 H locs hw hP hD hS => ?_)
      obtain ⟨r_15, f_15⟩ := u_15
      obtain ⟨hI, hF_15, h01_15⟩ : IN jn cI cR cM g L S f_15 ∧ FR S [0, 1] f f_15 ∧ (r_15.toInt = 0 ∨ r_15.toInt = 1) := hw
      have hP : va_P D vwCl (va_pl L f_15) H := hP
      have hD : va_D A (va_pl L f_15) := hD
      have hF := FR_tr hF hF_15 (by decide)
      have hTK_15 : TK g cI f_15 := TK_fr (f := f) (by assumption) hG hF_15 (by decide)
      have fb_16 : f_15 (g 13) = .inr (4, [.int (nI jn), .ref (g 14), .ref (g 12), .ref (g 22), .ref (g 34), .ref (g 23), .ref (g 24), .ref (g 25), .ref (g 26), .int fa_1, .int pl_1]) := FR_at hF_15 (gs_13 hG) (show (13 : Nat) ∉ ([0, 1] : List Nat) by decide) fg_1
      have fb_17 : f_15 (g 22) = .inl (cR, 6, .inr (.inr (.inr (.inr c_2)))) := FR_at hF_15 (gs_22 hG) (show (22 : Nat) ∉ ([0, 1] : List Nat) by decide) fg_2
      refine lv_pop hx hb dX4_joinGroup_139 rfl ?_
      refine lv_iload hx hb dX4_joinGroup_140 (lv_at hl 0 rfl) ?_
      refine a_if_eq (u := 1) (tgt := 164) hx hb dX4_joinGroup_142 (by decide) (by decide) (fun c_18 => absurd c_18 (by omega)) (fun c_18 => ?_)
      refine lv_aload_n hx hb dX4_joinGroup_145 rfl (lv_at hl 2 rfl) ?_
      refine lv_aload_n hx hb dX4_joinGroup_146 rfl (lv_at hl 3 rfl) ?_
      refine t_get (D := D) (L := L) (f := f_15) (ci := 4) (v := .ref (g 25)) (C := RX4) (T := TX4) (N := 11) hx hb hts (by decide +kernel) hown hK.1 hP (gm_13 hG) fb_16 rfl 7 (by decide) (hts (.fieldLink RX4 56 "JugglingHall$Reader" "changed" "LJugglingHall$Row;") (by decide +kernel)) (fun _ h9 => h9) rfl dX4_joinGroup_147 ?_
      refine lv_iconst (v := 0) hx hb dX4_joinGroup_150 (by decide) ?_
      refine lv_aload_n hx hb dX4_joinGroup_151 rfl (lv_at hl 3 rfl) ?_
      refine t_get (D := D) (L := L) (f := f_15) (ci := 4) (v := .ref (g 25)) (C := RX4) (T := TX4) (N := 11) hx hb hts (by decide +kernel) hown hK.1 hP (gm_13 hG) fb_16 rfl 7 (by decide) (hts (.fieldLink RX4 56 "JugglingHall$Reader" "changed" "LJugglingHall$Row;") (by decide +kernel)) (fun _ h9 => h9) rfl dX4_joinGroup_152 ?_
      obtain ⟨len_19, fg_19, v1_19, v2_19, v3_19, mp_19, sp_19⟩ := op_0 hI m_11 s_11
      obtain ⟨w1_19, w2_19, w3_19, w4_19, w5_19⟩ := lenw hj v1_19 v2_19 v3_19
      refine t_getN (D := D) (L := L) (f := f_15) (ci := 5) (v := .int len_19) (C := RX5) (T := TX5) (N := 4) (host := "JugglingHall") hx hb hts (by decide +kernel) hown hK.1 hP m_11 fg_19 rfl 3 (by decide) (hK.nw (.fieldLinkNest RX4 62 "JugglingHall$Row" "length" "I" "JugglingHall") (by decide +kernel) rfl) (fun _ h9 => h9) rfl dX4_joinGroup_155 ?_
      have hz_20 : (0 : Int32).toInt = 0 := by decide
      obtain ⟨len_21, fg_21, v1_21, v2_21, v3_21, mp_21, sp_21⟩ := op_0 hI m_3 s_3
      obtain ⟨w1_21, w2_21, w3_21, w4_21, w5_21⟩ := lenw hj v1_21 v2_21 v3_21
      obtain ⟨c_22, fg_22, iv0_22⟩ := op_1 hI mp_6 sp_6
      obtain ⟨c_23, fg_23, iv0_23⟩ := op_1 hI mp_12 sp_12
      refine call_p (va_runV (As := [.ref (g 25), .int 0, .int len_19]) (rest := []) ⟨hx, hb, hml, hown, hts⟩ (t_X5_append l D cI cR cM _  hj hG hI m_3 s_3 fg_21 fg_22 m_11 s_11 fg_19 fg_23 (by first | assumption | omega) (by first | assumption | omega)) (cwV 3 hts gX4_joinGroup_X5_append rfl rfl rfl (by decide +kernel) ⟨Nat.le_of_ble_eq_true rfl, Nat.le_of_ble_eq_true rfl⟩) (pre_T hK hP hD m_3 fg_21 rfl) rfl rfl hl.1 rfl (lv_room (Nat.le_of_ble_eq_true rfl)) dX4_joinGroup_158 ⟨Nat.le_of_ble_eq_true rfl, Nat.le_of_ble_eq_true rfl⟩) hD hS hA (fun u_24 H locs hw hP hD hS => ?_)
      obtain ⟨r_24, f_24⟩ := u_24
      obtain ⟨hI, hF_24, h01_24⟩ : IN jn cI cR cM g L S f_24 ∧ FR S [0, 1] f_15 f_24 ∧ (r_24.toInt = 0 ∨ r_24.toInt = 1) := hw
      have hP : va_P D vwCl (va_pl L f_24) H := hP
      have hD : va_D A (va_pl L f_24) := hD
      have hF := FR_tr hF hF_24 (by decide)
      have hTK_24 : TK g cI f_24 := TK_fr (f := f_15) (by assumption) hG hF_24 (by decide)
      have fb_25 : f_24 (g 13) = .inr (4, [.int (nI jn), .ref (g 14), .ref (g 12), .ref (g 22), .ref (g 34), .ref (g 23), .ref (g 24), .ref (g 25), .ref (g 26), .int fa_1, .int pl_1]) := FR_at hF_24 (gs_13 hG) (show (13 : Nat) ∉ ([0, 1] : List Nat) by decide) fb_16
      have fb_26 : f_24 (g 22) = .inl (cR, 6, .inr (.inr (.inr (.inr c_2)))) := FR_at hF_24 (gs_22 hG) (show (22 : Nat) ∉ ([0, 1] : List Nat) by decide) fb_17
      refine lv_goto (tgt := 169) hx hb dX4_joinGroup_161 (by decide) ?_
      exact g_zret (r_24, f_24) hx hb hr hlocks hS (b01 (by omega)) rfl (⟨hI, hF, show TK g cI f_24 from (by first | assumption | omega), show r_24.toInt = 0 ∨ r_24.toInt = 1 from (by first | assumption | omega)⟩) hP hD hQ (Nat.le_of_ble_eq_true rfl) (Nat.le_of_ble_eq_true rfl) dX4_joinGroup_169
    · refine lv_tableIn (off := 30) (tgt := 72) hx hb dX4_joinGroup_42 (by omega) (by omega) (by rw [show (x.toInt - 6).toNat = 0 by omega]; rfl) (by decide) ?_
      refine lv_aload_n hx hb dX4_joinGroup_72 rfl (lv_at hl 3 rfl) ?_
      refine t_get (D := D) (L := L) (f := f) (ci := 4) (v := .ref (g 25)) (C := RX4) (T := TX4) (N := 11) hx hb hts (by decide +kernel) hown hK.1 hP (gm_13 hG) fg_1 rfl 7 (by decide) (hts (.fieldLink RX4 56 "JugglingHall$Reader" "changed" "LJugglingHall$Row;") (by decide +kernel)) (fun _ h9 => h9) rfl dX4_joinGroup_73 ?_
      refine lv_aload hx hb dX4_joinGroup_76 (lv_at hl 1 rfl) ?_
      obtain ⟨p_27, n_27, m_27, s_27⟩ := hG.2.2.1
      obtain ⟨len_28, fg_28, v1_28, v2_28, v3_28, mp_28, sp_28⟩ := op_0 hI m_27 s_27
      obtain ⟨w1_28, w2_28, w3_28, w4_28, w5_28⟩ := lenw hj v1_28 v2_28 v3_28
      obtain ⟨c_29, fg_29, iv0_29⟩ := op_1 hI mp_28 sp_28
      obtain ⟨c_30, fg_30, iv0_30⟩ := op_1 hI mp_7 sp_7
      refine call_p (va_runV (As := [.ref r_5]) (rest := []) ⟨hx, hb, hml, hown, hts⟩ (t_X5_takeBack l D cI cR cM _  hj hG hI m_27 s_27 fg_28 fg_29 m_5 s_5 fg_7 fg_30 ) (cwV 1 hts gX4_joinGroup_X5_takeBack rfl rfl rfl (by decide +kernel) ⟨Nat.le_of_ble_eq_true rfl, Nat.le_of_ble_eq_true rfl⟩) (pre_T hK hP hD m_27 fg_28 rfl) rfl rfl hl.1 rfl (lv_room (Nat.le_of_ble_eq_true rfl)) dX4_joinGroup_78 ⟨Nat.le_of_ble_eq_true rfl, Nat.le_of_ble_eq_true rfl⟩) hD hS hA (fun u_31 H locs hw hP hD hS => ?_)
      obtain ⟨r_31, f_31⟩ := u_31
      obtain ⟨hI, hF_31, h01_31⟩ : IN jn cI cR cM g L S f_31 ∧ FR S [0, 1] f f_31 ∧ (r_31.toInt = 0 ∨ r_31.toInt = 1) := hw
      have hP : va_P D vwCl (va_pl L f_31) H := hP
      have hD : va_D A (va_pl L f_31) := hD
      have hF := FR_tr hF hF_31 (by decide)
      have hTK_31 : TK g cI f_31 := TK_fr (f := f) (by assumption) hG hF_31 (by decide)
      have fb_32 : f_31 (g 13) = .inr (4, [.int (nI jn), .ref (g 14), .ref (g 12), .ref (g 22), .ref (g 34), .ref (g 23), .ref (g 24), .ref (g 25), .ref (g 26), .int fa_1, .int pl_1]) := FR_at hF_31 (gs_13 hG) (show (13 : Nat) ∉ ([0, 1] : List Nat) by decide) fg_1
      have fb_33 : f_31 (g 22) = .inl (cR, 6, .inr (.inr (.inr (.inr c_2)))) := FR_at hF_31 (gs_22 hG) (show (22 : Nat) ∉ ([0, 1] : List Nat) by decide) fg_2
      refine lv_istore (lv' := [(5, .int r_31), (4, .ref r_5), (3, .ref r_3), (0, .ref (g 13)), (1, .int x), (2, .int y)]) hx hb dX4_joinGroup_81 hl (by decide) rfl (fun ls hl => ?_)
      refine lv_goto (tgt := 140) hx hb dX4_joinGroup_83 (by decide) ?_
      refine lv_iload hx hb dX4_joinGroup_140 (lv_at hl 0 rfl) ?_
      refine a_if_eq (u := r_31.toInt) (tgt := 164) hx hb dX4_joinGroup_142 (by decide) (rfl) (fun c_34 => ?_) (fun c_34 => ?_)
      · refine lv_aload_n hx hb dX4_joinGroup_164 rfl (lv_at hl 3 rfl) ?_
        refine lv_iconst (v := 5) hx hb dX4_joinGroup_165 (by decide) ?_
        have hz_35 : (5 : Int32).toInt = 5 := by decide
        refine call_p (va_runV (As := [.int 5]) (rest := []) ⟨hx, hb, hml, hown, hts⟩ (t_X4_failBehind l D cI cR cM _  hj hG hI  ) (cwV 1 hts gX4_joinGroup_X4_failBehind rfl rfl rfl (by decide +kernel) ⟨Nat.le_of_ble_eq_true rfl, Nat.le_of_ble_eq_true rfl⟩) (pre_T hK hP hD (gm_13 hG) fb_32 rfl) rfl rfl hl.1 rfl (lv_room (Nat.le_of_ble_eq_true rfl)) dX4_joinGroup_166 ⟨Nat.le_of_ble_eq_true rfl, Nat.le_of_ble_eq_true rfl⟩) hD hS hA (fun u_36 H locs hw hP hD hS => ?_)
        obtain ⟨r_36, f_36⟩ := u_36
        obtain ⟨hI, hF_36, h0_36, h01_36⟩ : IN jn cI cR cM g L S f_36 ∧ FR S [13] f_31 f_36 ∧ (r_36.toInt = 0) ∧ (r_36.toInt = 0 ∨ r_36.toInt = 1) := hw
        have hP : va_P D vwCl (va_pl L f_36) H := hP
        have hD : va_D A (va_pl L f_36) := hD
        have hF := FR_tr hF hF_36 (by decide)
        have hTK_36 : TK g cI f_36 := TK_fr (f := f_31) (by assumption) hG hF_36 (by decide)
        have fb_37 : f_36 (g 22) = .inl (cR, 6, .inr (.inr (.inr (.inr c_2)))) := FR_at hF_36 (gs_22 hG) (show (22 : Nat) ∉ ([13] : List Nat) by decide) fb_33
        exact g_zret (r_36, f_36) hx hb hr hlocks hS (b01 (by omega)) rfl (⟨hI, hF, show TK g cI f_36 from (by first | assumption | omega), show r_36.toInt = 0 ∨ r_36.toInt = 1 from (by first | assumption | omega)⟩) hP hD hQ (Nat.le_of_ble_eq_true rfl) (Nat.le_of_ble_eq_true rfl) dX4_joinGroup_169
      · refine lv_aload_n hx hb dX4_joinGroup_145 rfl (lv_at hl 2 rfl) ?_
        refine lv_aload_n hx hb dX4_joinGroup_146 rfl (lv_at hl 3 rfl) ?_
        refine t_get (D := D) (L := L) (f := f_31) (ci := 4) (v := .ref (g 25)) (C := RX4) (T := TX4) (N := 11) hx hb hts (by decide +kernel) hown hK.1 hP (gm_13 hG) fb_32 rfl 7 (by decide) (hts (.fieldLink RX4 56 "JugglingHall$Reader" "changed" "LJugglingHall$Row;") (by decide +kernel)) (fun _ h9 => h9) rfl dX4_joinGroup_147 ?_
        refine lv_iconst (v := 0) hx hb dX4_joinGroup_150 (by decide) ?_
        refine lv_aload_n hx hb dX4_joinGroup_151 rfl (lv_at hl 3 rfl) ?_
        refine t_get (D := D) (L := L) (f := f_31) (ci := 4) (v := .ref (g 25)) (C := RX4) (T := TX4) (N := 11) hx hb hts (by decide +kernel) hown hK.1 hP (gm_13 hG) fb_32 rfl 7 (by decide) (hts (.fieldLink RX4 56 "JugglingHall$Reader" "changed" "LJugglingHall$Row;") (by decide +kernel)) (fun _ h9 => h9) rfl dX4_joinGroup_152 ?_
        obtain ⟨len_38, fg_38, v1_38, v2_38, v3_38, mp_38, sp_38⟩ := op_0 hI m_27 s_27
        obtain ⟨w1_38, w2_38, w3_38, w4_38, w5_38⟩ := lenw hj v1_38 v2_38 v3_38
        refine t_getN (D := D) (L := L) (f := f_31) (ci := 5) (v := .int len_38) (C := RX5) (T := TX5) (N := 4) (host := "JugglingHall") hx hb hts (by decide +kernel) hown hK.1 hP m_27 fg_38 rfl 3 (by decide) (hK.nw (.fieldLinkNest RX4 62 "JugglingHall$Row" "length" "I" "JugglingHall") (by decide +kernel) rfl) (fun _ h9 => h9) rfl dX4_joinGroup_155 ?_
        have hz_39 : (0 : Int32).toInt = 0 := by decide
        obtain ⟨len_40, fg_40, v1_40, v2_40, v3_40, mp_40, sp_40⟩ := op_0 hI m_3 s_3
        obtain ⟨w1_40, w2_40, w3_40, w4_40, w5_40⟩ := lenw hj v1_40 v2_40 v3_40
        obtain ⟨c_41, fg_41, iv0_41⟩ := op_1 hI mp_6 sp_6
        obtain ⟨c_42, fg_42, iv0_42⟩ := op_1 hI mp_28 sp_28
        refine call_p (va_runV (As := [.ref (g 25), .int 0, .int len_38]) (rest := []) ⟨hx, hb, hml, hown, hts⟩ (t_X5_append l D cI cR cM _  hj hG hI m_3 s_3 fg_40 fg_41 m_27 s_27 fg_38 fg_42 (by first | assumption | omega) (by first | assumption | omega)) (cwV 3 hts gX4_joinGroup_X5_append rfl rfl rfl (by decide +kernel) ⟨Nat.le_of_ble_eq_true rfl, Nat.le_of_ble_eq_true rfl⟩) (pre_T hK hP hD m_3 fg_40 rfl) rfl rfl hl.1 rfl (lv_room (Nat.le_of_ble_eq_true rfl)) dX4_joinGroup_158 ⟨Nat.le_of_ble_eq_true rfl, Nat.le_of_ble_eq_true rfl⟩) hD hS hA (fun u_43 H locs hw hP hD hS => ?_)
        obtain ⟨r_43, f_43⟩ := u_43
        obtain ⟨hI, hF_43, h01_43⟩ : IN jn cI cR cM g L S f_43 ∧ FR S [0, 1] f_31 f_43 ∧ (r_43.toInt = 0 ∨ r_43.toInt = 1) := hw
        have hP : va_P D vwCl (va_pl L f_43) H := hP
        have hD : va_D A (va_pl L f_43) := hD
        have hF := FR_tr hF hF_43 (by decide)
        have hTK_43 : TK g cI f_43 := TK_fr (f := f_31) (by assumption) hG hF_43 (by decide)
        have fb_44 : f_43 (g 13) = .inr (4, [.int (nI jn), .ref (g 14), .ref (g 12), .ref (g 22), .ref (g 34), .ref (g 23), .ref (g 24), .ref (g 25), .ref (g 26), .int fa_1, .int pl_1]) := FR_at hF_43 (gs_13 hG) (show (13 : Nat) ∉ ([0, 1] : List Nat) by decide) fb_32
        have fb_45 : f_43 (g 22) = .inl (cR, 6, .inr (.inr (.inr (.inr c_2)))) := FR_at hF_43 (gs_22 hG) (show (22 : Nat) ∉ ([0, 1] : List Nat) by decide) fb_33
        refine lv_goto (tgt := 169) hx hb dX4_joinGroup_161 (by decide) ?_
        exact g_zret (r_43, f_43) hx hb hr hlocks hS (b01 (by omega)) rfl (⟨hI, hF, show TK g cI f_43 from (by first | assumption | omega), show r_43.toInt = 0 ∨ r_43.toInt = 1 from (by first | assumption | omega)⟩) hP hD hQ (Nat.le_of_ble_eq_true rfl) (Nat.le_of_ble_eq_true rfl) dX4_joinGroup_169
    · refine lv_tableIn (off := 44) (tgt := 86) hx hb dX4_joinGroup_42 (by omega) (by omega) (by rw [show (x.toInt - 6).toNat = 1 by omega]; rfl) (by decide) ?_
      refine lv_aload_n hx hb dX4_joinGroup_86 rfl (lv_at hl 3 rfl) ?_
      refine t_get (D := D) (L := L) (f := f) (ci := 4) (v := .ref (g 25)) (C := RX4) (T := TX4) (N := 11) hx hb hts (by decide +kernel) hown hK.1 hP (gm_13 hG) fg_1 rfl 7 (by decide) (hts (.fieldLink RX4 56 "JugglingHall$Reader" "changed" "LJugglingHall$Row;") (by decide +kernel)) (fun _ h9 => h9) rfl dX4_joinGroup_87 ?_
      refine lv_aload hx hb dX4_joinGroup_90 (lv_at hl 1 rfl) ?_
      obtain ⟨p_46, n_46, m_46, s_46⟩ := hG.2.2.1
      obtain ⟨len_47, fg_47, v1_47, v2_47, v3_47, mp_47, sp_47⟩ := op_0 hI m_46 s_46
      obtain ⟨w1_47, w2_47, w3_47, w4_47, w5_47⟩ := lenw hj v1_47 v2_47 v3_47
      obtain ⟨c_48, fg_48, iv0_48⟩ := op_1 hI mp_47 sp_47
      obtain ⟨c_49, fg_49, iv0_49⟩ := op_1 hI mp_7 sp_7
      refine call_p (va_runV (As := [.ref r_5]) (rest := []) ⟨hx, hb, hml, hown, hts⟩ (t_X5_takeOver l D cI cR cM _  hj hG hI m_46 s_46 fg_47 fg_48 m_5 s_5 fg_7 fg_49 ) (cwV 1 hts gX4_joinGroup_X5_takeOver rfl rfl rfl (by decide +kernel) ⟨Nat.le_of_ble_eq_true rfl, Nat.le_of_ble_eq_true rfl⟩) (pre_T hK hP hD m_46 fg_47 rfl) rfl rfl hl.1 rfl (lv_room (Nat.le_of_ble_eq_true rfl)) dX4_joinGroup_92 ⟨Nat.le_of_ble_eq_true rfl, Nat.le_of_ble_eq_true rfl⟩) hD hS hA (fun u_50 H locs hw hP hD hS => ?_)
      obtain ⟨f_50, e0_50⟩ : ∃ x, x = u_50 := ⟨_, rfl⟩
      subst e0_50
      obtain ⟨hI, hF_50⟩ : IN jn cI cR cM g L S f_50 ∧ FR S [0, 1] f f_50 := hw
      have hP : va_P D vwCl (va_pl L f_50) H := hP
      have hD : va_D A (va_pl L f_50) := hD
      have hF := FR_tr hF hF_50 (by decide)
      have hTK_50 : TK g cI f_50 := TK_fr (f := f) (by assumption) hG hF_50 (by decide)
      have fb_51 : f_50 (g 13) = .inr (4, [.int (nI jn), .ref (g 14), .ref (g 12), .ref (g 22), .ref (g 34), .ref (g 23), .ref (g 24), .ref (g 25), .ref (g 26), .int fa_1, .int pl_1]) := FR_at hF_50 (gs_13 hG) (show (13 : Nat) ∉ ([0, 1] : List Nat) by decide) fg_1
      have fb_52 : f_50 (g 22) = .inl (cR, 6, .inr (.inr (.inr (.inr c_2)))) := FR_at hF_50 (gs_22 hG) (show (22 : Nat) ∉ ([0, 1] : List Nat) by decide) fg_2
      refine lv_goto (tgt := 140) hx hb dX4_joinGroup_95 (by decide) ?_
      refine lv_iload hx hb dX4_joinGroup_140 (lv_at hl 0 rfl) ?_
      refine a_if_eq (u := 1) (tgt := 164) hx hb dX4_joinGroup_142 (by decide) (by decide) (fun c_53 => absurd c_53 (by omega)) (fun c_53 => ?_)
      refine lv_aload_n hx hb dX4_joinGroup_145 rfl (lv_at hl 2 rfl) ?_
      refine lv_aload_n hx hb dX4_joinGroup_146 rfl (lv_at hl 3 rfl) ?_
      refine t_get (D := D) (L := L) (f := f_50) (ci := 4) (v := .ref (g 25)) (C := RX4) (T := TX4) (N := 11) hx hb hts (by decide +kernel) hown hK.1 hP (gm_13 hG) fb_51 rfl 7 (by decide) (hts (.fieldLink RX4 56 "JugglingHall$Reader" "changed" "LJugglingHall$Row;") (by decide +kernel)) (fun _ h9 => h9) rfl dX4_joinGroup_147 ?_
      refine lv_iconst (v := 0) hx hb dX4_joinGroup_150 (by decide) ?_
      refine lv_aload_n hx hb dX4_joinGroup_151 rfl (lv_at hl 3 rfl) ?_
      refine t_get (D := D) (L := L) (f := f_50) (ci := 4) (v := .ref (g 25)) (C := RX4) (T := TX4) (N := 11) hx hb hts (by decide +kernel) hown hK.1 hP (gm_13 hG) fb_51 rfl 7 (by decide) (hts (.fieldLink RX4 56 "JugglingHall$Reader" "changed" "LJugglingHall$Row;") (by decide +kernel)) (fun _ h9 => h9) rfl dX4_joinGroup_152 ?_
      obtain ⟨len_54, fg_54, v1_54, v2_54, v3_54, mp_54, sp_54⟩ := op_0 hI m_46 s_46
      obtain ⟨w1_54, w2_54, w3_54, w4_54, w5_54⟩ := lenw hj v1_54 v2_54 v3_54
      refine t_getN (D := D) (L := L) (f := f_50) (ci := 5) (v := .int len_54) (C := RX5) (T := TX5) (N := 4) (host := "JugglingHall") hx hb hts (by decide +kernel) hown hK.1 hP m_46 fg_54 rfl 3 (by decide) (hK.nw (.fieldLinkNest RX4 62 "JugglingHall$Row" "length" "I" "JugglingHall") (by decide +kernel) rfl) (fun _ h9 => h9) rfl dX4_joinGroup_155 ?_
      have hz_55 : (0 : Int32).toInt = 0 := by decide
      obtain ⟨len_56, fg_56, v1_56, v2_56, v3_56, mp_56, sp_56⟩ := op_0 hI m_3 s_3
      obtain ⟨w1_56, w2_56, w3_56, w4_56, w5_56⟩ := lenw hj v1_56 v2_56 v3_56
      obtain ⟨c_57, fg_57, iv0_57⟩ := op_1 hI mp_6 sp_6
      obtain ⟨c_58, fg_58, iv0_58⟩ := op_1 hI mp_47 sp_47
      refine call_p (va_runV (As := [.ref (g 25), .int 0, .int len_54]) (rest := []) ⟨hx, hb, hml, hown, hts⟩ (t_X5_append l D cI cR cM _  hj hG hI m_3 s_3 fg_56 fg_57 m_46 s_46 fg_54 fg_58 (by first | assumption | omega) (by first | assumption | omega)) (cwV 3 hts gX4_joinGroup_X5_append rfl rfl rfl (by decide +kernel) ⟨Nat.le_of_ble_eq_true rfl, Nat.le_of_ble_eq_true rfl⟩) (pre_T hK hP hD m_3 fg_56 rfl) rfl rfl hl.1 rfl (lv_room (Nat.le_of_ble_eq_true rfl)) dX4_joinGroup_158 ⟨Nat.le_of_ble_eq_true rfl, Nat.le_of_ble_eq_true rfl⟩) hD hS hA (fun u_59 H locs hw hP hD hS => ?_)
      obtain ⟨r_59, f_59⟩ := u_59
      obtain ⟨hI, hF_59, h01_59⟩ : IN jn cI cR cM g L S f_59 ∧ FR S [0, 1] f_50 f_59 ∧ (r_59.toInt = 0 ∨ r_59.toInt = 1) := hw
      have hP : va_P D vwCl (va_pl L f_59) H := hP
      have hD : va_D A (va_pl L f_59) := hD
      have hF := FR_tr hF hF_59 (by decide)
      have hTK_59 : TK g cI f_59 := TK_fr (f := f_50) (by assumption) hG hF_59 (by decide)
      have fb_60 : f_59 (g 13) = .inr (4, [.int (nI jn), .ref (g 14), .ref (g 12), .ref (g 22), .ref (g 34), .ref (g 23), .ref (g 24), .ref (g 25), .ref (g 26), .int fa_1, .int pl_1]) := FR_at hF_59 (gs_13 hG) (show (13 : Nat) ∉ ([0, 1] : List Nat) by decide) fb_51
      have fb_61 : f_59 (g 22) = .inl (cR, 6, .inr (.inr (.inr (.inr c_2)))) := FR_at hF_59 (gs_22 hG) (show (22 : Nat) ∉ ([0, 1] : List Nat) by decide) fb_52
      refine lv_goto (tgt := 169) hx hb dX4_joinGroup_161 (by decide) ?_
      exact g_zret (r_59, f_59) hx hb hr hlocks hS (b01 (by omega)) rfl (⟨hI, hF, show TK g cI f_59 from (by first | assumption | omega), show r_59.toInt = 0 ∨ r_59.toInt = 1 from (by first | assumption | omega)⟩) hP hD hQ (Nat.le_of_ble_eq_true rfl) (Nat.le_of_ble_eq_true rfl) dX4_joinGroup_169
    · refine lv_tableIn (off := 56) (tgt := 98) hx hb dX4_joinGroup_42 (by omega) (by omega) (by rw [show (x.toInt - 6).toNat = 2 by omega]; rfl) (by decide) ?_
      refine lv_aload_n hx hb dX4_joinGroup_98 rfl (lv_at hl 3 rfl) ?_
      refine t_get (D := D) (L := L) (f := f) (ci := 4) (v := .ref (g 25)) (C := RX4) (T := TX4) (N := 11) hx hb hts (by decide +kernel) hown hK.1 hP (gm_13 hG) fg_1 rfl 7 (by decide) (hts (.fieldLink RX4 56 "JugglingHall$Reader" "changed" "LJugglingHall$Row;") (by decide +kernel)) (fun _ h9 => h9) rfl dX4_joinGroup_99 ?_
      refine lv_aload hx hb dX4_joinGroup_102 (lv_at hl 1 rfl) ?_
      obtain ⟨p_62, n_62, m_62, s_62⟩ := hG.2.2.1
      obtain ⟨len_63, fg_63, v1_63, v2_63, v3_63, mp_63, sp_63⟩ := op_0 hI m_62 s_62
      obtain ⟨w1_63, w2_63, w3_63, w4_63, w5_63⟩ := lenw hj v1_63 v2_63 v3_63
      obtain ⟨c_64, fg_64, iv0_64⟩ := op_1 hI mp_63 sp_63
      obtain ⟨c_65, fg_65, iv0_65⟩ := op_1 hI mp_7 sp_7
      refine call_p (va_runV (As := [.ref r_5]) (rest := []) ⟨hx, hb, hml, hown, hts⟩ (t_X5_takeDual l D cI cR cM _  hj hG hI m_62 s_62 fg_63 fg_64 m_5 s_5 fg_7 fg_65 ) (cwV 1 hts gX4_joinGroup_X5_takeDual rfl rfl rfl (by decide +kernel) ⟨Nat.le_of_ble_eq_true rfl, Nat.le_of_ble_eq_true rfl⟩) (pre_T hK hP hD m_62 fg_63 rfl) rfl rfl hl.1 rfl (lv_room (Nat.le_of_ble_eq_true rfl)) dX4_joinGroup_104 ⟨Nat.le_of_ble_eq_true rfl, Nat.le_of_ble_eq_true rfl⟩) hD hS hA (fun u_66 H locs hw hP hD hS => ?_)
      obtain ⟨r_66, f_66⟩ := u_66
      obtain ⟨hI, hF_66, h01_66⟩ : IN jn cI cR cM g L S f_66 ∧ FR S [0, 1] f f_66 ∧ (r_66.toInt = 0 ∨ r_66.toInt = 1) := hw
      have hP : va_P D vwCl (va_pl L f_66) H := hP
      have hD : va_D A (va_pl L f_66) := hD
      have hF := FR_tr hF hF_66 (by decide)
      have hTK_66 : TK g cI f_66 := TK_fr (f := f) (by assumption) hG hF_66 (by decide)
      have fb_67 : f_66 (g 13) = .inr (4, [.int (nI jn), .ref (g 14), .ref (g 12), .ref (g 22), .ref (g 34), .ref (g 23), .ref (g 24), .ref (g 25), .ref (g 26), .int fa_1, .int pl_1]) := FR_at hF_66 (gs_13 hG) (show (13 : Nat) ∉ ([0, 1] : List Nat) by decide) fg_1
      have fb_68 : f_66 (g 22) = .inl (cR, 6, .inr (.inr (.inr (.inr c_2)))) := FR_at hF_66 (gs_22 hG) (show (22 : Nat) ∉ ([0, 1] : List Nat) by decide) fg_2
      refine lv_istore (lv' := [(5, .int r_66), (4, .ref r_5), (3, .ref r_3), (0, .ref (g 13)), (1, .int x), (2, .int y)]) hx hb dX4_joinGroup_107 hl (by decide) rfl (fun ls hl => ?_)
      refine lv_goto (tgt := 140) hx hb dX4_joinGroup_109 (by decide) ?_
      refine lv_iload hx hb dX4_joinGroup_140 (lv_at hl 0 rfl) ?_
      refine a_if_eq (u := r_66.toInt) (tgt := 164) hx hb dX4_joinGroup_142 (by decide) (rfl) (fun c_69 => ?_) (fun c_69 => ?_)
      · refine lv_aload_n hx hb dX4_joinGroup_164 rfl (lv_at hl 3 rfl) ?_
        refine lv_iconst (v := 5) hx hb dX4_joinGroup_165 (by decide) ?_
        have hz_70 : (5 : Int32).toInt = 5 := by decide
        refine call_p (va_runV (As := [.int 5]) (rest := []) ⟨hx, hb, hml, hown, hts⟩ (t_X4_failBehind l D cI cR cM _  hj hG hI  ) (cwV 1 hts gX4_joinGroup_X4_failBehind rfl rfl rfl (by decide +kernel) ⟨Nat.le_of_ble_eq_true rfl, Nat.le_of_ble_eq_true rfl⟩) (pre_T hK hP hD (gm_13 hG) fb_67 rfl) rfl rfl hl.1 rfl (lv_room (Nat.le_of_ble_eq_true rfl)) dX4_joinGroup_166 ⟨Nat.le_of_ble_eq_true rfl, Nat.le_of_ble_eq_true rfl⟩) hD hS hA (fun u_71 H locs hw hP hD hS => ?_)
        obtain ⟨r_71, f_71⟩ := u_71
        obtain ⟨hI, hF_71, h0_71, h01_71⟩ : IN jn cI cR cM g L S f_71 ∧ FR S [13] f_66 f_71 ∧ (r_71.toInt = 0) ∧ (r_71.toInt = 0 ∨ r_71.toInt = 1) := hw
        have hP : va_P D vwCl (va_pl L f_71) H := hP
        have hD : va_D A (va_pl L f_71) := hD
        have hF := FR_tr hF hF_71 (by decide)
        have hTK_71 : TK g cI f_71 := TK_fr (f := f_66) (by assumption) hG hF_71 (by decide)
        have fb_72 : f_71 (g 22) = .inl (cR, 6, .inr (.inr (.inr (.inr c_2)))) := FR_at hF_71 (gs_22 hG) (show (22 : Nat) ∉ ([13] : List Nat) by decide) fb_68
        exact g_zret (r_71, f_71) hx hb hr hlocks hS (b01 (by omega)) rfl (⟨hI, hF, show TK g cI f_71 from (by first | assumption | omega), show r_71.toInt = 0 ∨ r_71.toInt = 1 from (by first | assumption | omega)⟩) hP hD hQ (Nat.le_of_ble_eq_true rfl) (Nat.le_of_ble_eq_true rfl) dX4_joinGroup_169
      · refine lv_aload_n hx hb dX4_joinGroup_145 rfl (lv_at hl 2 rfl) ?_
        refine lv_aload_n hx hb dX4_joinGroup_146 rfl (lv_at hl 3 rfl) ?_
        refine t_get (D := D) (L := L) (f := f_66) (ci := 4) (v := .ref (g 25)) (C := RX4) (T := TX4) (N := 11) hx hb hts (by decide +kernel) hown hK.1 hP (gm_13 hG) fb_67 rfl 7 (by decide) (hts (.fieldLink RX4 56 "JugglingHall$Reader" "changed" "LJugglingHall$Row;") (by decide +kernel)) (fun _ h9 => h9) rfl dX4_joinGroup_147 ?_
        refine lv_iconst (v := 0) hx hb dX4_joinGroup_150 (by decide) ?_
        refine lv_aload_n hx hb dX4_joinGroup_151 rfl (lv_at hl 3 rfl) ?_
        refine t_get (D := D) (L := L) (f := f_66) (ci := 4) (v := .ref (g 25)) (C := RX4) (T := TX4) (N := 11) hx hb hts (by decide +kernel) hown hK.1 hP (gm_13 hG) fb_67 rfl 7 (by decide) (hts (.fieldLink RX4 56 "JugglingHall$Reader" "changed" "LJugglingHall$Row;") (by decide +kernel)) (fun _ h9 => h9) rfl dX4_joinGroup_152 ?_
        obtain ⟨len_73, fg_73, v1_73, v2_73, v3_73, mp_73, sp_73⟩ := op_0 hI m_62 s_62
        obtain ⟨w1_73, w2_73, w3_73, w4_73, w5_73⟩ := lenw hj v1_73 v2_73 v3_73
        refine t_getN (D := D) (L := L) (f := f_66) (ci := 5) (v := .int len_73) (C := RX5) (T := TX5) (N := 4) (host := "JugglingHall") hx hb hts (by decide +kernel) hown hK.1 hP m_62 fg_73 rfl 3 (by decide) (hK.nw (.fieldLinkNest RX4 62 "JugglingHall$Row" "length" "I" "JugglingHall") (by decide +kernel) rfl) (fun _ h9 => h9) rfl dX4_joinGroup_155 ?_
        have hz_74 : (0 : Int32).toInt = 0 := by decide
        obtain ⟨len_75, fg_75, v1_75, v2_75, v3_75, mp_75, sp_75⟩ := op_0 hI m_3 s_3
        obtain ⟨w1_75, w2_75, w3_75, w4_75, w5_75⟩ := lenw hj v1_75 v2_75 v3_75
        obtain ⟨c_76, fg_76, iv0_76⟩ := op_1 hI mp_6 sp_6
        obtain ⟨c_77, fg_77, iv0_77⟩ := op_1 hI mp_63 sp_63
        refine call_p (va_runV (As := [.ref (g 25), .int 0, .int len_73]) (rest := []) ⟨hx, hb, hml, hown, hts⟩ (t_X5_append l D cI cR cM _  hj hG hI m_3 s_3 fg_75 fg_76 m_62 s_62 fg_73 fg_77 (by first | assumption | omega) (by first | assumption | omega)) (cwV 3 hts gX4_joinGroup_X5_append rfl rfl rfl (by decide +kernel) ⟨Nat.le_of_ble_eq_true rfl, Nat.le_of_ble_eq_true rfl⟩) (pre_T hK hP hD m_3 fg_75 rfl) rfl rfl hl.1 rfl (lv_room (Nat.le_of_ble_eq_true rfl)) dX4_joinGroup_158 ⟨Nat.le_of_ble_eq_true rfl, Nat.le_of_ble_eq_true rfl⟩) hD hS hA (fun u_78 H locs hw hP hD hS => ?_)
        obtain ⟨r_78, f_78⟩ := u_78
        obtain ⟨hI, hF_78, h01_78⟩ : IN jn cI cR cM g L S f_78 ∧ FR S [0, 1] f_66 f_78 ∧ (r_78.toInt = 0 ∨ r_78.toInt = 1) := hw
        have hP : va_P D vwCl (va_pl L f_78) H := hP
        have hD : va_D A (va_pl L f_78) := hD
        have hF := FR_tr hF hF_78 (by decide)
        have hTK_78 : TK g cI f_78 := TK_fr (f := f_66) (by assumption) hG hF_78 (by decide)
        have fb_79 : f_78 (g 13) = .inr (4, [.int (nI jn), .ref (g 14), .ref (g 12), .ref (g 22), .ref (g 34), .ref (g 23), .ref (g 24), .ref (g 25), .ref (g 26), .int fa_1, .int pl_1]) := FR_at hF_78 (gs_13 hG) (show (13 : Nat) ∉ ([0, 1] : List Nat) by decide) fb_67
        have fb_80 : f_78 (g 22) = .inl (cR, 6, .inr (.inr (.inr (.inr c_2)))) := FR_at hF_78 (gs_22 hG) (show (22 : Nat) ∉ ([0, 1] : List Nat) by decide) fb_68
        refine lv_goto (tgt := 169) hx hb dX4_joinGroup_161 (by decide) ?_
        exact g_zret (r_78, f_78) hx hb hr hlocks hS (b01 (by omega)) rfl (⟨hI, hF, show TK g cI f_78 from (by first | assumption | omega), show r_78.toInt = 0 ∨ r_78.toInt = 1 from (by first | assumption | omega)⟩) hP hD hQ (Nat.le_of_ble_eq_true rfl) (Nat.le_of_ble_eq_true rfl) dX4_joinGroup_169
    · refine lv_tableIn (off := 70) (tgt := 112) hx hb dX4_joinGroup_42 (by omega) (by omega) (by rw [show (x.toInt - 6).toNat = 3 by omega]; rfl) (by decide) ?_
      refine lv_aload_n hx hb dX4_joinGroup_112 rfl (lv_at hl 3 rfl) ?_
      refine t_get (D := D) (L := L) (f := f) (ci := 4) (v := .ref (g 25)) (C := RX4) (T := TX4) (N := 11) hx hb hts (by decide +kernel) hown hK.1 hP (gm_13 hG) fg_1 rfl 7 (by decide) (hts (.fieldLink RX4 56 "JugglingHall$Reader" "changed" "LJugglingHall$Row;") (by decide +kernel)) (fun _ h9 => h9) rfl dX4_joinGroup_113 ?_
      refine lv_aload hx hb dX4_joinGroup_116 (lv_at hl 1 rfl) ?_
      refine lv_aload_n hx hb dX4_joinGroup_118 rfl (lv_at hl 3 rfl) ?_
      refine t_get (D := D) (L := L) (f := f) (ci := 4) (v := .ref (g 34)) (C := RX4) (T := TX4) (N := 11) hx hb hts (by decide +kernel) hown hK.1 hP (gm_13 hG) fg_1 rfl 4 (by decide) (hts (.fieldLink RX4 17 "JugglingHall$Reader" "turns" "[I") (by decide +kernel)) (fun _ h9 => h9) rfl dX4_joinGroup_119 ?_
      refine lv_iload_n hx hb dX4_joinGroup_122 rfl (lv_at hl 5 rfl) ?_
      obtain ⟨c_81, fg_81⟩ := op_34 hI (gm_34 hG) (gs_34 hG)
      refine t_iald (L := L) (f := f) (y := c_81) (u := y.toInt) hx hb hK.1 hP (gm_34 hG) 0 fg_81 rfl dX4_joinGroup_123 (rfl) (by omega) (fun z_82 q_82 e_82 => ?_)
      obtain ⟨p_83, n_83, m_83, s_83⟩ := hG.2.2.1
      obtain ⟨len_84, fg_84, v1_84, v2_84, v3_84, mp_84, sp_84⟩ := op_0 hI m_83 s_83
      obtain ⟨w1_84, w2_84, w3_84, w4_84, w5_84⟩ := lenw hj v1_84 v2_84 v3_84
      obtain ⟨c_85, fg_85, iv0_85⟩ := op_1 hI mp_84 sp_84
      obtain ⟨c_86, fg_86, iv0_86⟩ := op_1 hI mp_7 sp_7
      refine call_p (va_runV (As := [.ref r_5, .int z_82]) (rest := []) ⟨hx, hb, hml, hown, hts⟩ (t_X5_takeTurned l D cI cR cM _  hj hG hI m_83 s_83 fg_84 fg_85 m_5 s_5 fg_7 fg_86 ) (cwV 2 hts gX4_joinGroup_X5_takeTurned rfl rfl rfl (by decide +kernel) ⟨Nat.le_of_ble_eq_true rfl, Nat.le_of_ble_eq_true rfl⟩) (pre_T hK hP hD m_83 fg_84 rfl) rfl rfl hl.1 rfl (lv_room (Nat.le_of_ble_eq_true rfl)) dX4_joinGroup_124 ⟨Nat.le_of_ble_eq_true rfl, Nat.le_of_ble_eq_true rfl⟩) hD hS hA (fun u_87 H locs hw hP hD hS => ?_)
      obtain ⟨f_87, e0_87⟩ : ∃ x, x = u_87 := ⟨_, rfl⟩
      subst e0_87
      obtain ⟨hI, hF_87⟩ : IN jn cI cR cM g L S f_87 ∧ FR S [0, 1] f f_87 := hw
      have hP : va_P D vwCl (va_pl L f_87) H := hP
      have hD : va_D A (va_pl L f_87) := hD
      have hF := FR_tr hF hF_87 (by decide)
      have hTK_87 : TK g cI f_87 := TK_fr (f := f) (by assumption) hG hF_87 (by decide)
      have fb_88 : f_87 (g 13) = .inr (4, [.int (nI jn), .ref (g 14), .ref (g 12), .ref (g 22), .ref (g 34), .ref (g 23), .ref (g 24), .ref (g 25), .ref (g 26), .int fa_1, .int pl_1]) := FR_at hF_87 (gs_13 hG) (show (13 : Nat) ∉ ([0, 1] : List Nat) by decide) fg_1
      have fb_89 : f_87 (g 22) = .inl (cR, 6, .inr (.inr (.inr (.inr c_2)))) := FR_at hF_87 (gs_22 hG) (show (22 : Nat) ∉ ([0, 1] : List Nat) by decide) fg_2
      have fb_90 : f_87 (g 34) = .inl (cI, 6, .inl c_81) := FR_at hF_87 (gs_34 hG) (show (34 : Nat) ∉ ([0, 1] : List Nat) by decide) fg_81
      refine lv_goto (tgt := 140) hx hb dX4_joinGroup_127 (by decide) ?_
      refine lv_iload hx hb dX4_joinGroup_140 (lv_at hl 0 rfl) ?_
      refine a_if_eq (u := 1) (tgt := 164) hx hb dX4_joinGroup_142 (by decide) (by decide) (fun c_91 => absurd c_91 (by omega)) (fun c_91 => ?_)
      refine lv_aload_n hx hb dX4_joinGroup_145 rfl (lv_at hl 2 rfl) ?_
      refine lv_aload_n hx hb dX4_joinGroup_146 rfl (lv_at hl 3 rfl) ?_
      refine t_get (D := D) (L := L) (f := f_87) (ci := 4) (v := .ref (g 25)) (C := RX4) (T := TX4) (N := 11) hx hb hts (by decide +kernel) hown hK.1 hP (gm_13 hG) fb_88 rfl 7 (by decide) (hts (.fieldLink RX4 56 "JugglingHall$Reader" "changed" "LJugglingHall$Row;") (by decide +kernel)) (fun _ h9 => h9) rfl dX4_joinGroup_147 ?_
      refine lv_iconst (v := 0) hx hb dX4_joinGroup_150 (by decide) ?_
      refine lv_aload_n hx hb dX4_joinGroup_151 rfl (lv_at hl 3 rfl) ?_
      refine t_get (D := D) (L := L) (f := f_87) (ci := 4) (v := .ref (g 25)) (C := RX4) (T := TX4) (N := 11) hx hb hts (by decide +kernel) hown hK.1 hP (gm_13 hG) fb_88 rfl 7 (by decide) (hts (.fieldLink RX4 56 "JugglingHall$Reader" "changed" "LJugglingHall$Row;") (by decide +kernel)) (fun _ h9 => h9) rfl dX4_joinGroup_152 ?_
      obtain ⟨len_92, fg_92, v1_92, v2_92, v3_92, mp_92, sp_92⟩ := op_0 hI m_83 s_83
      obtain ⟨w1_92, w2_92, w3_92, w4_92, w5_92⟩ := lenw hj v1_92 v2_92 v3_92
      refine t_getN (D := D) (L := L) (f := f_87) (ci := 5) (v := .int len_92) (C := RX5) (T := TX5) (N := 4) (host := "JugglingHall") hx hb hts (by decide +kernel) hown hK.1 hP m_83 fg_92 rfl 3 (by decide) (hK.nw (.fieldLinkNest RX4 62 "JugglingHall$Row" "length" "I" "JugglingHall") (by decide +kernel) rfl) (fun _ h9 => h9) rfl dX4_joinGroup_155 ?_
      have hz_93 : (0 : Int32).toInt = 0 := by decide
      obtain ⟨len_94, fg_94, v1_94, v2_94, v3_94, mp_94, sp_94⟩ := op_0 hI m_3 s_3
      obtain ⟨w1_94, w2_94, w3_94, w4_94, w5_94⟩ := lenw hj v1_94 v2_94 v3_94
      obtain ⟨c_95, fg_95, iv0_95⟩ := op_1 hI mp_6 sp_6
      obtain ⟨c_96, fg_96, iv0_96⟩ := op_1 hI mp_84 sp_84
      refine call_p (va_runV (As := [.ref (g 25), .int 0, .int len_92]) (rest := []) ⟨hx, hb, hml, hown, hts⟩ (t_X5_append l D cI cR cM _  hj hG hI m_3 s_3 fg_94 fg_95 m_83 s_83 fg_92 fg_96 (by first | assumption | omega) (by first | assumption | omega)) (cwV 3 hts gX4_joinGroup_X5_append rfl rfl rfl (by decide +kernel) ⟨Nat.le_of_ble_eq_true rfl, Nat.le_of_ble_eq_true rfl⟩) (pre_T hK hP hD m_3 fg_94 rfl) rfl rfl hl.1 rfl (lv_room (Nat.le_of_ble_eq_true rfl)) dX4_joinGroup_158 ⟨Nat.le_of_ble_eq_true rfl, Nat.le_of_ble_eq_true rfl⟩) hD hS hA (fun u_97 H locs hw hP hD hS => ?_)
      obtain ⟨r_97, f_97⟩ := u_97
      obtain ⟨hI, hF_97, h01_97⟩ : IN jn cI cR cM g L S f_97 ∧ FR S [0, 1] f_87 f_97 ∧ (r_97.toInt = 0 ∨ r_97.toInt = 1) := hw
      have hP : va_P D vwCl (va_pl L f_97) H := hP
      have hD : va_D A (va_pl L f_97) := hD
      have hF := FR_tr hF hF_97 (by decide)
      have hTK_97 : TK g cI f_97 := TK_fr (f := f_87) (by assumption) hG hF_97 (by decide)
      have fb_98 : f_97 (g 13) = .inr (4, [.int (nI jn), .ref (g 14), .ref (g 12), .ref (g 22), .ref (g 34), .ref (g 23), .ref (g 24), .ref (g 25), .ref (g 26), .int fa_1, .int pl_1]) := FR_at hF_97 (gs_13 hG) (show (13 : Nat) ∉ ([0, 1] : List Nat) by decide) fb_88
      have fb_99 : f_97 (g 22) = .inl (cR, 6, .inr (.inr (.inr (.inr c_2)))) := FR_at hF_97 (gs_22 hG) (show (22 : Nat) ∉ ([0, 1] : List Nat) by decide) fb_89
      have fb_100 : f_97 (g 34) = .inl (cI, 6, .inl c_81) := FR_at hF_97 (gs_34 hG) (show (34 : Nat) ∉ ([0, 1] : List Nat) by decide) fb_90
      refine lv_goto (tgt := 169) hx hb dX4_joinGroup_161 (by decide) ?_
      exact g_zret (r_97, f_97) hx hb hr hlocks hS (b01 (by omega)) rfl (⟨hI, hF, show TK g cI f_97 from (by first | assumption | omega), show r_97.toInt = 0 ∨ r_97.toInt = 1 from (by first | assumption | omega)⟩) hP hD hQ (Nat.le_of_ble_eq_true rfl) (Nat.le_of_ble_eq_true rfl) dX4_joinGroup_169
  · refine lv_aload_n hx hb dX4_joinGroup_32 rfl (lv_at hl 2 rfl) ?_
    refine lv_iconst (v := 4) hx hb dX4_joinGroup_33 (by decide) ?_
    have hz_101 : (4 : Int32).toInt = 4 := by decide
    refine call_p (va_runV (As := [.int 4]) (rest := []) ⟨hx, hb, hml, hown, hts⟩ (t_X4_failBehind l D cI cR cM _  hj hG hI  ) (cwV 1 hts gX4_joinGroup_X4_failBehind rfl rfl rfl (by decide +kernel) ⟨Nat.le_of_ble_eq_true rfl, Nat.le_of_ble_eq_true rfl⟩) (pre_T hK hP hD (gm_13 hG) fg_1 rfl) rfl rfl hl.1 rfl (lv_room (Nat.le_of_ble_eq_true rfl)) dX4_joinGroup_34 ⟨Nat.le_of_ble_eq_true rfl, Nat.le_of_ble_eq_true rfl⟩) hD hS hA (fun u_102 H locs hw hP hD hS => ?_)
    obtain ⟨r_102, f_102⟩ := u_102
    obtain ⟨hI, hF_102, h0_102, h01_102⟩ : IN jn cI cR cM g L S f_102 ∧ FR S [13] f f_102 ∧ (r_102.toInt = 0) ∧ (r_102.toInt = 0 ∨ r_102.toInt = 1) := hw
    have hP : va_P D vwCl (va_pl L f_102) H := hP
    have hD : va_D A (va_pl L f_102) := hD
    have hF := FR_tr hF hF_102 (by decide)
    have hTK_102 : TK g cI f_102 := TK_fr (f := f) (by assumption) hG hF_102 (by decide)
    have fb_103 : f_102 (g 22) = .inl (cR, 6, .inr (.inr (.inr (.inr c_2)))) := FR_at hF_102 (gs_22 hG) (show (22 : Nat) ∉ ([13] : List Nat) by decide) fg_2
    have fb_104 : f_102 r_3 = .inr (5, [.int (nI jn), .int (nI (2 * jn)), .ref p_3, .int len_6]) := FR_at hF_102 s_3 (show (0 : Nat) ∉ ([13] : List Nat) by decide) fg_6
    have fb_105 : f_102 r_5 = .inr (5, [.int (nI jn), .int (nI (2 * jn)), .ref p_5, .int len_7]) := FR_at hF_102 s_5 (show (0 : Nat) ∉ ([13] : List Nat) by decide) fg_7
    exact g_zret (r_102, f_102) hx hb hr hlocks hS (b01 (by omega)) rfl (⟨hI, hF, show TK g cI f_102 from (by first | assumption | omega), show r_102.toInt = 0 ∨ r_102.toInt = 1 from (by first | assumption | omega)⟩) hP hD hQ (Nat.le_of_ble_eq_true rfl) (Nat.le_of_ble_eq_true rfl) dX4_joinGroup_37
set_option maxRecDepth 100000 in
set_option maxHeartbeats 4000000 in
theorem t_X4_readMarks (l : Launch) (D : va_G) (cI cR cM : ClassId) (sz : Nat) {jn : Nat} {g : Nat → Nat} {L : List Nat} {S : Sg} {f : Nat → va_E}  (hj : 1 ≤ jn ∧ jn ≤ 3) (hG : SG g L S) (hI : IN jn cI cR cM g L S f) (hTK : TK g cI f) : Met l yX4_readMarks wsX4_readMarks ({ frames := 2, cells := 0, slots := 0, locals := 42 }) (P0 D cI cR cM [.ref (g 13)] sz (va_pl L f)) (QG (S := Int32 × (Nat → va_E)) (fun u => some (.int u.1)) (fun u => va_pl L u.2) (fun u => IN jn cI cR cM g L S u.2 ∧ FR S [2, 3, 13, 14] f u.2 ∧ (TK g cI u.2) ∧ (u.1.toInt = 0 ∨ u.1.toInt = 1)) D (va_A (va_pl L f) sz)) 0 0 (va_A (va_pl L f) sz) := by
  refine go (cc := cX4_readMarks) (maxL := 2) (ret := (some .boolean)) (by decide +kernel) rfl (Nat.le_of_ble_eq_true rfl) ?_
  intro p e s m below meth c ls args Q hQ hsz hx hb hr hml hts hown hlocks hnm hP hK hD hl
  subst hsz
  have hD := hD.self (sz := s.heap.size)
  generalize hAe : va_A (va_pl L f) s.heap.size = A at hD hQ
  have hA : ∀ q, s.heap.size ≤ q → A q := fun q h => by rw [← hAe]; exact Or.inr h
  have hS : va_S A s.heap s.heap [] := va_S.rf
  have hF : FR S [2, 3, 13, 14] f f := FR_rf
  have hl : lv_has ls 2 [(0, .ref (g 13))] := hl
  refine lv_aload_n hx hb dX4_readMarks_0 rfl (lv_at hl 0 rfl) ?_
  obtain ⟨fa_1, pl_1, fg_1⟩ := op_13 hI (gm_13 hG) (gs_13 hG)
  refine t_get (D := D) (L := L) (f := f) (ci := 4) (v := .ref (g 14)) (C := RX4) (T := TX4) (N := 11) hx hb hts (by decide +kernel) hown hK.1 hP (gm_13 hG) fg_1 rfl 1 (by decide) (hts (.fieldLink RX4 41 "JugglingHall$Reader" "tokens" "LJugglingHall$Tokens;") (by decide +kernel)) (fun _ h9 => h9) rfl dX4_readMarks_1 ?_
  obtain ⟨cnt_2, nx_2, kd_2, vl_2, st_2, ls_2, fg_2, iv0_2, iv1_2, iv2_2⟩ := op_14 hI (gm_14 hG) (gs_14 hG)
  refine call_p (va_runV (As := []) (rest := []) ⟨hx, hb, hml, hown, hts⟩ (t_X8_advance l D cI cR cM _  hj hG hI  (by first | assumption | omega)) (cwV 0 hts gX4_readMarks_X8_advance rfl rfl rfl (by decide +kernel) ⟨Nat.le_of_ble_eq_true rfl, Nat.le_of_ble_eq_true rfl⟩) (pre_T hK hP hD (gm_14 hG) fg_2 rfl) rfl rfl hl.1 rfl (lv_room (Nat.le_of_ble_eq_true rfl)) dX4_readMarks_4 ⟨Nat.le_of_ble_eq_true rfl, Nat.le_of_ble_eq_true rfl⟩) hD hS hA (fun u_3 H locs hw hP hD hS => ?_)
  obtain ⟨f_3, e0_3⟩ : ∃ x, x = u_3 := ⟨_, rfl⟩
  subst e0_3
  obtain ⟨hI, hF_3, hTK_3⟩ : IN jn cI cR cM g L S f_3 ∧ FR S [14] f f_3 ∧ (TK g cI f_3) := hw
  have hP : va_P D vwCl (va_pl L f_3) H := hP
  have hD : va_D A (va_pl L f_3) := hD
  have hF := FR_tr hF hF_3 (by decide)
  have fb_4 : f_3 (g 13) = .inr (4, [.int (nI jn), .ref (g 14), .ref (g 12), .ref (g 22), .ref (g 34), .ref (g 23), .ref (g 24), .ref (g 25), .ref (g 26), .int fa_1, .int pl_1]) := FR_at hF_3 (gs_13 hG) (show (13 : Nat) ∉ ([14] : List Nat) by decide) fg_1
  refine lv_aload_n hx hb dX4_readMarks_7 rfl (lv_at hl 0 rfl) ?_
  refine t_get (D := D) (L := L) (f := f_3) (ci := 4) (v := .ref (g 26)) (C := RX4) (T := TX4) (N := 11) hx hb hts (by decide +kernel) hown hK.1 hP (gm_13 hG) fb_4 rfl 8 (by decide) (hts (.fieldLink RX4 27 "JugglingHall$Reader" "marks" "LJugglingHall$Marks;") (by decide +kernel)) (fun _ h9 => h9) rfl dX4_readMarks_8 ?_
  refine lv_iconst (v := 0) hx hb dX4_readMarks_11 (by decide) ?_
  obtain ⟨p_5, m_5, s_5⟩ := hG.2.2.2
  obtain ⟨cnt_6, fg_6, v1_6, v2_6, mp_6, sp_6⟩ := op_2 hI m_5 s_5
  have hz_8 : (0 : Int32).toInt = 0 := by decide
  refine t_putN (D := D) (L := L) (f := f_3) (ci := 3) (v := .int 0) (ty := .int) (C := RX3) (T := TX3) (N := 2) (host := "JugglingHall") hx hb hts (by decide +kernel) tyX3 tyX3_ok nmX3 hown hK.1 hP hD hS m_5 fg_6 rfl 1 (by decide) (hK.nw (.fieldLinkNest RX4 59 "JugglingHall$Marks" "count" "I" "JugglingHall") (by decide +kernel) rfl) (fun _ h9 => h9) rfl (by decide +kernel) rfl rfl (Nat.le_of_ble_eq_true rfl) dX4_readMarks_12 (fun f_7 H locs e9_7 o_7 hP hD hS => ?_)
  have fa_7 : f_7 (g 26) = .inr (3, [.ref p_5, .int 0]) := e9_7
  have hI := IN_set (e := .inr (3, [.ref p_5, .int 0])) hI s_5 (mk_2 (by first | assumption | omega) (by first | assumption | omega) (by first | assumption | omega) (by first | assumption | omega)) fa_7 o_7
  have hF := FR_set hF s_5 (show (2 : Nat) ∈ ([2, 3, 13, 14] : List Nat) by decide) o_7
  have hTK_7 : TK g cI f_7 := TK_set (f := f_3) (by assumption) hG s_5 (show (2 : Nat) ∉ ([14, 31, 32] : List Nat) by decide) o_7
  have fb_9 : f_7 (g 13) = .inr (4, [.int (nI jn), .ref (g 14), .ref (g 12), .ref (g 22), .ref (g 34), .ref (g 23), .ref (g 24), .ref (g 25), .ref (g 26), .int fa_1, .int pl_1]) := f_at o_7 (S_ne (gs_13 hG) s_5 (show (13 : Nat) ≠ 2 by decide)) fb_4
  refine lv_iconst (v := 0) hx hb dX4_readMarks_15 (by decide) ?_
  refine lv_istore_n (lv' := [(1, .int 0), (0, .ref (g 13))]) hx hb dX4_readMarks_16 rfl hl (by decide) rfl (fun ls hl => ?_)
  have loop17 : ∀ (ddloop17 : Nat) (ii : Int32) (f_10 : Nat → va_E) (H : Heap) (locs : List Loc) (ls : Array Slot), (20 - ii.toInt).toNat < ddloop17 → IN jn cI cR cM g L S f_10 → FR S [2, 3, 13, 14] f f_10 → (0 ≤ ii.toInt ∧ ii.toInt ≤ 8) → (TK g cI f_10) → va_P D vwCl (va_pl L f_10) H → va_D A (va_pl L f_10) → va_S A s.heap H locs → lv_has ls 2 [(0, .ref (g 13)), (1, .int ii)] → W p l e ({ frames := 2, cells := 0, slots := 0, locals := 42 }) s m args below meth c H locs 0 0 Q (F0 m 17 ls []) := by
    intro ddloop17
    induction ddloop17 with
    | zero =>
      intro ii f_10 H locs ls hdd
      exact absurd hdd (Nat.not_lt_zero _)
    | succ ddloop17 ih17 =>
      intro ii f_10 H locs ls hdd hI hF hi hTK hP hD hS hl
      refine lv_iload_n hx hb dX4_readMarks_17 rfl (lv_at hl 1 rfl) ?_
      refine lv_bipush (v := 7) hx hb dX4_readMarks_18 (by decide) ?_
      refine a_icmp_gt (u := ii.toInt) (v := 7) (tgt := 97) hx hb dX4_readMarks_20 (by decide) (rfl) (by decide) (fun c_11 => ?_) (fun c_11 => ?_)
      · refine lv_aload_n hx hb dX4_readMarks_97 rfl (lv_at hl 0 rfl) ?_
        obtain ⟨fa_12, pl_12, fg_12⟩ := op_13 hI (gm_13 hG) (gs_13 hG)
        refine t_get (D := D) (L := L) (f := f_10) (ci := 4) (v := .ref (g 26)) (C := RX4) (T := TX4) (N := 11) hx hb hts (by decide +kernel) hown hK.1 hP (gm_13 hG) fg_12 rfl 8 (by decide) (hts (.fieldLink RX4 27 "JugglingHall$Reader" "marks" "LJugglingHall$Marks;") (by decide +kernel)) (fun _ h9 => h9) rfl dX4_readMarks_98 ?_
        obtain ⟨cnt_13, fg_13, v1_13, v2_13, mp_13, sp_13⟩ := op_2 hI m_5 s_5
        refine t_getN (D := D) (L := L) (f := f_10) (ci := 3) (v := .int cnt_13) (C := RX3) (T := TX3) (N := 2) (host := "JugglingHall") hx hb hts (by decide +kernel) hown hK.1 hP m_5 fg_13 rfl 1 (by decide) (hK.nw (.fieldLinkNest RX4 59 "JugglingHall$Marks" "count" "I" "JugglingHall") (by decide +kernel) rfl) (fun _ h9 => h9) rfl dX4_readMarks_101 ?_
        refine a_if_le (u := cnt_13.toInt) (tgt := 116) hx hb dX4_readMarks_104 (by decide) (rfl) (fun c_14 => ?_) (fun c_14 => ?_)
        · refine lv_aload_n hx hb dX4_readMarks_116 rfl (lv_at hl 0 rfl) ?_
          refine lv_iconst (v := 1) hx hb dX4_readMarks_117 (by decide) ?_
          have hz_15 : (1 : Int32).toInt = 1 := by decide
          refine call_p (va_runV (As := [.int 1]) (rest := []) ⟨hx, hb, hml, hown, hts⟩ (t_X4_fail l D cI cR cM _  hj hG hI  ) (cwV 1 hts gX4_readMarks_X4_fail rfl rfl rfl (by decide +kernel) ⟨Nat.le_of_ble_eq_true rfl, Nat.le_of_ble_eq_true rfl⟩) (pre_T hK hP hD (gm_13 hG) fg_12 rfl) rfl rfl hl.1 rfl (lv_room (Nat.le_of_ble_eq_true rfl)) dX4_readMarks_118 ⟨Nat.le_of_ble_eq_true rfl, Nat.le_of_ble_eq_true rfl⟩) hD hS hA (fun u_16 H locs hw hP hD hS => ?_)
          obtain ⟨r_16, f_16⟩ := u_16
          obtain ⟨hI, hF_16, h0_16, h01_16⟩ : IN jn cI cR cM g L S f_16 ∧ FR S [13] f_10 f_16 ∧ (r_16.toInt = 0) ∧ (r_16.toInt = 0 ∨ r_16.toInt = 1) := hw
          have hP : va_P D vwCl (va_pl L f_16) H := hP
          have hD : va_D A (va_pl L f_16) := hD
          have hF := FR_tr hF hF_16 (by decide)
          have hTK_16 : TK g cI f_16 := TK_fr (f := f_10) (by assumption) hG hF_16 (by decide)
          have fb_17 : f_16 (g 26) = .inr (3, [.ref p_5, .int cnt_13]) := FR_at hF_16 s_5 (show (2 : Nat) ∉ ([13] : List Nat) by decide) fg_13
          exact g_zret (r_16, f_16) hx hb hr hlocks hS (b01 (by omega)) rfl (⟨hI, hF, show TK g cI f_16 from (by first | assumption | omega), show r_16.toInt = 0 ∨ r_16.toInt = 1 from (by first | assumption | omega)⟩) hP hD hQ (Nat.le_of_ble_eq_true rfl) (Nat.le_of_ble_eq_true rfl) dX4_readMarks_121
        · refine lv_aload_n hx hb dX4_readMarks_107 rfl (lv_at hl 0 rfl) ?_
          refine lv_bipush (v := 59) hx hb dX4_readMarks_108 (by decide) ?_
          have hz_18 : (59 : Int32).toInt = 59 := by decide
          refine call_p (va_runV (As := [.int 59]) (rest := []) ⟨hx, hb, hml, hown, hts⟩ (t_X4_expect l D cI cR cM _  hj hG hI  (by first | assumption | omega)) (cwV 1 hts gX4_readMarks_X4_expect rfl rfl rfl (by decide +kernel) ⟨Nat.le_of_ble_eq_true rfl, Nat.le_of_ble_eq_true rfl⟩) (pre_T hK hP hD (gm_13 hG) fg_12 rfl) rfl rfl hl.1 rfl (lv_room (Nat.le_of_ble_eq_true rfl)) dX4_readMarks_110 ⟨Nat.le_of_ble_eq_true rfl, Nat.le_of_ble_eq_true rfl⟩) hD hS hA (fun u_19 H locs hw hP hD hS => ?_)
          obtain ⟨r_19, f_19⟩ := u_19
          obtain ⟨hI, hF_19, he_19, hTK_19, h01_19⟩ : IN jn cI cR cM g L S f_19 ∧ FR S [13, 14] f_10 f_19 ∧ (∀ cnt9 nx9 kd9 vl9 st9 ls9, f_10 (g 14) = .inr (8, [.ref (g 11), .ref (g 31), .ref (g 32), .ref (g 33), .int cnt9, .int nx9, .int kd9, .int vl9, .int st9, .int ls9]) → r_19.toInt = 1 → kd9.toInt = (59 : Int32).toInt) ∧ (TK g cI f_19) ∧ (r_19.toInt = 0 ∨ r_19.toInt = 1) := hw
          have hP : va_P D vwCl (va_pl L f_19) H := hP
          have hD : va_D A (va_pl L f_19) := hD
          have hF := FR_tr hF hF_19 (by decide)
          have fb_20 : f_19 (g 26) = .inr (3, [.ref p_5, .int cnt_13]) := FR_at hF_19 s_5 (show (2 : Nat) ∉ ([13, 14] : List Nat) by decide) fg_13
          refine lv_goto (tgt := 121) hx hb dX4_readMarks_113 (by decide) ?_
          exact g_zret (r_19, f_19) hx hb hr hlocks hS (b01 (by omega)) rfl (⟨hI, hF, show TK g cI f_19 from (by first | assumption | omega), show r_19.toInt = 0 ∨ r_19.toInt = 1 from (by first | assumption | omega)⟩) hP hD hQ (Nat.le_of_ble_eq_true rfl) (Nat.le_of_ble_eq_true rfl) dX4_readMarks_121
      · refine lv_aload_n hx hb dX4_readMarks_23 rfl (lv_at hl 0 rfl) ?_
        obtain ⟨fa_21, pl_21, fg_21⟩ := op_13 hI (gm_13 hG) (gs_13 hG)
        refine t_get (D := D) (L := L) (f := f_10) (ci := 4) (v := .ref (g 14)) (C := RX4) (T := TX4) (N := 11) hx hb hts (by decide +kernel) hown hK.1 hP (gm_13 hG) fg_21 rfl 1 (by decide) (hts (.fieldLink RX4 41 "JugglingHall$Reader" "tokens" "LJugglingHall$Tokens;") (by decide +kernel)) (fun _ h9 => h9) rfl dX4_readMarks_24 ?_
        obtain ⟨cnt_22, nx_22, kd_22, vl_22, st_22, ls_22, fg_22, iv0_22, iv1_22, iv2_22⟩ := op_14 hI (gm_14 hG) (gs_14 hG)
        refine t_getN (D := D) (L := L) (f := f_10) (ci := 8) (v := .int kd_22) (C := RX8) (T := TX8) (N := 10) (host := "JugglingHall") hx hb hts (by decide +kernel) hown hK.1 hP (gm_14 hG) fg_22 rfl 6 (by decide) (hK.nw (.fieldLinkNest RX4 70 "JugglingHall$Tokens" "kind" "I" "JugglingHall") (by decide +kernel) rfl) (fun _ h9 => h9) rfl dX4_readMarks_27 ?_
        refine lv_iconst (v := 2) hx hb dX4_readMarks_30 (by decide) ?_
        refine a_icmp_eq (u := kd_22.toInt) (v := 2) (tgt := 46) hx hb dX4_readMarks_31 (by decide) (rfl) (by decide) (fun c_23 => ?_) (fun c_23 => ?_)
        · refine lv_aload_n hx hb dX4_readMarks_46 rfl (lv_at hl 0 rfl) ?_
          refine t_get (D := D) (L := L) (f := f_10) (ci := 4) (v := .ref (g 26)) (C := RX4) (T := TX4) (N := 11) hx hb hts (by decide +kernel) hown hK.1 hP (gm_13 hG) fg_21 rfl 8 (by decide) (hts (.fieldLink RX4 27 "JugglingHall$Reader" "marks" "LJugglingHall$Marks;") (by decide +kernel)) (fun _ h9 => h9) rfl dX4_readMarks_47 ?_
          refine lv_aload_n hx hb dX4_readMarks_50 rfl (lv_at hl 0 rfl) ?_
          refine t_get (D := D) (L := L) (f := f_10) (ci := 4) (v := .ref (g 14)) (C := RX4) (T := TX4) (N := 11) hx hb hts (by decide +kernel) hown hK.1 hP (gm_13 hG) fg_21 rfl 1 (by decide) (hts (.fieldLink RX4 41 "JugglingHall$Reader" "tokens" "LJugglingHall$Tokens;") (by decide +kernel)) (fun _ h9 => h9) rfl dX4_readMarks_51 ?_
          refine t_getN (D := D) (L := L) (f := f_10) (ci := 8) (v := .int kd_22) (C := RX8) (T := TX8) (N := 10) (host := "JugglingHall") hx hb hts (by decide +kernel) hown hK.1 hP (gm_14 hG) fg_22 rfl 6 (by decide) (hK.nw (.fieldLinkNest RX4 70 "JugglingHall$Tokens" "kind" "I" "JugglingHall") (by decide +kernel) rfl) (fun _ h9 => h9) rfl dX4_readMarks_54 ?_
          refine lv_iconst (v := 2) hx hb dX4_readMarks_57 (by decide) ?_
          refine a_icmp_ne (u := kd_22.toInt) (v := 2) (tgt := 71) hx hb dX4_readMarks_58 (by decide) (rfl) (by decide) (fun c_24 => ?_) (fun c_24 => ?_)
          · refine lv_iconst (v := (-1)) hx hb dX4_readMarks_71 (by decide) ?_
            have hz_25 : (-1 : Int32).toInt = (-1) := by decide
            obtain ⟨cnt_26, fg_26, v1_26, v2_26, mp_26, sp_26⟩ := op_2 hI m_5 s_5
            obtain ⟨c_27, fg_27⟩ := op_3 hI mp_6 sp_6
            refine call_p (va_runV (As := [.int (-1)]) (rest := []) ⟨hx, hb, hml, hown, hts⟩ (t_X3_write l D cI cR cM _  hj hG hI m_5 s_5 fg_26 fg_27 ) (cwV 1 hts gX4_readMarks_X3_write rfl rfl rfl (by decide +kernel) ⟨Nat.le_of_ble_eq_true rfl, Nat.le_of_ble_eq_true rfl⟩) (pre_T hK hP hD m_5 fg_26 rfl) rfl rfl hl.1 rfl (lv_room (Nat.le_of_ble_eq_true rfl)) dX4_readMarks_72 ⟨Nat.le_of_ble_eq_true rfl, Nat.le_of_ble_eq_true rfl⟩) hD hS hA (fun u_28 H locs hw hP hD hS => ?_)
            obtain ⟨r_28, f_28⟩ := u_28
            obtain ⟨hI, hF_28, h01_28⟩ : IN jn cI cR cM g L S f_28 ∧ FR S [2, 3] f_10 f_28 ∧ (r_28.toInt = 0 ∨ r_28.toInt = 1) := hw
            have hP : va_P D vwCl (va_pl L f_28) H := hP
            have hD : va_D A (va_pl L f_28) := hD
            have hF := FR_tr hF hF_28 (by decide)
            have hTK_28 : TK g cI f_28 := TK_fr (f := f_10) (by assumption) hG hF_28 (by decide)
            have fb_29 : f_28 (g 13) = .inr (4, [.int (nI jn), .ref (g 14), .ref (g 12), .ref (g 22), .ref (g 34), .ref (g 23), .ref (g 24), .ref (g 25), .ref (g 26), .int fa_21, .int pl_21]) := FR_at hF_28 (gs_13 hG) (show (13 : Nat) ∉ ([2, 3] : List Nat) by decide) fg_21
            have fb_30 : f_28 (g 14) = .inr (8, [.ref (g 11), .ref (g 31), .ref (g 32), .ref (g 33), .int cnt_22, .int nx_22, .int kd_22, .int vl_22, .int st_22, .int ls_22]) := FR_at hF_28 (gs_14 hG) (show (14 : Nat) ∉ ([2, 3] : List Nat) by decide) fg_22
            refine a_if_ne (u := r_28.toInt) (tgt := 84) hx hb dX4_readMarks_75 (by decide) (rfl) (fun c_31 => ?_) (fun c_31 => ?_)
            · refine lv_aload_n hx hb dX4_readMarks_84 rfl (lv_at hl 0 rfl) ?_
              refine t_get (D := D) (L := L) (f := f_28) (ci := 4) (v := .ref (g 14)) (C := RX4) (T := TX4) (N := 11) hx hb hts (by decide +kernel) hown hK.1 hP (gm_13 hG) fb_29 rfl 1 (by decide) (hts (.fieldLink RX4 41 "JugglingHall$Reader" "tokens" "LJugglingHall$Tokens;") (by decide +kernel)) (fun _ h9 => h9) rfl dX4_readMarks_85 ?_
              refine call_p (va_runV (As := []) (rest := []) ⟨hx, hb, hml, hown, hts⟩ (t_X8_advance l D cI cR cM _  hj hG hI  (by first | assumption | omega)) (cwV 0 hts gX4_readMarks_X8_advance rfl rfl rfl (by decide +kernel) ⟨Nat.le_of_ble_eq_true rfl, Nat.le_of_ble_eq_true rfl⟩) (pre_T hK hP hD (gm_14 hG) fb_30 rfl) rfl rfl hl.1 rfl (lv_room (Nat.le_of_ble_eq_true rfl)) dX4_readMarks_88 ⟨Nat.le_of_ble_eq_true rfl, Nat.le_of_ble_eq_true rfl⟩) hD hS hA (fun u_32 H locs hw hP hD hS => ?_)
              obtain ⟨f_32, e0_32⟩ : ∃ x, x = u_32 := ⟨_, rfl⟩
              subst e0_32
              obtain ⟨hI, hF_32, hTK_32⟩ : IN jn cI cR cM g L S f_32 ∧ FR S [14] f_28 f_32 ∧ (TK g cI f_32) := hw
              have hP : va_P D vwCl (va_pl L f_32) H := hP
              have hD : va_D A (va_pl L f_32) := hD
              have hF := FR_tr hF hF_32 (by decide)
              have fb_33 : f_32 (g 13) = .inr (4, [.int (nI jn), .ref (g 14), .ref (g 12), .ref (g 22), .ref (g 34), .ref (g 23), .ref (g 24), .ref (g 25), .ref (g 26), .int fa_21, .int pl_21]) := FR_at hF_32 (gs_13 hG) (show (13 : Nat) ∉ ([14] : List Nat) by decide) fb_29
              obtain ⟨z_34, q_34, e_34⟩ := i_inc (a := ii.toInt) (1) (rfl) (by decide) (by omega) (by omega)
              refine lv_iinc (v := z_34) (lv' := [(1, .int z_34), (0, .ref (g 13))]) hx hb dX4_readMarks_91 hl (k := 1) rfl q_34 (by decide) rfl (fun ls hl => ?_)
              refine lv_goto (tgt := 17) hx hb dX4_readMarks_94 (by decide) ?_
              exact ih17 z_34 f_32 _ _ _ (by omega) hI hF (by first | assumption | omega) (by first | assumption | omega) hP hD hS (lv_sub hl [1, 0] rfl)
            · refine lv_aload_n hx hb dX4_readMarks_78 rfl (lv_at hl 0 rfl) ?_
              refine lv_iconst (v := 4) hx hb dX4_readMarks_79 (by decide) ?_
              have hz_35 : (4 : Int32).toInt = 4 := by decide
              refine call_p (va_runV (As := [.int 4]) (rest := []) ⟨hx, hb, hml, hown, hts⟩ (t_X4_fail l D cI cR cM _  hj hG hI  ) (cwV 1 hts gX4_readMarks_X4_fail rfl rfl rfl (by decide +kernel) ⟨Nat.le_of_ble_eq_true rfl, Nat.le_of_ble_eq_true rfl⟩) (pre_T hK hP hD (gm_13 hG) fb_29 rfl) rfl rfl hl.1 rfl (lv_room (Nat.le_of_ble_eq_true rfl)) dX4_readMarks_80 ⟨Nat.le_of_ble_eq_true rfl, Nat.le_of_ble_eq_true rfl⟩) hD hS hA (fun u_36 H locs hw hP hD hS => ?_)
              obtain ⟨r_36, f_36⟩ := u_36
              obtain ⟨hI, hF_36, h0_36, h01_36⟩ : IN jn cI cR cM g L S f_36 ∧ FR S [13] f_28 f_36 ∧ (r_36.toInt = 0) ∧ (r_36.toInt = 0 ∨ r_36.toInt = 1) := hw
              have hP : va_P D vwCl (va_pl L f_36) H := hP
              have hD : va_D A (va_pl L f_36) := hD
              have hF := FR_tr hF hF_36 (by decide)
              have hTK_36 : TK g cI f_36 := TK_fr (f := f_28) (by assumption) hG hF_36 (by decide)
              have fb_37 : f_36 (g 14) = .inr (8, [.ref (g 11), .ref (g 31), .ref (g 32), .ref (g 33), .int cnt_22, .int nx_22, .int kd_22, .int vl_22, .int st_22, .int ls_22]) := FR_at hF_36 (gs_14 hG) (show (14 : Nat) ∉ ([13] : List Nat) by decide) fb_30
              exact g_zret (r_36, f_36) hx hb hr hlocks hS (b01 (by omega)) rfl (⟨hI, hF, show TK g cI f_36 from (by first | assumption | omega), show r_36.toInt = 0 ∨ r_36.toInt = 1 from (by first | assumption | omega)⟩) hP hD hQ (Nat.le_of_ble_eq_true rfl) (Nat.le_of_ble_eq_true rfl) dX4_readMarks_83
          · refine lv_aload_n hx hb dX4_readMarks_61 rfl (lv_at hl 0 rfl) ?_
            refine t_get (D := D) (L := L) (f := f_10) (ci := 4) (v := .ref (g 14)) (C := RX4) (T := TX4) (N := 11) hx hb hts (by decide +kernel) hown hK.1 hP (gm_13 hG) fg_21 rfl 1 (by decide) (hts (.fieldLink RX4 41 "JugglingHall$Reader" "tokens" "LJugglingHall$Tokens;") (by decide +kernel)) (fun _ h9 => h9) rfl dX4_readMarks_62 ?_
            refine t_getN (D := D) (L := L) (f := f_10) (ci := 8) (v := .int vl_22) (C := RX8) (T := TX8) (N := 10) (host := "JugglingHall") hx hb hts (by decide +kernel) hown hK.1 hP (gm_14 hG) fg_22 rfl 7 (by decide) (hK.nw (.fieldLinkNest RX4 113 "JugglingHall$Tokens" "value" "I" "JugglingHall") (by decide +kernel) rfl) (fun _ h9 => h9) rfl dX4_readMarks_65 ?_
            refine lv_goto (tgt := 72) hx hb dX4_readMarks_68 (by decide) ?_
            obtain ⟨cnt_38, fg_38, v1_38, v2_38, mp_38, sp_38⟩ := op_2 hI m_5 s_5
            obtain ⟨c_39, fg_39⟩ := op_3 hI mp_6 sp_6
            refine call_p (va_runV (As := [.int vl_22]) (rest := []) ⟨hx, hb, hml, hown, hts⟩ (t_X3_write l D cI cR cM _  hj hG hI m_5 s_5 fg_38 fg_39 ) (cwV 1 hts gX4_readMarks_X3_write rfl rfl rfl (by decide +kernel) ⟨Nat.le_of_ble_eq_true rfl, Nat.le_of_ble_eq_true rfl⟩) (pre_T hK hP hD m_5 fg_38 rfl) rfl rfl hl.1 rfl (lv_room (Nat.le_of_ble_eq_true rfl)) dX4_readMarks_72 ⟨Nat.le_of_ble_eq_true rfl, Nat.le_of_ble_eq_true rfl⟩) hD hS hA (fun u_40 H locs hw hP hD hS => ?_)
            obtain ⟨r_40, f_40⟩ := u_40
            obtain ⟨hI, hF_40, h01_40⟩ : IN jn cI cR cM g L S f_40 ∧ FR S [2, 3] f_10 f_40 ∧ (r_40.toInt = 0 ∨ r_40.toInt = 1) := hw
            have hP : va_P D vwCl (va_pl L f_40) H := hP
            have hD : va_D A (va_pl L f_40) := hD
            have hF := FR_tr hF hF_40 (by decide)
            have hTK_40 : TK g cI f_40 := TK_fr (f := f_10) (by assumption) hG hF_40 (by decide)
            have fb_41 : f_40 (g 13) = .inr (4, [.int (nI jn), .ref (g 14), .ref (g 12), .ref (g 22), .ref (g 34), .ref (g 23), .ref (g 24), .ref (g 25), .ref (g 26), .int fa_21, .int pl_21]) := FR_at hF_40 (gs_13 hG) (show (13 : Nat) ∉ ([2, 3] : List Nat) by decide) fg_21
            have fb_42 : f_40 (g 14) = .inr (8, [.ref (g 11), .ref (g 31), .ref (g 32), .ref (g 33), .int cnt_22, .int nx_22, .int kd_22, .int vl_22, .int st_22, .int ls_22]) := FR_at hF_40 (gs_14 hG) (show (14 : Nat) ∉ ([2, 3] : List Nat) by decide) fg_22
            refine a_if_ne (u := r_40.toInt) (tgt := 84) hx hb dX4_readMarks_75 (by decide) (rfl) (fun c_43 => ?_) (fun c_43 => ?_)
            · refine lv_aload_n hx hb dX4_readMarks_84 rfl (lv_at hl 0 rfl) ?_
              refine t_get (D := D) (L := L) (f := f_40) (ci := 4) (v := .ref (g 14)) (C := RX4) (T := TX4) (N := 11) hx hb hts (by decide +kernel) hown hK.1 hP (gm_13 hG) fb_41 rfl 1 (by decide) (hts (.fieldLink RX4 41 "JugglingHall$Reader" "tokens" "LJugglingHall$Tokens;") (by decide +kernel)) (fun _ h9 => h9) rfl dX4_readMarks_85 ?_
              refine call_p (va_runV (As := []) (rest := []) ⟨hx, hb, hml, hown, hts⟩ (t_X8_advance l D cI cR cM _  hj hG hI  (by first | assumption | omega)) (cwV 0 hts gX4_readMarks_X8_advance rfl rfl rfl (by decide +kernel) ⟨Nat.le_of_ble_eq_true rfl, Nat.le_of_ble_eq_true rfl⟩) (pre_T hK hP hD (gm_14 hG) fb_42 rfl) rfl rfl hl.1 rfl (lv_room (Nat.le_of_ble_eq_true rfl)) dX4_readMarks_88 ⟨Nat.le_of_ble_eq_true rfl, Nat.le_of_ble_eq_true rfl⟩) hD hS hA (fun u_44 H locs hw hP hD hS => ?_)
              obtain ⟨f_44, e0_44⟩ : ∃ x, x = u_44 := ⟨_, rfl⟩
              subst e0_44
              obtain ⟨hI, hF_44, hTK_44⟩ : IN jn cI cR cM g L S f_44 ∧ FR S [14] f_40 f_44 ∧ (TK g cI f_44) := hw
              have hP : va_P D vwCl (va_pl L f_44) H := hP
              have hD : va_D A (va_pl L f_44) := hD
              have hF := FR_tr hF hF_44 (by decide)
              have fb_45 : f_44 (g 13) = .inr (4, [.int (nI jn), .ref (g 14), .ref (g 12), .ref (g 22), .ref (g 34), .ref (g 23), .ref (g 24), .ref (g 25), .ref (g 26), .int fa_21, .int pl_21]) := FR_at hF_44 (gs_13 hG) (show (13 : Nat) ∉ ([14] : List Nat) by decide) fb_41
              obtain ⟨z_46, q_46, e_46⟩ := i_inc (a := ii.toInt) (1) (rfl) (by decide) (by omega) (by omega)
              refine lv_iinc (v := z_46) (lv' := [(1, .int z_46), (0, .ref (g 13))]) hx hb dX4_readMarks_91 hl (k := 1) rfl q_46 (by decide) rfl (fun ls hl => ?_)
              refine lv_goto (tgt := 17) hx hb dX4_readMarks_94 (by decide) ?_
              exact ih17 z_46 f_44 _ _ _ (by omega) hI hF (by first | assumption | omega) (by first | assumption | omega) hP hD hS (lv_sub hl [1, 0] rfl)
            · refine lv_aload_n hx hb dX4_readMarks_78 rfl (lv_at hl 0 rfl) ?_
              refine lv_iconst (v := 4) hx hb dX4_readMarks_79 (by decide) ?_
              have hz_47 : (4 : Int32).toInt = 4 := by decide
              refine call_p (va_runV (As := [.int 4]) (rest := []) ⟨hx, hb, hml, hown, hts⟩ (t_X4_fail l D cI cR cM _  hj hG hI  ) (cwV 1 hts gX4_readMarks_X4_fail rfl rfl rfl (by decide +kernel) ⟨Nat.le_of_ble_eq_true rfl, Nat.le_of_ble_eq_true rfl⟩) (pre_T hK hP hD (gm_13 hG) fb_41 rfl) rfl rfl hl.1 rfl (lv_room (Nat.le_of_ble_eq_true rfl)) dX4_readMarks_80 ⟨Nat.le_of_ble_eq_true rfl, Nat.le_of_ble_eq_true rfl⟩) hD hS hA (fun u_48 H locs hw hP hD hS => ?_)
              obtain ⟨r_48, f_48⟩ := u_48
              obtain ⟨hI, hF_48, h0_48, h01_48⟩ : IN jn cI cR cM g L S f_48 ∧ FR S [13] f_40 f_48 ∧ (r_48.toInt = 0) ∧ (r_48.toInt = 0 ∨ r_48.toInt = 1) := hw
              have hP : va_P D vwCl (va_pl L f_48) H := hP
              have hD : va_D A (va_pl L f_48) := hD
              have hF := FR_tr hF hF_48 (by decide)
              have hTK_48 : TK g cI f_48 := TK_fr (f := f_40) (by assumption) hG hF_48 (by decide)
              have fb_49 : f_48 (g 14) = .inr (8, [.ref (g 11), .ref (g 31), .ref (g 32), .ref (g 33), .int cnt_22, .int nx_22, .int kd_22, .int vl_22, .int st_22, .int ls_22]) := FR_at hF_48 (gs_14 hG) (show (14 : Nat) ∉ ([13] : List Nat) by decide) fb_42
              exact g_zret (r_48, f_48) hx hb hr hlocks hS (b01 (by omega)) rfl (⟨hI, hF, show TK g cI f_48 from (by first | assumption | omega), show r_48.toInt = 0 ∨ r_48.toInt = 1 from (by first | assumption | omega)⟩) hP hD hQ (Nat.le_of_ble_eq_true rfl) (Nat.le_of_ble_eq_true rfl) dX4_readMarks_83
        · refine lv_aload_n hx hb dX4_readMarks_34 rfl (lv_at hl 0 rfl) ?_
          refine t_get (D := D) (L := L) (f := f_10) (ci := 4) (v := .ref (g 14)) (C := RX4) (T := TX4) (N := 11) hx hb hts (by decide +kernel) hown hK.1 hP (gm_13 hG) fg_21 rfl 1 (by decide) (hts (.fieldLink RX4 41 "JugglingHall$Reader" "tokens" "LJugglingHall$Tokens;") (by decide +kernel)) (fun _ h9 => h9) rfl dX4_readMarks_35 ?_
          refine t_getN (D := D) (L := L) (f := f_10) (ci := 8) (v := .int kd_22) (C := RX8) (T := TX8) (N := 10) (host := "JugglingHall") hx hb hts (by decide +kernel) hown hK.1 hP (gm_14 hG) fg_22 rfl 6 (by decide) (hK.nw (.fieldLinkNest RX4 70 "JugglingHall$Tokens" "kind" "I" "JugglingHall") (by decide +kernel) rfl) (fun _ h9 => h9) rfl dX4_readMarks_38 ?_
          refine lv_bipush (v := 63) hx hb dX4_readMarks_41 (by decide) ?_
          refine a_icmp_ne (u := kd_22.toInt) (v := 63) (tgt := 97) hx hb dX4_readMarks_43 (by decide) (rfl) (by decide) (fun c_50 => ?_) (fun c_50 => ?_)
          · refine lv_aload_n hx hb dX4_readMarks_97 rfl (lv_at hl 0 rfl) ?_
            refine t_get (D := D) (L := L) (f := f_10) (ci := 4) (v := .ref (g 26)) (C := RX4) (T := TX4) (N := 11) hx hb hts (by decide +kernel) hown hK.1 hP (gm_13 hG) fg_21 rfl 8 (by decide) (hts (.fieldLink RX4 27 "JugglingHall$Reader" "marks" "LJugglingHall$Marks;") (by decide +kernel)) (fun _ h9 => h9) rfl dX4_readMarks_98 ?_
            obtain ⟨cnt_51, fg_51, v1_51, v2_51, mp_51, sp_51⟩ := op_2 hI m_5 s_5
            refine t_getN (D := D) (L := L) (f := f_10) (ci := 3) (v := .int cnt_51) (C := RX3) (T := TX3) (N := 2) (host := "JugglingHall") hx hb hts (by decide +kernel) hown hK.1 hP m_5 fg_51 rfl 1 (by decide) (hK.nw (.fieldLinkNest RX4 59 "JugglingHall$Marks" "count" "I" "JugglingHall") (by decide +kernel) rfl) (fun _ h9 => h9) rfl dX4_readMarks_101 ?_
            refine a_if_le (u := cnt_51.toInt) (tgt := 116) hx hb dX4_readMarks_104 (by decide) (rfl) (fun c_52 => ?_) (fun c_52 => ?_)
            · refine lv_aload_n hx hb dX4_readMarks_116 rfl (lv_at hl 0 rfl) ?_
              refine lv_iconst (v := 1) hx hb dX4_readMarks_117 (by decide) ?_
              have hz_53 : (1 : Int32).toInt = 1 := by decide
              refine call_p (va_runV (As := [.int 1]) (rest := []) ⟨hx, hb, hml, hown, hts⟩ (t_X4_fail l D cI cR cM _  hj hG hI  ) (cwV 1 hts gX4_readMarks_X4_fail rfl rfl rfl (by decide +kernel) ⟨Nat.le_of_ble_eq_true rfl, Nat.le_of_ble_eq_true rfl⟩) (pre_T hK hP hD (gm_13 hG) fg_21 rfl) rfl rfl hl.1 rfl (lv_room (Nat.le_of_ble_eq_true rfl)) dX4_readMarks_118 ⟨Nat.le_of_ble_eq_true rfl, Nat.le_of_ble_eq_true rfl⟩) hD hS hA (fun u_54 H locs hw hP hD hS => ?_)
              obtain ⟨r_54, f_54⟩ := u_54
              obtain ⟨hI, hF_54, h0_54, h01_54⟩ : IN jn cI cR cM g L S f_54 ∧ FR S [13] f_10 f_54 ∧ (r_54.toInt = 0) ∧ (r_54.toInt = 0 ∨ r_54.toInt = 1) := hw
              have hP : va_P D vwCl (va_pl L f_54) H := hP
              have hD : va_D A (va_pl L f_54) := hD
              have hF := FR_tr hF hF_54 (by decide)
              have hTK_54 : TK g cI f_54 := TK_fr (f := f_10) (by assumption) hG hF_54 (by decide)
              have fb_55 : f_54 (g 14) = .inr (8, [.ref (g 11), .ref (g 31), .ref (g 32), .ref (g 33), .int cnt_22, .int nx_22, .int kd_22, .int vl_22, .int st_22, .int ls_22]) := FR_at hF_54 (gs_14 hG) (show (14 : Nat) ∉ ([13] : List Nat) by decide) fg_22
              have fb_56 : f_54 (g 26) = .inr (3, [.ref p_5, .int cnt_51]) := FR_at hF_54 s_5 (show (2 : Nat) ∉ ([13] : List Nat) by decide) fg_51
              exact g_zret (r_54, f_54) hx hb hr hlocks hS (b01 (by omega)) rfl (⟨hI, hF, show TK g cI f_54 from (by first | assumption | omega), show r_54.toInt = 0 ∨ r_54.toInt = 1 from (by first | assumption | omega)⟩) hP hD hQ (Nat.le_of_ble_eq_true rfl) (Nat.le_of_ble_eq_true rfl) dX4_readMarks_121
            · refine lv_aload_n hx hb dX4_readMarks_107 rfl (lv_at hl 0 rfl) ?_
              refine lv_bipush (v := 59) hx hb dX4_readMarks_108 (by decide) ?_
              have hz_57 : (59 : Int32).toInt = 59 := by decide
              refine call_p (va_runV (As := [.int 59]) (rest := []) ⟨hx, hb, hml, hown, hts⟩ (t_X4_expect l D cI cR cM _  hj hG hI  (by first | assumption | omega)) (cwV 1 hts gX4_readMarks_X4_expect rfl rfl rfl (by decide +kernel) ⟨Nat.le_of_ble_eq_true rfl, Nat.le_of_ble_eq_true rfl⟩) (pre_T hK hP hD (gm_13 hG) fg_21 rfl) rfl rfl hl.1 rfl (lv_room (Nat.le_of_ble_eq_true rfl)) dX4_readMarks_110 ⟨Nat.le_of_ble_eq_true rfl, Nat.le_of_ble_eq_true rfl⟩) hD hS hA (fun u_58 H locs hw hP hD hS => ?_)
              obtain ⟨r_58, f_58⟩ := u_58
              obtain ⟨hI, hF_58, he_58, hTK_58, h01_58⟩ : IN jn cI cR cM g L S f_58 ∧ FR S [13, 14] f_10 f_58 ∧ (∀ cnt9 nx9 kd9 vl9 st9 ls9, f_10 (g 14) = .inr (8, [.ref (g 11), .ref (g 31), .ref (g 32), .ref (g 33), .int cnt9, .int nx9, .int kd9, .int vl9, .int st9, .int ls9]) → r_58.toInt = 1 → kd9.toInt = (59 : Int32).toInt) ∧ (TK g cI f_58) ∧ (r_58.toInt = 0 ∨ r_58.toInt = 1) := hw
              have hP : va_P D vwCl (va_pl L f_58) H := hP
              have hD : va_D A (va_pl L f_58) := hD
              have hF := FR_tr hF hF_58 (by decide)
              have fb_59 : f_58 (g 26) = .inr (3, [.ref p_5, .int cnt_51]) := FR_at hF_58 s_5 (show (2 : Nat) ∉ ([13, 14] : List Nat) by decide) fg_51
              refine lv_goto (tgt := 121) hx hb dX4_readMarks_113 (by decide) ?_
              exact g_zret (r_58, f_58) hx hb hr hlocks hS (b01 (by omega)) rfl (⟨hI, hF, show TK g cI f_58 from (by first | assumption | omega), show r_58.toInt = 0 ∨ r_58.toInt = 1 from (by first | assumption | omega)⟩) hP hD hQ (Nat.le_of_ble_eq_true rfl) (Nat.le_of_ble_eq_true rfl) dX4_readMarks_121
          · refine lv_aload_n hx hb dX4_readMarks_46 rfl (lv_at hl 0 rfl) ?_
            refine t_get (D := D) (L := L) (f := f_10) (ci := 4) (v := .ref (g 26)) (C := RX4) (T := TX4) (N := 11) hx hb hts (by decide +kernel) hown hK.1 hP (gm_13 hG) fg_21 rfl 8 (by decide) (hts (.fieldLink RX4 27 "JugglingHall$Reader" "marks" "LJugglingHall$Marks;") (by decide +kernel)) (fun _ h9 => h9) rfl dX4_readMarks_47 ?_
            refine lv_aload_n hx hb dX4_readMarks_50 rfl (lv_at hl 0 rfl) ?_
            refine t_get (D := D) (L := L) (f := f_10) (ci := 4) (v := .ref (g 14)) (C := RX4) (T := TX4) (N := 11) hx hb hts (by decide +kernel) hown hK.1 hP (gm_13 hG) fg_21 rfl 1 (by decide) (hts (.fieldLink RX4 41 "JugglingHall$Reader" "tokens" "LJugglingHall$Tokens;") (by decide +kernel)) (fun _ h9 => h9) rfl dX4_readMarks_51 ?_
            refine t_getN (D := D) (L := L) (f := f_10) (ci := 8) (v := .int kd_22) (C := RX8) (T := TX8) (N := 10) (host := "JugglingHall") hx hb hts (by decide +kernel) hown hK.1 hP (gm_14 hG) fg_22 rfl 6 (by decide) (hK.nw (.fieldLinkNest RX4 70 "JugglingHall$Tokens" "kind" "I" "JugglingHall") (by decide +kernel) rfl) (fun _ h9 => h9) rfl dX4_readMarks_54 ?_
            refine lv_iconst (v := 2) hx hb dX4_readMarks_57 (by decide) ?_
            refine a_icmp_ne (u := kd_22.toInt) (v := 2) (tgt := 71) hx hb dX4_readMarks_58 (by decide) (rfl) (by decide) (fun c_60 => ?_) (fun c_60 => ?_)
            · refine lv_iconst (v := (-1)) hx hb dX4_readMarks_71 (by decide) ?_
              have hz_61 : (-1 : Int32).toInt = (-1) := by decide
              obtain ⟨cnt_62, fg_62, v1_62, v2_62, mp_62, sp_62⟩ := op_2 hI m_5 s_5
              obtain ⟨c_63, fg_63⟩ := op_3 hI mp_6 sp_6
              refine call_p (va_runV (As := [.int (-1)]) (rest := []) ⟨hx, hb, hml, hown, hts⟩ (t_X3_write l D cI cR cM _  hj hG hI m_5 s_5 fg_62 fg_63 ) (cwV 1 hts gX4_readMarks_X3_write rfl rfl rfl (by decide +kernel) ⟨Nat.le_of_ble_eq_true rfl, Nat.le_of_ble_eq_true rfl⟩) (pre_T hK hP hD m_5 fg_62 rfl) rfl rfl hl.1 rfl (lv_room (Nat.le_of_ble_eq_true rfl)) dX4_readMarks_72 ⟨Nat.le_of_ble_eq_true rfl, Nat.le_of_ble_eq_true rfl⟩) hD hS hA (fun u_64 H locs hw hP hD hS => ?_)
              obtain ⟨r_64, f_64⟩ := u_64
              obtain ⟨hI, hF_64, h01_64⟩ : IN jn cI cR cM g L S f_64 ∧ FR S [2, 3] f_10 f_64 ∧ (r_64.toInt = 0 ∨ r_64.toInt = 1) := hw
              have hP : va_P D vwCl (va_pl L f_64) H := hP
              have hD : va_D A (va_pl L f_64) := hD
              have hF := FR_tr hF hF_64 (by decide)
              have hTK_64 : TK g cI f_64 := TK_fr (f := f_10) (by assumption) hG hF_64 (by decide)
              have fb_65 : f_64 (g 13) = .inr (4, [.int (nI jn), .ref (g 14), .ref (g 12), .ref (g 22), .ref (g 34), .ref (g 23), .ref (g 24), .ref (g 25), .ref (g 26), .int fa_21, .int pl_21]) := FR_at hF_64 (gs_13 hG) (show (13 : Nat) ∉ ([2, 3] : List Nat) by decide) fg_21
              have fb_66 : f_64 (g 14) = .inr (8, [.ref (g 11), .ref (g 31), .ref (g 32), .ref (g 33), .int cnt_22, .int nx_22, .int kd_22, .int vl_22, .int st_22, .int ls_22]) := FR_at hF_64 (gs_14 hG) (show (14 : Nat) ∉ ([2, 3] : List Nat) by decide) fg_22
              refine a_if_ne (u := r_64.toInt) (tgt := 84) hx hb dX4_readMarks_75 (by decide) (rfl) (fun c_67 => ?_) (fun c_67 => ?_)
              · refine lv_aload_n hx hb dX4_readMarks_84 rfl (lv_at hl 0 rfl) ?_
                refine t_get (D := D) (L := L) (f := f_64) (ci := 4) (v := .ref (g 14)) (C := RX4) (T := TX4) (N := 11) hx hb hts (by decide +kernel) hown hK.1 hP (gm_13 hG) fb_65 rfl 1 (by decide) (hts (.fieldLink RX4 41 "JugglingHall$Reader" "tokens" "LJugglingHall$Tokens;") (by decide +kernel)) (fun _ h9 => h9) rfl dX4_readMarks_85 ?_
                refine call_p (va_runV (As := []) (rest := []) ⟨hx, hb, hml, hown, hts⟩ (t_X8_advance l D cI cR cM _  hj hG hI  (by first | assumption | omega)) (cwV 0 hts gX4_readMarks_X8_advance rfl rfl rfl (by decide +kernel) ⟨Nat.le_of_ble_eq_true rfl, Nat.le_of_ble_eq_true rfl⟩) (pre_T hK hP hD (gm_14 hG) fb_66 rfl) rfl rfl hl.1 rfl (lv_room (Nat.le_of_ble_eq_true rfl)) dX4_readMarks_88 ⟨Nat.le_of_ble_eq_true rfl, Nat.le_of_ble_eq_true rfl⟩) hD hS hA (fun u_68 H locs hw hP hD hS => ?_)
                obtain ⟨f_68, e0_68⟩ : ∃ x, x = u_68 := ⟨_, rfl⟩
                subst e0_68
                obtain ⟨hI, hF_68, hTK_68⟩ : IN jn cI cR cM g L S f_68 ∧ FR S [14] f_64 f_68 ∧ (TK g cI f_68) := hw
                have hP : va_P D vwCl (va_pl L f_68) H := hP
                have hD : va_D A (va_pl L f_68) := hD
                have hF := FR_tr hF hF_68 (by decide)
                have fb_69 : f_68 (g 13) = .inr (4, [.int (nI jn), .ref (g 14), .ref (g 12), .ref (g 22), .ref (g 34), .ref (g 23), .ref (g 24), .ref (g 25), .ref (g 26), .int fa_21, .int pl_21]) := FR_at hF_68 (gs_13 hG) (show (13 : Nat) ∉ ([14] : List Nat) by decide) fb_65
                obtain ⟨z_70, q_70, e_70⟩ := i_inc (a := ii.toInt) (1) (rfl) (by decide) (by omega) (by omega)
                refine lv_iinc (v := z_70) (lv' := [(1, .int z_70), (0, .ref (g 13))]) hx hb dX4_readMarks_91 hl (k := 1) rfl q_70 (by decide) rfl (fun ls hl => ?_)
                refine lv_goto (tgt := 17) hx hb dX4_readMarks_94 (by decide) ?_
                exact ih17 z_70 f_68 _ _ _ (by omega) hI hF (by first | assumption | omega) (by first | assumption | omega) hP hD hS (lv_sub hl [1, 0] rfl)
              · refine lv_aload_n hx hb dX4_readMarks_78 rfl (lv_at hl 0 rfl) ?_
                refine lv_iconst (v := 4) hx hb dX4_readMarks_79 (by decide) ?_
                have hz_71 : (4 : Int32).toInt = 4 := by decide
                refine call_p (va_runV (As := [.int 4]) (rest := []) ⟨hx, hb, hml, hown, hts⟩ (t_X4_fail l D cI cR cM _  hj hG hI  ) (cwV 1 hts gX4_readMarks_X4_fail rfl rfl rfl (by decide +kernel) ⟨Nat.le_of_ble_eq_true rfl, Nat.le_of_ble_eq_true rfl⟩) (pre_T hK hP hD (gm_13 hG) fb_65 rfl) rfl rfl hl.1 rfl (lv_room (Nat.le_of_ble_eq_true rfl)) dX4_readMarks_80 ⟨Nat.le_of_ble_eq_true rfl, Nat.le_of_ble_eq_true rfl⟩) hD hS hA (fun u_72 H locs hw hP hD hS => ?_)
                obtain ⟨r_72, f_72⟩ := u_72
                obtain ⟨hI, hF_72, h0_72, h01_72⟩ : IN jn cI cR cM g L S f_72 ∧ FR S [13] f_64 f_72 ∧ (r_72.toInt = 0) ∧ (r_72.toInt = 0 ∨ r_72.toInt = 1) := hw
                have hP : va_P D vwCl (va_pl L f_72) H := hP
                have hD : va_D A (va_pl L f_72) := hD
                have hF := FR_tr hF hF_72 (by decide)
                have hTK_72 : TK g cI f_72 := TK_fr (f := f_64) (by assumption) hG hF_72 (by decide)
                have fb_73 : f_72 (g 14) = .inr (8, [.ref (g 11), .ref (g 31), .ref (g 32), .ref (g 33), .int cnt_22, .int nx_22, .int kd_22, .int vl_22, .int st_22, .int ls_22]) := FR_at hF_72 (gs_14 hG) (show (14 : Nat) ∉ ([13] : List Nat) by decide) fb_66
                exact g_zret (r_72, f_72) hx hb hr hlocks hS (b01 (by omega)) rfl (⟨hI, hF, show TK g cI f_72 from (by first | assumption | omega), show r_72.toInt = 0 ∨ r_72.toInt = 1 from (by first | assumption | omega)⟩) hP hD hQ (Nat.le_of_ble_eq_true rfl) (Nat.le_of_ble_eq_true rfl) dX4_readMarks_83
            · refine lv_aload_n hx hb dX4_readMarks_61 rfl (lv_at hl 0 rfl) ?_
              refine t_get (D := D) (L := L) (f := f_10) (ci := 4) (v := .ref (g 14)) (C := RX4) (T := TX4) (N := 11) hx hb hts (by decide +kernel) hown hK.1 hP (gm_13 hG) fg_21 rfl 1 (by decide) (hts (.fieldLink RX4 41 "JugglingHall$Reader" "tokens" "LJugglingHall$Tokens;") (by decide +kernel)) (fun _ h9 => h9) rfl dX4_readMarks_62 ?_
              refine t_getN (D := D) (L := L) (f := f_10) (ci := 8) (v := .int vl_22) (C := RX8) (T := TX8) (N := 10) (host := "JugglingHall") hx hb hts (by decide +kernel) hown hK.1 hP (gm_14 hG) fg_22 rfl 7 (by decide) (hK.nw (.fieldLinkNest RX4 113 "JugglingHall$Tokens" "value" "I" "JugglingHall") (by decide +kernel) rfl) (fun _ h9 => h9) rfl dX4_readMarks_65 ?_
              refine lv_goto (tgt := 72) hx hb dX4_readMarks_68 (by decide) ?_
              obtain ⟨cnt_74, fg_74, v1_74, v2_74, mp_74, sp_74⟩ := op_2 hI m_5 s_5
              obtain ⟨c_75, fg_75⟩ := op_3 hI mp_6 sp_6
              refine call_p (va_runV (As := [.int vl_22]) (rest := []) ⟨hx, hb, hml, hown, hts⟩ (t_X3_write l D cI cR cM _  hj hG hI m_5 s_5 fg_74 fg_75 ) (cwV 1 hts gX4_readMarks_X3_write rfl rfl rfl (by decide +kernel) ⟨Nat.le_of_ble_eq_true rfl, Nat.le_of_ble_eq_true rfl⟩) (pre_T hK hP hD m_5 fg_74 rfl) rfl rfl hl.1 rfl (lv_room (Nat.le_of_ble_eq_true rfl)) dX4_readMarks_72 ⟨Nat.le_of_ble_eq_true rfl, Nat.le_of_ble_eq_true rfl⟩) hD hS hA (fun u_76 H locs hw hP hD hS => ?_)
              obtain ⟨r_76, f_76⟩ := u_76
              obtain ⟨hI, hF_76, h01_76⟩ : IN jn cI cR cM g L S f_76 ∧ FR S [2, 3] f_10 f_76 ∧ (r_76.toInt = 0 ∨ r_76.toInt = 1) := hw
              have hP : va_P D vwCl (va_pl L f_76) H := hP
              have hD : va_D A (va_pl L f_76) := hD
              have hF := FR_tr hF hF_76 (by decide)
              have hTK_76 : TK g cI f_76 := TK_fr (f := f_10) (by assumption) hG hF_76 (by decide)
              have fb_77 : f_76 (g 13) = .inr (4, [.int (nI jn), .ref (g 14), .ref (g 12), .ref (g 22), .ref (g 34), .ref (g 23), .ref (g 24), .ref (g 25), .ref (g 26), .int fa_21, .int pl_21]) := FR_at hF_76 (gs_13 hG) (show (13 : Nat) ∉ ([2, 3] : List Nat) by decide) fg_21
              have fb_78 : f_76 (g 14) = .inr (8, [.ref (g 11), .ref (g 31), .ref (g 32), .ref (g 33), .int cnt_22, .int nx_22, .int kd_22, .int vl_22, .int st_22, .int ls_22]) := FR_at hF_76 (gs_14 hG) (show (14 : Nat) ∉ ([2, 3] : List Nat) by decide) fg_22
              refine a_if_ne (u := r_76.toInt) (tgt := 84) hx hb dX4_readMarks_75 (by decide) (rfl) (fun c_79 => ?_) (fun c_79 => ?_)
              · refine lv_aload_n hx hb dX4_readMarks_84 rfl (lv_at hl 0 rfl) ?_
                refine t_get (D := D) (L := L) (f := f_76) (ci := 4) (v := .ref (g 14)) (C := RX4) (T := TX4) (N := 11) hx hb hts (by decide +kernel) hown hK.1 hP (gm_13 hG) fb_77 rfl 1 (by decide) (hts (.fieldLink RX4 41 "JugglingHall$Reader" "tokens" "LJugglingHall$Tokens;") (by decide +kernel)) (fun _ h9 => h9) rfl dX4_readMarks_85 ?_
                refine call_p (va_runV (As := []) (rest := []) ⟨hx, hb, hml, hown, hts⟩ (t_X8_advance l D cI cR cM _  hj hG hI  (by first | assumption | omega)) (cwV 0 hts gX4_readMarks_X8_advance rfl rfl rfl (by decide +kernel) ⟨Nat.le_of_ble_eq_true rfl, Nat.le_of_ble_eq_true rfl⟩) (pre_T hK hP hD (gm_14 hG) fb_78 rfl) rfl rfl hl.1 rfl (lv_room (Nat.le_of_ble_eq_true rfl)) dX4_readMarks_88 ⟨Nat.le_of_ble_eq_true rfl, Nat.le_of_ble_eq_true rfl⟩) hD hS hA (fun u_80 H locs hw hP hD hS => ?_)
                obtain ⟨f_80, e0_80⟩ : ∃ x, x = u_80 := ⟨_, rfl⟩
                subst e0_80
                obtain ⟨hI, hF_80, hTK_80⟩ : IN jn cI cR cM g L S f_80 ∧ FR S [14] f_76 f_80 ∧ (TK g cI f_80) := hw
                have hP : va_P D vwCl (va_pl L f_80) H := hP
                have hD : va_D A (va_pl L f_80) := hD
                have hF := FR_tr hF hF_80 (by decide)
                have fb_81 : f_80 (g 13) = .inr (4, [.int (nI jn), .ref (g 14), .ref (g 12), .ref (g 22), .ref (g 34), .ref (g 23), .ref (g 24), .ref (g 25), .ref (g 26), .int fa_21, .int pl_21]) := FR_at hF_80 (gs_13 hG) (show (13 : Nat) ∉ ([14] : List Nat) by decide) fb_77
                obtain ⟨z_82, q_82, e_82⟩ := i_inc (a := ii.toInt) (1) (rfl) (by decide) (by omega) (by omega)
                refine lv_iinc (v := z_82) (lv' := [(1, .int z_82), (0, .ref (g 13))]) hx hb dX4_readMarks_91 hl (k := 1) rfl q_82 (by decide) rfl (fun ls hl => ?_)
                refine lv_goto (tgt := 17) hx hb dX4_readMarks_94 (by decide) ?_
                exact ih17 z_82 f_80 _ _ _ (by omega) hI hF (by first | assumption | omega) (by first | assumption | omega) hP hD hS (lv_sub hl [1, 0] rfl)
              · refine lv_aload_n hx hb dX4_readMarks_78 rfl (lv_at hl 0 rfl) ?_
                refine lv_iconst (v := 4) hx hb dX4_readMarks_79 (by decide) ?_
                have hz_83 : (4 : Int32).toInt = 4 := by decide
                refine call_p (va_runV (As := [.int 4]) (rest := []) ⟨hx, hb, hml, hown, hts⟩ (t_X4_fail l D cI cR cM _  hj hG hI  ) (cwV 1 hts gX4_readMarks_X4_fail rfl rfl rfl (by decide +kernel) ⟨Nat.le_of_ble_eq_true rfl, Nat.le_of_ble_eq_true rfl⟩) (pre_T hK hP hD (gm_13 hG) fb_77 rfl) rfl rfl hl.1 rfl (lv_room (Nat.le_of_ble_eq_true rfl)) dX4_readMarks_80 ⟨Nat.le_of_ble_eq_true rfl, Nat.le_of_ble_eq_true rfl⟩) hD hS hA (fun u_84 H locs hw hP hD hS => ?_)
                obtain ⟨r_84, f_84⟩ := u_84
                obtain ⟨hI, hF_84, h0_84, h01_84⟩ : IN jn cI cR cM g L S f_84 ∧ FR S [13] f_76 f_84 ∧ (r_84.toInt = 0) ∧ (r_84.toInt = 0 ∨ r_84.toInt = 1) := hw
                have hP : va_P D vwCl (va_pl L f_84) H := hP
                have hD : va_D A (va_pl L f_84) := hD
                have hF := FR_tr hF hF_84 (by decide)
                have hTK_84 : TK g cI f_84 := TK_fr (f := f_76) (by assumption) hG hF_84 (by decide)
                have fb_85 : f_84 (g 14) = .inr (8, [.ref (g 11), .ref (g 31), .ref (g 32), .ref (g 33), .int cnt_22, .int nx_22, .int kd_22, .int vl_22, .int st_22, .int ls_22]) := FR_at hF_84 (gs_14 hG) (show (14 : Nat) ∉ ([13] : List Nat) by decide) fb_78
                exact g_zret (r_84, f_84) hx hb hr hlocks hS (b01 (by omega)) rfl (⟨hI, hF, show TK g cI f_84 from (by first | assumption | omega), show r_84.toInt = 0 ∨ r_84.toInt = 1 from (by first | assumption | omega)⟩) hP hD hQ (Nat.le_of_ble_eq_true rfl) (Nat.le_of_ble_eq_true rfl) dX4_readMarks_83
  have hz_86 : (0 : Int32).toInt = 0 := by decide
  exact loop17 ((20 - (0 : Int32).toInt).toNat + 1) (0 : Int32) f_7 _ _ _ (by omega) hI hF (by first | assumption | omega) (by first | assumption | omega) hP hD hS (lv_sub hl [1, 0] rfl)
