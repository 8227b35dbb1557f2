theorem mul63 {a b : Int} (ha : 0 ≤ a ∧ a ≤ 9) (hb : 1 ≤ b ∧ b ≤ 7) : 0 ≤ a * b ∧ a * b ≤ 63 := by
  rcases (show a = 0 ∨ a = 1 ∨ a = 2 ∨ a = 3 ∨ a = 4 ∨ a = 5 ∨ a = 6 ∨ a = 7 ∨ a = 8 ∨ a = 9 by omega) with h | h | h | h | h | h | h | h | h | h <;> subst h <;> omega
section HLPV
variable {p : Program} {l : Launch} {e : Env} {R : Room} {s : State} {m : MethodId} {args : Array Value} {below : List Frame} {meth : Method} {c : Code} {H : Heap} {locs : List Loc} {cells slots : Nat} {Q : State → Prop}
variable {cc : ByteArray} {pc : Nat} {ls : Array Slot} {rest st0 : List Value} {D : va_G} {cl : List vw_C} {A : Nat → Prop} {a : Nat} {tys : List (ClassId × FieldType)} {ws wc wr : va_W} {H0 : Heap} {av : Array Value} {mc ms : Nat}
theorem ro_vret (hx : p.tables.exec = Jvm.exec) (hb : c.code = cc) (hr : meth.sig.returnType = none) (hlocks : meth.locks = false) (hS : va_S (va_A [] s.heap.size) s.heap H locs) (hQ : Q = MQ below (QE none s.heap.size) args s 0 0 (va_A [] s.heap.size)) (hdg : decode cc pc = .ok (.return_, 1)) : W p l e R s m args below meth c H locs 0 0 Q (F0 m pc ls []) := by
  rw [hQ]
  exact W.vret hx hb hr (fun t ht hW => ⟨rfl, hS.F ht⟩) hS.2.2 hdg hlocks
end HLPV
theorem dX1_badPlace_0 : decode cX1_badPlace 0 = .ok (.aload_n 0, 1) := by decide +kernel
theorem dX1_badPlace_1 : decode cX1_badPlace 1 = .ok (.getfield 9, 3) := by decide +kernel
theorem dX1_badPlace_4 : decode cX1_badPlace 4 = .ok (.iconst 0, 1) := by decide +kernel
theorem dX1_badPlace_5 : decode cX1_badPlace 5 = .ok (.invokestatic 30, 3) := by decide +kernel
theorem dX1_badPlace_8 : decode cX1_badPlace 8 = .ok (.sipush 144, 3) := by decide +kernel
theorem dX1_badPlace_11 : decode cX1_badPlace 11 = .ok (.aload_n 1, 1) := by decide +kernel
theorem dX1_badPlace_12 : decode cX1_badPlace 12 = .ok (.invokevirtual 36, 3) := by decide +kernel
theorem dX1_badPlace_15 : decode cX1_badPlace 15 = .ok (.invokestatic 42, 3) := by decide +kernel
theorem dX1_badPlace_18 : decode cX1_badPlace 18 = .ok (.istore_n 2, 1) := by decide +kernel
theorem dX1_badPlace_19 : decode cX1_badPlace 19 = .ok (.iconst 0, 1) := by decide +kernel
theorem dX1_badPlace_20 : decode cX1_badPlace 20 = .ok (.istore_n 3, 1) := by decide +kernel
theorem dX1_badPlace_21 : decode cX1_badPlace 21 = .ok (.iload_n 3, 1) := by decide +kernel
theorem dX1_badPlace_22 : decode cX1_badPlace 22 = .ok (.iload_n 2, 1) := by decide +kernel
theorem dX1_badPlace_23 : decode cX1_badPlace 23 = .ok (.if_icmp .ge 43, 3) := by decide +kernel
theorem dX1_badPlace_26 : decode cX1_badPlace 26 = .ok (.aload_n 1, 1) := by decide +kernel
theorem dX1_badPlace_27 : decode cX1_badPlace 27 = .ok (.iload_n 3, 1) := by decide +kernel
theorem dX1_badPlace_28 : decode cX1_badPlace 28 = .ok (.invokevirtual 48, 3) := by decide +kernel
theorem dX1_badPlace_31 : decode cX1_badPlace 31 = .ok (.ifCond .eq 29, 3) := by decide +kernel
theorem dX1_badPlace_34 : decode cX1_badPlace 34 = .ok (.aload_n 0, 1) := by decide +kernel
theorem dX1_badPlace_35 : decode cX1_badPlace 35 = .ok (.getfield 9, 3) := by decide +kernel
theorem dX1_badPlace_38 : decode cX1_badPlace 38 = .ok (.iload_n 3, 1) := by decide +kernel
theorem dX1_badPlace_39 : decode cX1_badPlace 39 = .ok (.iconst 2, 1) := by decide +kernel
theorem dX1_badPlace_40 : decode cX1_badPlace 40 = .ok (.idiv, 1) := by decide +kernel
theorem dX1_badPlace_41 : decode cX1_badPlace 41 = .ok (.dup2, 1) := by decide +kernel
theorem dX1_badPlace_42 : decode cX1_badPlace 42 = .ok (.iaload, 1) := by decide +kernel
theorem dX1_badPlace_43 : decode cX1_badPlace 43 = .ok (.iconst 1, 1) := by decide +kernel
theorem dX1_badPlace_44 : decode cX1_badPlace 44 = .ok (.iadd, 1) := by decide +kernel
theorem dX1_badPlace_45 : decode cX1_badPlace 45 = .ok (.iastore, 1) := by decide +kernel
theorem dX1_badPlace_46 : decode cX1_badPlace 46 = .ok (.aload_n 0, 1) := by decide +kernel
theorem dX1_badPlace_47 : decode cX1_badPlace 47 = .ok (.getfield 9, 3) := by decide +kernel
theorem dX1_badPlace_50 : decode cX1_badPlace 50 = .ok (.aload_n 1, 1) := by decide +kernel
theorem dX1_badPlace_51 : decode cX1_badPlace 51 = .ok (.iload_n 3, 1) := by decide +kernel
theorem dX1_badPlace_52 : decode cX1_badPlace 52 = .ok (.invokevirtual 52, 3) := by decide +kernel
theorem dX1_badPlace_55 : decode cX1_badPlace 55 = .ok (.dup2, 1) := by decide +kernel
theorem dX1_badPlace_56 : decode cX1_badPlace 56 = .ok (.iaload, 1) := by decide +kernel
theorem dX1_badPlace_57 : decode cX1_badPlace 57 = .ok (.iconst 1, 1) := by decide +kernel
theorem dX1_badPlace_58 : decode cX1_badPlace 58 = .ok (.isub, 1) := by decide +kernel
theorem dX1_badPlace_59 : decode cX1_badPlace 59 = .ok (.iastore, 1) := by decide +kernel
theorem dX1_badPlace_60 : decode cX1_badPlace 60 = .ok (.iinc 3 1, 3) := by decide +kernel
theorem dX1_badPlace_63 : decode cX1_badPlace 63 = .ok (.goto (-42), 3) := by decide +kernel
theorem dX1_badPlace_66 : decode cX1_badPlace 66 = .ok (.iconst 0, 1) := by decide +kernel
theorem dX1_badPlace_67 : decode cX1_badPlace 67 = .ok (.istore_n 3, 1) := by decide +kernel
theorem dX1_badPlace_68 : decode cX1_badPlace 68 = .ok (.iload_n 3, 1) := by decide +kernel
theorem dX1_badPlace_69 : decode cX1_badPlace 69 = .ok (.aload_n 0, 1) := by decide +kernel
theorem dX1_badPlace_70 : decode cX1_badPlace 70 = .ok (.getfield 9, 3) := by decide +kernel
theorem dX1_badPlace_73 : decode cX1_badPlace 73 = .ok (.arraylength, 1) := by decide +kernel
theorem dX1_badPlace_74 : decode cX1_badPlace 74 = .ok (.if_icmp .ge 20, 3) := by decide +kernel
theorem dX1_badPlace_77 : decode cX1_badPlace 77 = .ok (.aload_n 0, 1) := by decide +kernel
theorem dX1_badPlace_78 : decode cX1_badPlace 78 = .ok (.getfield 9, 3) := by decide +kernel
theorem dX1_badPlace_81 : decode cX1_badPlace 81 = .ok (.iload_n 3, 1) := by decide +kernel
theorem dX1_badPlace_82 : decode cX1_badPlace 82 = .ok (.iaload, 1) := by decide +kernel
theorem dX1_badPlace_83 : decode cX1_badPlace 83 = .ok (.ifCond .eq 5, 3) := by decide +kernel
theorem dX1_badPlace_86 : decode cX1_badPlace 86 = .ok (.iload_n 3, 1) := by decide +kernel
theorem dX1_badPlace_87 : decode cX1_badPlace 87 = .ok (.ireturn, 1) := by decide +kernel
theorem dX1_badPlace_88 : decode cX1_badPlace 88 = .ok (.iinc 3 1, 3) := by decide +kernel
theorem dX1_badPlace_91 : decode cX1_badPlace 91 = .ok (.goto (-23), 3) := by decide +kernel
theorem dX1_badPlace_94 : decode cX1_badPlace 94 = .ok (.iconst (-1), 1) := by decide +kernel
theorem dX1_badPlace_95 : decode cX1_badPlace 95 = .ok (.ireturn, 1) := by decide +kernel
theorem dX1_lead_0 : decode cX1_lead 0 = .ok (.aload_n 1, 1) := by decide +kernel
theorem dX1_lead_1 : decode cX1_lead 1 = .ok (.ifnull 12, 3) := by decide +kernel
theorem dX1_lead_4 : decode cX1_lead 4 = .ok (.aload_n 0, 1) := by decide +kernel
theorem dX1_lead_5 : decode cX1_lead 5 = .ok (.aload_n 1, 1) := by decide +kernel
theorem dX1_lead_6 : decode cX1_lead 6 = .ok (.invokevirtual 56, 3) := by decide +kernel
theorem dX1_lead_9 : decode cX1_lead 9 = .ok (.iconst (-1), 1) := by decide +kernel
theorem dX1_lead_10 : decode cX1_lead 10 = .ok (.if_icmp .eq 5, 3) := by decide +kernel
theorem dX1_lead_13 : decode cX1_lead 13 = .ok (.iconst 0, 1) := by decide +kernel
theorem dX1_lead_14 : decode cX1_lead 14 = .ok (.ireturn, 1) := by decide +kernel
theorem dX1_lead_15 : decode cX1_lead 15 = .ok (.aload_n 0, 1) := by decide +kernel
theorem dX1_lead_16 : decode cX1_lead 16 = .ok (.aload_n 1, 1) := by decide +kernel
theorem dX1_lead_17 : decode cX1_lead 17 = .ok (.putfield 60, 3) := by decide +kernel
theorem dX1_lead_20 : decode cX1_lead 20 = .ok (.aload_n 0, 1) := by decide +kernel
theorem dX1_lead_21 : decode cX1_lead 21 = .ok (.getfield 15, 3) := by decide +kernel
theorem dX1_lead_24 : decode cX1_lead 24 = .ok (.iconst (-1), 1) := by decide +kernel
theorem dX1_lead_25 : decode cX1_lead 25 = .ok (.invokestatic 30, 3) := by decide +kernel
theorem dX1_lead_28 : decode cX1_lead 28 = .ok (.aload_n 0, 1) := by decide +kernel
theorem dX1_lead_29 : decode cX1_lead 29 = .ok (.getfield 18, 3) := by decide +kernel
theorem dX1_lead_32 : decode cX1_lead 32 = .ok (.iconst (-1), 1) := by decide +kernel
theorem dX1_lead_33 : decode cX1_lead 33 = .ok (.invokestatic 30, 3) := by decide +kernel
theorem dX1_lead_36 : decode cX1_lead 36 = .ok (.aload_n 0, 1) := by decide +kernel
theorem dX1_lead_37 : decode cX1_lead 37 = .ok (.iconst 0, 1) := by decide +kernel
theorem dX1_lead_38 : decode cX1_lead 38 = .ok (.putfield 64, 3) := by decide +kernel
theorem dX1_lead_41 : decode cX1_lead 41 = .ok (.iconst 0, 1) := by decide +kernel
theorem dX1_lead_42 : decode cX1_lead 42 = .ok (.istore_n 2, 1) := by decide +kernel
theorem dX1_lead_43 : decode cX1_lead 43 = .ok (.iload_n 2, 1) := by decide +kernel
theorem dX1_lead_44 : decode cX1_lead 44 = .ok (.aload_n 0, 1) := by decide +kernel
theorem dX1_lead_45 : decode cX1_lead 45 = .ok (.getfield 60, 3) := by decide +kernel
theorem dX1_lead_48 : decode cX1_lead 48 = .ok (.invokevirtual 36, 3) := by decide +kernel
theorem dX1_lead_51 : decode cX1_lead 51 = .ok (.if_icmp .ge 35, 3) := by decide +kernel
theorem dX1_lead_54 : decode cX1_lead 54 = .ok (.aload_n 0, 1) := by decide +kernel
theorem dX1_lead_55 : decode cX1_lead 55 = .ok (.getfield 60, 3) := by decide +kernel
theorem dX1_lead_58 : decode cX1_lead 58 = .ok (.iload_n 2, 1) := by decide +kernel
theorem dX1_lead_59 : decode cX1_lead 59 = .ok (.invokevirtual 48, 3) := by decide +kernel
theorem dX1_lead_62 : decode cX1_lead 62 = .ok (.ifCond .eq 18, 3) := by decide +kernel
theorem dX1_lead_65 : decode cX1_lead 65 = .ok (.aload_n 0, 1) := by decide +kernel
theorem dX1_lead_66 : decode cX1_lead 66 = .ok (.iload_n 2, 1) := by decide +kernel
theorem dX1_lead_67 : decode cX1_lead 67 = .ok (.aload_n 0, 1) := by decide +kernel
theorem dX1_lead_68 : decode cX1_lead 68 = .ok (.getfield 60, 3) := by decide +kernel
theorem dX1_lead_71 : decode cX1_lead 71 = .ok (.iload_n 2, 1) := by decide +kernel
theorem dX1_lead_72 : decode cX1_lead 72 = .ok (.invokevirtual 52, 3) := by decide +kernel
theorem dX1_lead_75 : decode cX1_lead 75 = .ok (.iconst 2, 1) := by decide +kernel
theorem dX1_lead_76 : decode cX1_lead 76 = .ok (.imul, 1) := by decide +kernel
theorem dX1_lead_77 : decode cX1_lead 77 = .ok (.invokevirtual 68, 3) := by decide +kernel
theorem dX1_lead_80 : decode cX1_lead 80 = .ok (.iinc 2 1, 3) := by decide +kernel
theorem dX1_lead_83 : decode cX1_lead 83 = .ok (.goto (-40), 3) := by decide +kernel
theorem dX1_lead_86 : decode cX1_lead 86 = .ok (.iconst 0, 1) := by decide +kernel
theorem dX1_lead_87 : decode cX1_lead 87 = .ok (.istore_n 2, 1) := by decide +kernel
theorem dX1_lead_88 : decode cX1_lead 88 = .ok (.iload_n 2, 1) := by decide +kernel
theorem dX1_lead_89 : decode cX1_lead 89 = .ok (.aload_n 0, 1) := by decide +kernel
theorem dX1_lead_90 : decode cX1_lead 90 = .ok (.getfield 60, 3) := by decide +kernel
theorem dX1_lead_93 : decode cX1_lead 93 = .ok (.invokevirtual 36, 3) := by decide +kernel
theorem dX1_lead_96 : decode cX1_lead 96 = .ok (.if_icmp .ge 35, 3) := by decide +kernel
theorem dX1_lead_99 : decode cX1_lead 99 = .ok (.aload_n 0, 1) := by decide +kernel
theorem dX1_lead_100 : decode cX1_lead 100 = .ok (.getfield 60, 3) := by decide +kernel
theorem dX1_lead_103 : decode cX1_lead 103 = .ok (.iload_n 2, 1) := by decide +kernel
theorem dX1_lead_104 : decode cX1_lead 104 = .ok (.invokevirtual 48, 3) := by decide +kernel
theorem dX1_lead_107 : decode cX1_lead 107 = .ok (.ifCond .eq 18, 3) := by decide +kernel
theorem dX1_lead_110 : decode cX1_lead 110 = .ok (.aload_n 0, 1) := by decide +kernel
theorem dX1_lead_111 : decode cX1_lead 111 = .ok (.getfield 18, 3) := by decide +kernel
theorem dX1_lead_114 : decode cX1_lead 114 = .ok (.iload_n 2, 1) := by decide +kernel
theorem dX1_lead_115 : decode cX1_lead 115 = .ok (.iaload, 1) := by decide +kernel
theorem dX1_lead_116 : decode cX1_lead 116 = .ok (.iconst (-1), 1) := by decide +kernel
theorem dX1_lead_117 : decode cX1_lead 117 = .ok (.if_icmp .ne 8, 3) := by decide +kernel
theorem dX1_lead_120 : decode cX1_lead 120 = .ok (.aload_n 0, 1) := by decide +kernel
theorem dX1_lead_121 : decode cX1_lead 121 = .ok (.iload_n 2, 1) := by decide +kernel
theorem dX1_lead_122 : decode cX1_lead 122 = .ok (.invokevirtual 72, 3) := by decide +kernel
theorem dX1_lead_125 : decode cX1_lead 125 = .ok (.iinc 2 1, 3) := by decide +kernel
theorem dX1_lead_128 : decode cX1_lead 128 = .ok (.goto (-40), 3) := by decide +kernel
theorem dX1_lead_131 : decode cX1_lead 131 = .ok (.iconst 1, 1) := by decide +kernel
theorem dX1_lead_132 : decode cX1_lead 132 = .ok (.ireturn, 1) := by decide +kernel
theorem dX1_land_0 : decode cX1_land 0 = .ok (.aload_n 0, 1) := by decide +kernel
theorem dX1_land_1 : decode cX1_land 1 = .ok (.getfield 15, 3) := by decide +kernel
theorem dX1_land_4 : decode cX1_land 4 = .ok (.iload_n 2, 1) := by decide +kernel
theorem dX1_land_5 : decode cX1_land 5 = .ok (.iaload, 1) := by decide +kernel
theorem dX1_land_6 : decode cX1_land 6 = .ok (.iconst (-1), 1) := by decide +kernel
theorem dX1_land_7 : decode cX1_land 7 = .ok (.if_icmp .ne 13, 3) := by decide +kernel
theorem dX1_land_10 : decode cX1_land 10 = .ok (.aload_n 0, 1) := by decide +kernel
theorem dX1_land_11 : decode cX1_land 11 = .ok (.getfield 15, 3) := by decide +kernel
theorem dX1_land_14 : decode cX1_land 14 = .ok (.iload_n 2, 1) := by decide +kernel
theorem dX1_land_15 : decode cX1_land 15 = .ok (.iload_n 1, 1) := by decide +kernel
theorem dX1_land_16 : decode cX1_land 16 = .ok (.iastore, 1) := by decide +kernel
theorem dX1_land_17 : decode cX1_land 17 = .ok (.goto 54, 3) := by decide +kernel
theorem dX1_land_20 : decode cX1_land 20 = .ok (.aload_n 0, 1) := by decide +kernel
theorem dX1_land_21 : decode cX1_land 21 = .ok (.iload_n 1, 1) := by decide +kernel
theorem dX1_land_22 : decode cX1_land 22 = .ok (.invokevirtual 76, 3) := by decide +kernel
theorem dX1_land_25 : decode cX1_land 25 = .ok (.aload_n 0, 1) := by decide +kernel
theorem dX1_land_26 : decode cX1_land 26 = .ok (.aload_n 0, 1) := by decide +kernel
theorem dX1_land_27 : decode cX1_land 27 = .ok (.getfield 15, 3) := by decide +kernel
theorem dX1_land_30 : decode cX1_land 30 = .ok (.iload_n 2, 1) := by decide +kernel
theorem dX1_land_31 : decode cX1_land 31 = .ok (.iaload, 1) := by decide +kernel
theorem dX1_land_32 : decode cX1_land 32 = .ok (.invokevirtual 76, 3) := by decide +kernel
theorem dX1_land_35 : decode cX1_land 35 = .ok (.if_icmp .le 27, 3) := by decide +kernel
theorem dX1_land_38 : decode cX1_land 38 = .ok (.aload_n 0, 1) := by decide +kernel
theorem dX1_land_39 : decode cX1_land 39 = .ok (.getfield 15, 3) := by decide +kernel
theorem dX1_land_42 : decode cX1_land 42 = .ok (.iload_n 2, 1) := by decide +kernel
theorem dX1_land_43 : decode cX1_land 43 = .ok (.iconst 1, 1) := by decide +kernel
theorem dX1_land_44 : decode cX1_land 44 = .ok (.iadd, 1) := by decide +kernel
theorem dX1_land_45 : decode cX1_land 45 = .ok (.aload_n 0, 1) := by decide +kernel
theorem dX1_land_46 : decode cX1_land 46 = .ok (.getfield 15, 3) := by decide +kernel
theorem dX1_land_49 : decode cX1_land 49 = .ok (.iload_n 2, 1) := by decide +kernel
theorem dX1_land_50 : decode cX1_land 50 = .ok (.iaload, 1) := by decide +kernel
theorem dX1_land_51 : decode cX1_land 51 = .ok (.iastore, 1) := by decide +kernel
theorem dX1_land_52 : decode cX1_land 52 = .ok (.aload_n 0, 1) := by decide +kernel
theorem dX1_land_53 : decode cX1_land 53 = .ok (.getfield 15, 3) := by decide +kernel
theorem dX1_land_56 : decode cX1_land 56 = .ok (.iload_n 2, 1) := by decide +kernel
theorem dX1_land_57 : decode cX1_land 57 = .ok (.iload_n 1, 1) := by decide +kernel
theorem dX1_land_58 : decode cX1_land 58 = .ok (.iastore, 1) := by decide +kernel
theorem dX1_land_59 : decode cX1_land 59 = .ok (.goto 12, 3) := by decide +kernel
theorem dX1_land_62 : decode cX1_land 62 = .ok (.aload_n 0, 1) := by decide +kernel
theorem dX1_land_63 : decode cX1_land 63 = .ok (.getfield 15, 3) := by decide +kernel
theorem dX1_land_66 : decode cX1_land 66 = .ok (.iload_n 2, 1) := by decide +kernel
theorem dX1_land_67 : decode cX1_land 67 = .ok (.iconst 1, 1) := by decide +kernel
theorem dX1_land_68 : decode cX1_land 68 = .ok (.iadd, 1) := by decide +kernel
theorem dX1_land_69 : decode cX1_land 69 = .ok (.iload_n 1, 1) := by decide +kernel
theorem dX1_land_70 : decode cX1_land 70 = .ok (.iastore, 1) := by decide +kernel
theorem dX1_land_71 : decode cX1_land 71 = .ok (.return_, 1) := by decide +kernel
theorem dX1_rank_0 : decode cX1_rank 0 = .ok (.aload_n 0, 1) := by decide +kernel
theorem dX1_rank_1 : decode cX1_rank 1 = .ok (.getfield 60, 3) := by decide +kernel
theorem dX1_rank_4 : decode cX1_rank 4 = .ok (.iload_n 1, 1) := by decide +kernel
theorem dX1_rank_5 : decode cX1_rank 5 = .ok (.invokevirtual 79, 3) := by decide +kernel
theorem dX1_rank_8 : decode cX1_rank 8 = .ok (.sipush 144, 3) := by decide +kernel
theorem dX1_rank_11 : decode cX1_rank 11 = .ok (.imul, 1) := by decide +kernel
theorem dX1_rank_12 : decode cX1_rank 12 = .ok (.iload_n 1, 1) := by decide +kernel
theorem dX1_rank_13 : decode cX1_rank 13 = .ok (.aload_n 0, 1) := by decide +kernel
theorem dX1_rank_14 : decode cX1_rank 14 = .ok (.getfield 60, 3) := by decide +kernel
theorem dX1_rank_17 : decode cX1_rank 17 = .ok (.getfield 82, 3) := by decide +kernel
theorem dX1_rank_20 : decode cX1_rank 20 = .ok (.irem, 1) := by decide +kernel
theorem dX1_rank_21 : decode cX1_rank 21 = .ok (.isub, 1) := by decide +kernel
theorem dX1_rank_22 : decode cX1_rank 22 = .ok (.ireturn, 1) := by decide +kernel
theorem dX1_follow_0 : decode cX1_follow 0 = .ok (.aload_n 0, 1) := by decide +kernel
theorem dX1_follow_1 : decode cX1_follow 1 = .ok (.getfield 21, 3) := by decide +kernel
theorem dX1_follow_4 : decode cX1_follow 4 = .ok (.aload_n 0, 1) := by decide +kernel
theorem dX1_follow_5 : decode cX1_follow 5 = .ok (.getfield 64, 3) := by decide +kernel
theorem dX1_follow_8 : decode cX1_follow 8 = .ok (.iload_n 1, 1) := by decide +kernel
theorem dX1_follow_9 : decode cX1_follow 9 = .ok (.iastore, 1) := by decide +kernel
theorem dX1_follow_10 : decode cX1_follow 10 = .ok (.aload_n 0, 1) := by decide +kernel
theorem dX1_follow_11 : decode cX1_follow 11 = .ok (.getfield 24, 3) := by decide +kernel
theorem dX1_follow_14 : decode cX1_follow 14 = .ok (.aload_n 0, 1) := by decide +kernel
theorem dX1_follow_15 : decode cX1_follow 15 = .ok (.getfield 64, 3) := by decide +kernel
theorem dX1_follow_18 : decode cX1_follow 18 = .ok (.iconst 0, 1) := by decide +kernel
theorem dX1_follow_19 : decode cX1_follow 19 = .ok (.iastore, 1) := by decide +kernel
theorem dX1_follow_20 : decode cX1_follow 20 = .ok (.aload_n 0, 1) := by decide +kernel
theorem dX1_follow_21 : decode cX1_follow 21 = .ok (.getfield 27, 3) := by decide +kernel
theorem dX1_follow_24 : decode cX1_follow 24 = .ok (.aload_n 0, 1) := by decide +kernel
theorem dX1_follow_25 : decode cX1_follow 25 = .ok (.getfield 64, 3) := by decide +kernel
theorem dX1_follow_28 : decode cX1_follow 28 = .ok (.iconst 0, 1) := by decide +kernel
theorem dX1_follow_29 : decode cX1_follow 29 = .ok (.iastore, 1) := by decide +kernel
theorem dX1_follow_30 : decode cX1_follow 30 = .ok (.iload_n 1, 1) := by decide +kernel
theorem dX1_follow_31 : decode cX1_follow 31 = .ok (.istore_n 2, 1) := by decide +kernel
theorem dX1_follow_32 : decode cX1_follow 32 = .ok (.iconst 0, 1) := by decide +kernel
theorem dX1_follow_33 : decode cX1_follow 33 = .ok (.istore_n 3, 1) := by decide +kernel
theorem dX1_follow_34 : decode cX1_follow 34 = .ok (.iload_n 3, 1) := by decide +kernel
theorem dX1_follow_35 : decode cX1_follow 35 = .ok (.sipush 144, 3) := by decide +kernel
theorem dX1_follow_38 : decode cX1_follow 38 = .ok (.if_icmp .ge 74, 3) := by decide +kernel
theorem dX1_follow_41 : decode cX1_follow 41 = .ok (.iload_n 2, 1) := by decide +kernel
theorem dX1_follow_42 : decode cX1_follow 42 = .ok (.iconst (-1), 1) := by decide +kernel
theorem dX1_follow_43 : decode cX1_follow 43 = .ok (.if_icmp .eq 69, 3) := by decide +kernel
theorem dX1_follow_46 : decode cX1_follow 46 = .ok (.aload_n 0, 1) := by decide +kernel
theorem dX1_follow_47 : decode cX1_follow 47 = .ok (.getfield 18, 3) := by decide +kernel
theorem dX1_follow_50 : decode cX1_follow 50 = .ok (.iload_n 2, 1) := by decide +kernel
theorem dX1_follow_51 : decode cX1_follow 51 = .ok (.iaload, 1) := by decide +kernel
theorem dX1_follow_52 : decode cX1_follow 52 = .ok (.iconst (-1), 1) := by decide +kernel
theorem dX1_follow_53 : decode cX1_follow 53 = .ok (.if_icmp .ne 59, 3) := by decide +kernel
theorem dX1_follow_56 : decode cX1_follow 56 = .ok (.aload_n 0, 1) := by decide +kernel
theorem dX1_follow_57 : decode cX1_follow 57 = .ok (.getfield 18, 3) := by decide +kernel
theorem dX1_follow_60 : decode cX1_follow 60 = .ok (.iload_n 2, 1) := by decide +kernel
theorem dX1_follow_61 : decode cX1_follow 61 = .ok (.aload_n 0, 1) := by decide +kernel
theorem dX1_follow_62 : decode cX1_follow 62 = .ok (.getfield 64, 3) := by decide +kernel
theorem dX1_follow_65 : decode cX1_follow 65 = .ok (.iastore, 1) := by decide +kernel
theorem dX1_follow_66 : decode cX1_follow 66 = .ok (.aload_n 0, 1) := by decide +kernel
theorem dX1_follow_67 : decode cX1_follow 67 = .ok (.getfield 24, 3) := by decide +kernel
theorem dX1_follow_70 : decode cX1_follow 70 = .ok (.aload_n 0, 1) := by decide +kernel
theorem dX1_follow_71 : decode cX1_follow 71 = .ok (.getfield 64, 3) := by decide +kernel
theorem dX1_follow_74 : decode cX1_follow 74 = .ok (.dup2, 1) := by decide +kernel
theorem dX1_follow_75 : decode cX1_follow 75 = .ok (.iaload, 1) := by decide +kernel
theorem dX1_follow_76 : decode cX1_follow 76 = .ok (.iconst 1, 1) := by decide +kernel
theorem dX1_follow_77 : decode cX1_follow 77 = .ok (.iadd, 1) := by decide +kernel
theorem dX1_follow_78 : decode cX1_follow 78 = .ok (.iastore, 1) := by decide +kernel
theorem dX1_follow_79 : decode cX1_follow 79 = .ok (.aload_n 0, 1) := by decide +kernel
theorem dX1_follow_80 : decode cX1_follow 80 = .ok (.getfield 27, 3) := by decide +kernel
theorem dX1_follow_83 : decode cX1_follow 83 = .ok (.aload_n 0, 1) := by decide +kernel
theorem dX1_follow_84 : decode cX1_follow 84 = .ok (.getfield 64, 3) := by decide +kernel
theorem dX1_follow_87 : decode cX1_follow 87 = .ok (.dup2, 1) := by decide +kernel
theorem dX1_follow_88 : decode cX1_follow 88 = .ok (.iaload, 1) := by decide +kernel
theorem dX1_follow_89 : decode cX1_follow 89 = .ok (.aload_n 0, 1) := by decide +kernel
theorem dX1_follow_90 : decode cX1_follow 90 = .ok (.getfield 60, 3) := by decide +kernel
theorem dX1_follow_93 : decode cX1_follow 93 = .ok (.iload_n 2, 1) := by decide +kernel
theorem dX1_follow_94 : decode cX1_follow 94 = .ok (.invokevirtual 79, 3) := by decide +kernel
theorem dX1_follow_97 : decode cX1_follow 97 = .ok (.iadd, 1) := by decide +kernel
theorem dX1_follow_98 : decode cX1_follow 98 = .ok (.iastore, 1) := by decide +kernel
theorem dX1_follow_99 : decode cX1_follow 99 = .ok (.aload_n 0, 1) := by decide +kernel
theorem dX1_follow_100 : decode cX1_follow 100 = .ok (.getfield 15, 3) := by decide +kernel
theorem dX1_follow_103 : decode cX1_follow 103 = .ok (.iload_n 2, 1) := by decide +kernel
theorem dX1_follow_104 : decode cX1_follow 104 = .ok (.iaload, 1) := by decide +kernel
theorem dX1_follow_105 : decode cX1_follow 105 = .ok (.istore_n 2, 1) := by decide +kernel
theorem dX1_follow_106 : decode cX1_follow 106 = .ok (.iinc 3 1, 3) := by decide +kernel
theorem dX1_follow_109 : decode cX1_follow 109 = .ok (.goto (-75), 3) := by decide +kernel
theorem dX1_follow_112 : decode cX1_follow 112 = .ok (.aload_n 0, 1) := by decide +kernel
theorem dX1_follow_113 : decode cX1_follow 113 = .ok (.dup, 1) := by decide +kernel
theorem dX1_follow_114 : decode cX1_follow 114 = .ok (.getfield 64, 3) := by decide +kernel
theorem dX1_follow_117 : decode cX1_follow 117 = .ok (.iconst 1, 1) := by decide +kernel
theorem dX1_follow_118 : decode cX1_follow 118 = .ok (.iadd, 1) := by decide +kernel
theorem dX1_follow_119 : decode cX1_follow 119 = .ok (.putfield 64, 3) := by decide +kernel
theorem dX1_follow_122 : decode cX1_follow 122 = .ok (.return_, 1) := by decide +kernel
theorem dX1_ballOf_0 : decode cX1_ballOf 0 = .ok (.iload_n 1, 1) := by decide +kernel
theorem dX1_ballOf_1 : decode cX1_ballOf 1 = .ok (.istore_n 3, 1) := by decide +kernel
theorem dX1_ballOf_2 : decode cX1_ballOf 2 = .ok (.iload_n 2, 1) := by decide +kernel
theorem dX1_ballOf_3 : decode cX1_ballOf 3 = .ok (.istore 4, 2) := by decide +kernel
theorem dX1_ballOf_5 : decode cX1_ballOf 5 = .ok (.iconst 0, 1) := by decide +kernel
theorem dX1_ballOf_6 : decode cX1_ballOf 6 = .ok (.istore 5, 2) := by decide +kernel
theorem dX1_ballOf_8 : decode cX1_ballOf 8 = .ok (.iload 5, 2) := by decide +kernel
theorem dX1_ballOf_10 : decode cX1_ballOf 10 = .ok (.sipush 999, 3) := by decide +kernel
theorem dX1_ballOf_13 : decode cX1_ballOf 13 = .ok (.if_icmp .gt 45, 3) := by decide +kernel
theorem dX1_ballOf_16 : decode cX1_ballOf 16 = .ok (.iload 4, 2) := by decide +kernel
theorem dX1_ballOf_18 : decode cX1_ballOf 18 = .ok (.ifCond .lt 40, 3) := by decide +kernel
theorem dX1_ballOf_21 : decode cX1_ballOf 21 = .ok (.aload_n 0, 1) := by decide +kernel
theorem dX1_ballOf_22 : decode cX1_ballOf 22 = .ok (.iload_n 3, 1) := by decide +kernel
theorem dX1_ballOf_23 : decode cX1_ballOf 23 = .ok (.iload 4, 2) := by decide +kernel
theorem dX1_ballOf_25 : decode cX1_ballOf 25 = .ok (.invokevirtual 85, 3) := by decide +kernel
theorem dX1_ballOf_28 : decode cX1_ballOf 28 = .ok (.ifCond .ne 30, 3) := by decide +kernel
theorem dX1_ballOf_31 : decode cX1_ballOf 31 = .ok (.aload_n 0, 1) := by decide +kernel
theorem dX1_ballOf_32 : decode cX1_ballOf 32 = .ok (.getfield 15, 3) := by decide +kernel
theorem dX1_ballOf_35 : decode cX1_ballOf 35 = .ok (.iload 4, 2) := by decide +kernel
theorem dX1_ballOf_37 : decode cX1_ballOf 37 = .ok (.iaload, 1) := by decide +kernel
theorem dX1_ballOf_38 : decode cX1_ballOf 38 = .ok (.istore 4, 2) := by decide +kernel
theorem dX1_ballOf_40 : decode cX1_ballOf 40 = .ok (.iload_n 3, 1) := by decide +kernel
theorem dX1_ballOf_41 : decode cX1_ballOf 41 = .ok (.aload_n 0, 1) := by decide +kernel
theorem dX1_ballOf_42 : decode cX1_ballOf 42 = .ok (.getfield 60, 3) := by decide +kernel
theorem dX1_ballOf_45 : decode cX1_ballOf 45 = .ok (.iload 4, 2) := by decide +kernel
theorem dX1_ballOf_47 : decode cX1_ballOf 47 = .ok (.invokevirtual 79, 3) := by decide +kernel
theorem dX1_ballOf_50 : decode cX1_ballOf 50 = .ok (.isub, 1) := by decide +kernel
theorem dX1_ballOf_51 : decode cX1_ballOf 51 = .ok (.istore_n 3, 1) := by decide +kernel
theorem dX1_ballOf_52 : decode cX1_ballOf 52 = .ok (.iinc 5 1, 3) := by decide +kernel
theorem dX1_ballOf_55 : decode cX1_ballOf 55 = .ok (.goto (-47), 3) := by decide +kernel
theorem dX1_ballOf_58 : decode cX1_ballOf 58 = .ok (.iconst 0, 1) := by decide +kernel
theorem dX1_ballOf_59 : decode cX1_ballOf 59 = .ok (.istore 5, 2) := by decide +kernel
theorem dX1_ballOf_61 : decode cX1_ballOf 61 = .ok (.iconst 0, 1) := by decide +kernel
theorem dX1_ballOf_62 : decode cX1_ballOf 62 = .ok (.istore 6, 2) := by decide +kernel
theorem dX1_ballOf_64 : decode cX1_ballOf 64 = .ok (.iload 6, 2) := by decide +kernel
theorem dX1_ballOf_66 : decode cX1_ballOf 66 = .ok (.iload_n 3, 1) := by decide +kernel
theorem dX1_ballOf_67 : decode cX1_ballOf 67 = .ok (.if_icmp .gt 82, 3) := by decide +kernel
theorem dX1_ballOf_70 : decode cX1_ballOf 70 = .ok (.aload_n 0, 1) := by decide +kernel
theorem dX1_ballOf_71 : decode cX1_ballOf 71 = .ok (.getfield 60, 3) := by decide +kernel
theorem dX1_ballOf_74 : decode cX1_ballOf 74 = .ok (.iload 6, 2) := by decide +kernel
theorem dX1_ballOf_76 : decode cX1_ballOf 76 = .ok (.invokevirtual 89, 3) := by decide +kernel
theorem dX1_ballOf_79 : decode cX1_ballOf 79 = .ok (.aload_n 0, 1) := by decide +kernel
theorem dX1_ballOf_80 : decode cX1_ballOf 80 = .ok (.getfield 60, 3) := by decide +kernel
theorem dX1_ballOf_83 : decode cX1_ballOf 83 = .ok (.getfield 82, 3) := by decide +kernel
theorem dX1_ballOf_86 : decode cX1_ballOf 86 = .ok (.imul, 1) := by decide +kernel
theorem dX1_ballOf_87 : decode cX1_ballOf 87 = .ok (.istore 7, 2) := by decide +kernel
theorem dX1_ballOf_89 : decode cX1_ballOf 89 = .ok (.iload 6, 2) := by decide +kernel
theorem dX1_ballOf_91 : decode cX1_ballOf 91 = .ok (.iload_n 3, 1) := by decide +kernel
theorem dX1_ballOf_92 : decode cX1_ballOf 92 = .ok (.if_icmp .ge 16, 3) := by decide +kernel
theorem dX1_ballOf_95 : decode cX1_ballOf 95 = .ok (.iload 7, 2) := by decide +kernel
theorem dX1_ballOf_97 : decode cX1_ballOf 97 = .ok (.aload_n 0, 1) := by decide +kernel
theorem dX1_ballOf_98 : decode cX1_ballOf 98 = .ok (.getfield 60, 3) := by decide +kernel
theorem dX1_ballOf_101 : decode cX1_ballOf 101 = .ok (.getfield 82, 3) := by decide +kernel
theorem dX1_ballOf_104 : decode cX1_ballOf 104 = .ok (.iadd, 1) := by decide +kernel
theorem dX1_ballOf_105 : decode cX1_ballOf 105 = .ok (.goto 5, 3) := by decide +kernel
theorem dX1_ballOf_108 : decode cX1_ballOf 108 = .ok (.iload 4, 2) := by decide +kernel
theorem dX1_ballOf_110 : decode cX1_ballOf 110 = .ok (.istore 8, 2) := by decide +kernel
theorem dX1_ballOf_112 : decode cX1_ballOf 112 = .ok (.iload 7, 2) := by decide +kernel
theorem dX1_ballOf_114 : decode cX1_ballOf 114 = .ok (.istore 9, 2) := by decide +kernel
theorem dX1_ballOf_116 : decode cX1_ballOf 116 = .ok (.iload 9, 2) := by decide +kernel
theorem dX1_ballOf_118 : decode cX1_ballOf 118 = .ok (.iload 8, 2) := by decide +kernel
theorem dX1_ballOf_120 : decode cX1_ballOf 120 = .ok (.if_icmp .ge 23, 3) := by decide +kernel
theorem dX1_ballOf_123 : decode cX1_ballOf 123 = .ok (.aload_n 0, 1) := by decide +kernel
theorem dX1_ballOf_124 : decode cX1_ballOf 124 = .ok (.iload 6, 2) := by decide +kernel
theorem dX1_ballOf_126 : decode cX1_ballOf 126 = .ok (.iload 9, 2) := by decide +kernel
theorem dX1_ballOf_128 : decode cX1_ballOf 128 = .ok (.invokevirtual 85, 3) := by decide +kernel
theorem dX1_ballOf_131 : decode cX1_ballOf 131 = .ok (.ifCond .eq 6, 3) := by decide +kernel
theorem dX1_ballOf_134 : decode cX1_ballOf 134 = .ok (.iinc 5 1, 3) := by decide +kernel
theorem dX1_ballOf_137 : decode cX1_ballOf 137 = .ok (.iinc 9 1, 3) := by decide +kernel
theorem dX1_ballOf_140 : decode cX1_ballOf 140 = .ok (.goto (-24), 3) := by decide +kernel
theorem dX1_ballOf_143 : decode cX1_ballOf 143 = .ok (.iinc 6 1, 3) := by decide +kernel
theorem dX1_ballOf_146 : decode cX1_ballOf 146 = .ok (.goto (-82), 3) := by decide +kernel
theorem dX1_ballOf_149 : decode cX1_ballOf 149 = .ok (.iload 5, 2) := by decide +kernel
theorem dX1_ballOf_151 : decode cX1_ballOf 151 = .ok (.ireturn, 1) := by decide +kernel
theorem dX1_isStart_0 : decode cX1_isStart 0 = .ok (.aload_n 0, 1) := by decide +kernel
theorem dX1_isStart_1 : decode cX1_isStart 1 = .ok (.getfield 60, 3) := by decide +kernel
theorem dX1_isStart_4 : decode cX1_isStart 4 = .ok (.iload_n 2, 1) := by decide +kernel
theorem dX1_isStart_5 : decode cX1_isStart 5 = .ok (.invokevirtual 48, 3) := by decide +kernel
theorem dX1_isStart_8 : decode cX1_isStart 8 = .ok (.ifCond .eq 24, 3) := by decide +kernel
theorem dX1_isStart_11 : decode cX1_isStart 11 = .ok (.aload_n 0, 1) := by decide +kernel
theorem dX1_isStart_12 : decode cX1_isStart 12 = .ok (.getfield 60, 3) := by decide +kernel
theorem dX1_isStart_15 : decode cX1_isStart 15 = .ok (.aload_n 0, 1) := by decide +kernel
theorem dX1_isStart_16 : decode cX1_isStart 16 = .ok (.getfield 15, 3) := by decide +kernel
theorem dX1_isStart_19 : decode cX1_isStart 19 = .ok (.iload_n 2, 1) := by decide +kernel
theorem dX1_isStart_20 : decode cX1_isStart 20 = .ok (.iaload, 1) := by decide +kernel
theorem dX1_isStart_21 : decode cX1_isStart 21 = .ok (.invokevirtual 79, 3) := by decide +kernel
theorem dX1_isStart_24 : decode cX1_isStart 24 = .ok (.iload_n 1, 1) := by decide +kernel
theorem dX1_isStart_25 : decode cX1_isStart 25 = .ok (.if_icmp .le 7, 3) := by decide +kernel
theorem dX1_isStart_28 : decode cX1_isStart 28 = .ok (.iconst 1, 1) := by decide +kernel
theorem dX1_isStart_29 : decode cX1_isStart 29 = .ok (.goto 4, 3) := by decide +kernel
theorem dX1_isStart_32 : decode cX1_isStart 32 = .ok (.iconst 0, 1) := by decide +kernel
theorem dX1_isStart_33 : decode cX1_isStart 33 = .ok (.ireturn, 1) := by decide +kernel
theorem dX2_fill_0 : decode cX2_fill 0 = .ok (.aload_n 1, 1) := by decide +kernel
theorem dX2_fill_1 : decode cX2_fill 1 = .ok (.getfield 18, 3) := by decide +kernel
theorem dX2_fill_4 : decode cX2_fill 4 = .ok (.iconst 1, 1) := by decide +kernel
theorem dX2_fill_5 : decode cX2_fill 5 = .ok (.if_icmp .lt 22, 3) := by decide +kernel
theorem dX2_fill_8 : decode cX2_fill 8 = .ok (.aload_n 1, 1) := by decide +kernel
theorem dX2_fill_9 : decode cX2_fill 9 = .ok (.getfield 18, 3) := by decide +kernel
theorem dX2_fill_12 : decode cX2_fill 12 = .ok (.bipush 7, 2) := by decide +kernel
theorem dX2_fill_14 : decode cX2_fill 14 = .ok (.if_icmp .gt 13, 3) := by decide +kernel
theorem dX2_fill_17 : decode cX2_fill 17 = .ok (.iload_n 2, 1) := by decide +kernel
theorem dX2_fill_18 : decode cX2_fill 18 = .ok (.ifCond .lt 9, 3) := by decide +kernel
theorem dX2_fill_21 : decode cX2_fill 21 = .ok (.iload_n 2, 1) := by decide +kernel
theorem dX2_fill_22 : decode cX2_fill 22 = .ok (.bipush 9, 2) := by decide +kernel
theorem dX2_fill_24 : decode cX2_fill 24 = .ok (.if_icmp .le 5, 3) := by decide +kernel
theorem dX2_fill_27 : decode cX2_fill 27 = .ok (.iconst 0, 1) := by decide +kernel
theorem dX2_fill_28 : decode cX2_fill 28 = .ok (.ireturn, 1) := by decide +kernel
theorem dX2_fill_29 : decode cX2_fill 29 = .ok (.iload_n 2, 1) := by decide +kernel
theorem dX2_fill_30 : decode cX2_fill 30 = .ok (.aload_n 1, 1) := by decide +kernel
theorem dX2_fill_31 : decode cX2_fill 31 = .ok (.getfield 18, 3) := by decide +kernel
theorem dX2_fill_34 : decode cX2_fill 34 = .ok (.imul, 1) := by decide +kernel
theorem dX2_fill_35 : decode cX2_fill 35 = .ok (.istore_n 3, 1) := by decide +kernel
theorem dX2_fill_36 : decode cX2_fill 36 = .ok (.iconst 1, 1) := by decide +kernel
theorem dX2_fill_37 : decode cX2_fill 37 = .ok (.aload_n 1, 1) := by decide +kernel
theorem dX2_fill_38 : decode cX2_fill 38 = .ok (.getfield 18, 3) := by decide +kernel
theorem dX2_fill_41 : decode cX2_fill 41 = .ok (.ishl, 1) := by decide +kernel
theorem dX2_fill_42 : decode cX2_fill 42 = .ok (.iconst 1, 1) := by decide +kernel
theorem dX2_fill_43 : decode cX2_fill 43 = .ok (.isub, 1) := by decide +kernel
theorem dX2_fill_44 : decode cX2_fill 44 = .ok (.istore 4, 2) := by decide +kernel
theorem dX2_fill_46 : decode cX2_fill 46 = .ok (.aload_n 0, 1) := by decide +kernel
theorem dX2_fill_47 : decode cX2_fill 47 = .ok (.getfield 11, 3) := by decide +kernel
theorem dX2_fill_50 : decode cX2_fill 50 = .ok (.iconst 0, 1) := by decide +kernel
theorem dX2_fill_51 : decode cX2_fill 51 = .ok (.iload 4, 2) := by decide +kernel
theorem dX2_fill_53 : decode cX2_fill 53 = .ok (.iconst 1, 1) := by decide +kernel
theorem dX2_fill_54 : decode cX2_fill 54 = .ok (.iadd, 1) := by decide +kernel
theorem dX2_fill_55 : decode cX2_fill 55 = .ok (.bipush 64, 2) := by decide +kernel
theorem dX2_fill_57 : decode cX2_fill 57 = .ok (.imul, 1) := by decide +kernel
theorem dX2_fill_58 : decode cX2_fill 58 = .ok (.iconst 0, 1) := by decide +kernel
theorem dX2_fill_59 : decode cX2_fill 59 = .ok (.invokestatic 24, 3) := by decide +kernel
theorem dX2_fill_62 : decode cX2_fill 62 = .ok (.aload_n 0, 1) := by decide +kernel
theorem dX2_fill_63 : decode cX2_fill 63 = .ok (.getfield 11, 3) := by decide +kernel
theorem dX2_fill_66 : decode cX2_fill 66 = .ok (.iload 4, 2) := by decide +kernel
theorem dX2_fill_68 : decode cX2_fill 68 = .ok (.bipush 64, 2) := by decide +kernel
theorem dX2_fill_70 : decode cX2_fill 70 = .ok (.imul, 1) := by decide +kernel
theorem dX2_fill_71 : decode cX2_fill 71 = .ok (.iconst 1, 1) := by decide +kernel
theorem dX2_fill_72 : decode cX2_fill 72 = .ok (.iastore, 1) := by decide +kernel
theorem dX2_fill_73 : decode cX2_fill 73 = .ok (.iload 4, 2) := by decide +kernel
theorem dX2_fill_75 : decode cX2_fill 75 = .ok (.iconst 1, 1) := by decide +kernel
theorem dX2_fill_76 : decode cX2_fill 76 = .ok (.isub, 1) := by decide +kernel
theorem dX2_fill_77 : decode cX2_fill 77 = .ok (.istore 5, 2) := by decide +kernel
theorem dX2_fill_79 : decode cX2_fill 79 = .ok (.iload 5, 2) := by decide +kernel
theorem dX2_fill_81 : decode cX2_fill 81 = .ok (.ifCond .lt 17, 3) := by decide +kernel
theorem dX2_fill_84 : decode cX2_fill 84 = .ok (.aload_n 0, 1) := by decide +kernel
theorem dX2_fill_85 : decode cX2_fill 85 = .ok (.aload_n 1, 1) := by decide +kernel
theorem dX2_fill_86 : decode cX2_fill 86 = .ok (.iload 5, 2) := by decide +kernel
theorem dX2_fill_88 : decode cX2_fill 88 = .ok (.iload_n 3, 1) := by decide +kernel
theorem dX2_fill_89 : decode cX2_fill 89 = .ok (.invokevirtual 30, 3) := by decide +kernel
theorem dX2_fill_92 : decode cX2_fill 92 = .ok (.iinc 5 (-1), 3) := by decide +kernel
theorem dX2_fill_95 : decode cX2_fill 95 = .ok (.goto (-16), 3) := by decide +kernel
theorem dX2_fill_98 : decode cX2_fill 98 = .ok (.aload_n 0, 1) := by decide +kernel
theorem dX2_fill_99 : decode cX2_fill 99 = .ok (.getfield 11, 3) := by decide +kernel
theorem dX2_fill_102 : decode cX2_fill 102 = .ok (.iload_n 3, 1) := by decide +kernel
theorem dX2_fill_103 : decode cX2_fill 103 = .ok (.iaload, 1) := by decide +kernel
theorem dX2_fill_104 : decode cX2_fill 104 = .ok (.ifCond .le 9, 3) := by decide +kernel
theorem dX2_fill_107 : decode cX2_fill 107 = .ok (.aload_n 0, 1) := by decide +kernel
theorem dX2_fill_108 : decode cX2_fill 108 = .ok (.aload_n 1, 1) := by decide +kernel
theorem dX2_fill_109 : decode cX2_fill 109 = .ok (.iload_n 3, 1) := by decide +kernel
theorem dX2_fill_110 : decode cX2_fill 110 = .ok (.invokevirtual 34, 3) := by decide +kernel
theorem dX2_fill_113 : decode cX2_fill 113 = .ok (.aload_n 0, 1) := by decide +kernel
theorem dX2_fill_114 : decode cX2_fill 114 = .ok (.getfield 11, 3) := by decide +kernel
theorem dX2_fill_117 : decode cX2_fill 117 = .ok (.iload_n 3, 1) := by decide +kernel
theorem dX2_fill_118 : decode cX2_fill 118 = .ok (.iaload, 1) := by decide +kernel
theorem dX2_fill_119 : decode cX2_fill 119 = .ok (.ireturn, 1) := by decide +kernel
theorem dX2_countFrom_0 : decode cX2_countFrom 0 = .ok (.iload_n 2, 1) := by decide +kernel
theorem dX2_countFrom_1 : decode cX2_countFrom 1 = .ok (.invokestatic 38, 3) := by decide +kernel
theorem dX2_countFrom_4 : decode cX2_countFrom 4 = .ok (.istore 4, 2) := by decide +kernel
theorem dX2_countFrom_6 : decode cX2_countFrom 6 = .ok (.iload_n 3, 1) := by decide +kernel
theorem dX2_countFrom_7 : decode cX2_countFrom 7 = .ok (.aload_n 1, 1) := by decide +kernel
theorem dX2_countFrom_8 : decode cX2_countFrom 8 = .ok (.getfield 18, 3) := by decide +kernel
theorem dX2_countFrom_11 : decode cX2_countFrom 11 = .ok (.iload 4, 2) := by decide +kernel
theorem dX2_countFrom_13 : decode cX2_countFrom 13 = .ok (.isub, 1) := by decide +kernel
theorem dX2_countFrom_14 : decode cX2_countFrom 14 = .ok (.bipush 9, 2) := by decide +kernel
theorem dX2_countFrom_16 : decode cX2_countFrom 16 = .ok (.imul, 1) := by decide +kernel
theorem dX2_countFrom_17 : decode cX2_countFrom 17 = .ok (.invokestatic 44, 3) := by decide +kernel
theorem dX2_countFrom_20 : decode cX2_countFrom 20 = .ok (.istore 5, 2) := by decide +kernel
theorem dX2_countFrom_22 : decode cX2_countFrom 22 = .ok (.iconst 0, 1) := by decide +kernel
theorem dX2_countFrom_23 : decode cX2_countFrom 23 = .ok (.istore 6, 2) := by decide +kernel
theorem dX2_countFrom_25 : decode cX2_countFrom 25 = .ok (.iload 6, 2) := by decide +kernel
theorem dX2_countFrom_27 : decode cX2_countFrom 27 = .ok (.bipush 9, 2) := by decide +kernel
theorem dX2_countFrom_29 : decode cX2_countFrom 29 = .ok (.if_icmp .gt 77, 3) := by decide +kernel
theorem dX2_countFrom_32 : decode cX2_countFrom 32 = .ok (.aload_n 1, 1) := by decide +kernel
theorem dX2_countFrom_33 : decode cX2_countFrom 33 = .ok (.iload 4, 2) := by decide +kernel
theorem dX2_countFrom_35 : decode cX2_countFrom 35 = .ok (.iload 6, 2) := by decide +kernel
theorem dX2_countFrom_37 : decode cX2_countFrom 37 = .ok (.iload_n 2, 1) := by decide +kernel
theorem dX2_countFrom_38 : decode cX2_countFrom 38 = .ok (.invokestatic 50, 3) := by decide +kernel
theorem dX2_countFrom_41 : decode cX2_countFrom 41 = .ok (.istore 7, 2) := by decide +kernel
theorem dX2_countFrom_43 : decode cX2_countFrom 43 = .ok (.iload 7, 2) := by decide +kernel
theorem dX2_countFrom_45 : decode cX2_countFrom 45 = .ok (.iconst (-1), 1) := by decide +kernel
theorem dX2_countFrom_46 : decode cX2_countFrom 46 = .ok (.if_icmp .ne 6, 3) := by decide +kernel
theorem dX2_countFrom_49 : decode cX2_countFrom 49 = .ok (.goto 51, 3) := by decide +kernel
theorem dX2_countFrom_52 : decode cX2_countFrom 52 = .ok (.iload 6, 2) := by decide +kernel
theorem dX2_countFrom_54 : decode cX2_countFrom 54 = .ok (.istore 8, 2) := by decide +kernel
theorem dX2_countFrom_56 : decode cX2_countFrom 56 = .ok (.iload 8, 2) := by decide +kernel
theorem dX2_countFrom_58 : decode cX2_countFrom 58 = .ok (.iload 5, 2) := by decide +kernel
theorem dX2_countFrom_60 : decode cX2_countFrom 60 = .ok (.if_icmp .gt 40, 3) := by decide +kernel
theorem dX2_countFrom_63 : decode cX2_countFrom 63 = .ok (.aload_n 0, 1) := by decide +kernel
theorem dX2_countFrom_64 : decode cX2_countFrom 64 = .ok (.getfield 11, 3) := by decide +kernel
theorem dX2_countFrom_67 : decode cX2_countFrom 67 = .ok (.iload_n 2, 1) := by decide +kernel
theorem dX2_countFrom_68 : decode cX2_countFrom 68 = .ok (.bipush 64, 2) := by decide +kernel
theorem dX2_countFrom_70 : decode cX2_countFrom 70 = .ok (.imul, 1) := by decide +kernel
theorem dX2_countFrom_71 : decode cX2_countFrom 71 = .ok (.iload 8, 2) := by decide +kernel
theorem dX2_countFrom_73 : decode cX2_countFrom 73 = .ok (.iadd, 1) := by decide +kernel
theorem dX2_countFrom_74 : decode cX2_countFrom 74 = .ok (.dup2, 1) := by decide +kernel
theorem dX2_countFrom_75 : decode cX2_countFrom 75 = .ok (.iaload, 1) := by decide +kernel
theorem dX2_countFrom_76 : decode cX2_countFrom 76 = .ok (.aload_n 0, 1) := by decide +kernel
theorem dX2_countFrom_77 : decode cX2_countFrom 77 = .ok (.getfield 11, 3) := by decide +kernel
theorem dX2_countFrom_80 : decode cX2_countFrom 80 = .ok (.iload 7, 2) := by decide +kernel
theorem dX2_countFrom_82 : decode cX2_countFrom 82 = .ok (.bipush 64, 2) := by decide +kernel
theorem dX2_countFrom_84 : decode cX2_countFrom 84 = .ok (.imul, 1) := by decide +kernel
theorem dX2_countFrom_85 : decode cX2_countFrom 85 = .ok (.iload 8, 2) := by decide +kernel
theorem dX2_countFrom_87 : decode cX2_countFrom 87 = .ok (.iadd, 1) := by decide +kernel
theorem dX2_countFrom_88 : decode cX2_countFrom 88 = .ok (.iload 6, 2) := by decide +kernel
theorem dX2_countFrom_90 : decode cX2_countFrom 90 = .ok (.isub, 1) := by decide +kernel
theorem dX2_countFrom_91 : decode cX2_countFrom 91 = .ok (.iaload, 1) := by decide +kernel
theorem dX2_countFrom_92 : decode cX2_countFrom 92 = .ok (.iadd, 1) := by decide +kernel
theorem dX2_countFrom_93 : decode cX2_countFrom 93 = .ok (.iastore, 1) := by decide +kernel
theorem dX2_countFrom_94 : decode cX2_countFrom 94 = .ok (.iinc 8 1, 3) := by decide +kernel
theorem dX2_countFrom_97 : decode cX2_countFrom 97 = .ok (.goto (-41), 3) := by decide +kernel
theorem dX2_countFrom_100 : decode cX2_countFrom 100 = .ok (.iinc 6 1, 3) := by decide +kernel
theorem dX2_countFrom_103 : decode cX2_countFrom 103 = .ok (.goto (-78), 3) := by decide +kernel
theorem dX2_countFrom_106 : decode cX2_countFrom 106 = .ok (.return_, 1) := by decide +kernel
theorem dX2_choose_0 : decode cX2_choose 0 = .ok (.iconst 0, 1) := by decide +kernel
theorem dX2_choose_1 : decode cX2_choose 1 = .ok (.istore_n 3, 1) := by decide +kernel
theorem dX2_choose_2 : decode cX2_choose 2 = .ok (.iload_n 2, 1) := by decide +kernel
theorem dX2_choose_3 : decode cX2_choose 3 = .ok (.istore 4, 2) := by decide +kernel
theorem dX2_choose_5 : decode cX2_choose 5 = .ok (.iconst 0, 1) := by decide +kernel
theorem dX2_choose_6 : decode cX2_choose 6 = .ok (.istore 5, 2) := by decide +kernel
theorem dX2_choose_8 : decode cX2_choose 8 = .ok (.iload 5, 2) := by decide +kernel
theorem dX2_choose_10 : decode cX2_choose 10 = .ok (.aload_n 1, 1) := by decide +kernel
theorem dX2_choose_11 : decode cX2_choose 11 = .ok (.getfield 18, 3) := by decide +kernel
theorem dX2_choose_14 : decode cX2_choose 14 = .ok (.if_icmp .ge 58, 3) := by decide +kernel
theorem dX2_choose_17 : decode cX2_choose 17 = .ok (.iload_n 3, 1) := by decide +kernel
theorem dX2_choose_18 : decode cX2_choose 18 = .ok (.iconst (-1), 1) := by decide +kernel
theorem dX2_choose_19 : decode cX2_choose 19 = .ok (.if_icmp .eq 53, 3) := by decide +kernel
theorem dX2_choose_22 : decode cX2_choose 22 = .ok (.aload_n 0, 1) := by decide +kernel
theorem dX2_choose_23 : decode cX2_choose 23 = .ok (.getfield 15, 3) := by decide +kernel
theorem dX2_choose_26 : decode cX2_choose 26 = .ok (.iload 5, 2) := by decide +kernel
theorem dX2_choose_28 : decode cX2_choose 28 = .ok (.aload_n 0, 1) := by decide +kernel
theorem dX2_choose_29 : decode cX2_choose 29 = .ok (.aload_n 1, 1) := by decide +kernel
theorem dX2_choose_30 : decode cX2_choose 30 = .ok (.iload 5, 2) := by decide +kernel
theorem dX2_choose_32 : decode cX2_choose 32 = .ok (.iload_n 3, 1) := by decide +kernel
theorem dX2_choose_33 : decode cX2_choose 33 = .ok (.iload 4, 2) := by decide +kernel
theorem dX2_choose_35 : decode cX2_choose 35 = .ok (.invokevirtual 54, 3) := by decide +kernel
theorem dX2_choose_38 : decode cX2_choose 38 = .ok (.iastore, 1) := by decide +kernel
theorem dX2_choose_39 : decode cX2_choose 39 = .ok (.iload 4, 2) := by decide +kernel
theorem dX2_choose_41 : decode cX2_choose 41 = .ok (.aload_n 0, 1) := by decide +kernel
theorem dX2_choose_42 : decode cX2_choose 42 = .ok (.getfield 15, 3) := by decide +kernel
theorem dX2_choose_45 : decode cX2_choose 45 = .ok (.iload 5, 2) := by decide +kernel
theorem dX2_choose_47 : decode cX2_choose 47 = .ok (.iaload, 1) := by decide +kernel
theorem dX2_choose_48 : decode cX2_choose 48 = .ok (.isub, 1) := by decide +kernel
theorem dX2_choose_49 : decode cX2_choose 49 = .ok (.istore 4, 2) := by decide +kernel
theorem dX2_choose_51 : decode cX2_choose 51 = .ok (.aload_n 1, 1) := by decide +kernel
theorem dX2_choose_52 : decode cX2_choose 52 = .ok (.iload 5, 2) := by decide +kernel
theorem dX2_choose_54 : decode cX2_choose 54 = .ok (.aload_n 0, 1) := by decide +kernel
theorem dX2_choose_55 : decode cX2_choose 55 = .ok (.getfield 15, 3) := by decide +kernel
theorem dX2_choose_58 : decode cX2_choose 58 = .ok (.iload 5, 2) := by decide +kernel
theorem dX2_choose_60 : decode cX2_choose 60 = .ok (.iaload, 1) := by decide +kernel
theorem dX2_choose_61 : decode cX2_choose 61 = .ok (.iload_n 3, 1) := by decide +kernel
theorem dX2_choose_62 : decode cX2_choose 62 = .ok (.invokestatic 50, 3) := by decide +kernel
theorem dX2_choose_65 : decode cX2_choose 65 = .ok (.istore_n 3, 1) := by decide +kernel
theorem dX2_choose_66 : decode cX2_choose 66 = .ok (.iinc 5 1, 3) := by decide +kernel
theorem dX2_choose_69 : decode cX2_choose 69 = .ok (.goto (-61), 3) := by decide +kernel
theorem dX2_choose_72 : decode cX2_choose 72 = .ok (.return_, 1) := by decide +kernel
theorem dX2_leastThatFits_0 : decode cX2_leastThatFits 0 = .ok (.iconst 0, 1) := by decide +kernel
theorem dX2_leastThatFits_1 : decode cX2_leastThatFits 1 = .ok (.istore 5, 2) := by decide +kernel
theorem dX2_leastThatFits_3 : decode cX2_leastThatFits 3 = .ok (.iload 5, 2) := by decide +kernel
theorem dX2_leastThatFits_5 : decode cX2_leastThatFits 5 = .ok (.bipush 9, 2) := by decide +kernel
theorem dX2_leastThatFits_7 : decode cX2_leastThatFits 7 = .ok (.if_icmp .gt 54, 3) := by decide +kernel
theorem dX2_leastThatFits_10 : decode cX2_leastThatFits 10 = .ok (.iload 5, 2) := by decide +kernel
theorem dX2_leastThatFits_12 : decode cX2_leastThatFits 12 = .ok (.iload 4, 2) := by decide +kernel
theorem dX2_leastThatFits_14 : decode cX2_leastThatFits 14 = .ok (.if_icmp .gt 47, 3) := by decide +kernel
theorem dX2_leastThatFits_17 : decode cX2_leastThatFits 17 = .ok (.aload_n 1, 1) := by decide +kernel
theorem dX2_leastThatFits_18 : decode cX2_leastThatFits 18 = .ok (.iload_n 2, 1) := by decide +kernel
theorem dX2_leastThatFits_19 : decode cX2_leastThatFits 19 = .ok (.iload 5, 2) := by decide +kernel
theorem dX2_leastThatFits_21 : decode cX2_leastThatFits 21 = .ok (.iload_n 3, 1) := by decide +kernel
theorem dX2_leastThatFits_22 : decode cX2_leastThatFits 22 = .ok (.invokestatic 50, 3) := by decide +kernel
theorem dX2_leastThatFits_25 : decode cX2_leastThatFits 25 = .ok (.istore 6, 2) := by decide +kernel
theorem dX2_leastThatFits_27 : decode cX2_leastThatFits 27 = .ok (.iload 6, 2) := by decide +kernel
theorem dX2_leastThatFits_29 : decode cX2_leastThatFits 29 = .ok (.iconst (-1), 1) := by decide +kernel
theorem dX2_leastThatFits_30 : decode cX2_leastThatFits 30 = .ok (.if_icmp .eq 25, 3) := by decide +kernel
theorem dX2_leastThatFits_33 : decode cX2_leastThatFits 33 = .ok (.aload_n 0, 1) := by decide +kernel
theorem dX2_leastThatFits_34 : decode cX2_leastThatFits 34 = .ok (.getfield 11, 3) := by decide +kernel
theorem dX2_leastThatFits_37 : decode cX2_leastThatFits 37 = .ok (.iload 6, 2) := by decide +kernel
theorem dX2_leastThatFits_39 : decode cX2_leastThatFits 39 = .ok (.bipush 64, 2) := by decide +kernel
theorem dX2_leastThatFits_41 : decode cX2_leastThatFits 41 = .ok (.imul, 1) := by decide +kernel
theorem dX2_leastThatFits_42 : decode cX2_leastThatFits 42 = .ok (.iload 4, 2) := by decide +kernel
theorem dX2_leastThatFits_44 : decode cX2_leastThatFits 44 = .ok (.iadd, 1) := by decide +kernel
theorem dX2_leastThatFits_45 : decode cX2_leastThatFits 45 = .ok (.iload 5, 2) := by decide +kernel
theorem dX2_leastThatFits_47 : decode cX2_leastThatFits 47 = .ok (.isub, 1) := by decide +kernel
theorem dX2_leastThatFits_48 : decode cX2_leastThatFits 48 = .ok (.iaload, 1) := by decide +kernel
theorem dX2_leastThatFits_49 : decode cX2_leastThatFits 49 = .ok (.ifCond .le 6, 3) := by decide +kernel
theorem dX2_leastThatFits_52 : decode cX2_leastThatFits 52 = .ok (.iload 5, 2) := by decide +kernel
theorem dX2_leastThatFits_54 : decode cX2_leastThatFits 54 = .ok (.ireturn, 1) := by decide +kernel
theorem dX2_leastThatFits_55 : decode cX2_leastThatFits 55 = .ok (.iinc 5 1, 3) := by decide +kernel
theorem dX2_leastThatFits_58 : decode cX2_leastThatFits 58 = .ok (.goto (-55), 3) := by decide +kernel
theorem dX2_leastThatFits_61 : decode cX2_leastThatFits 61 = .ok (.iconst 0, 1) := by decide +kernel
theorem dX2_leastThatFits_62 : decode cX2_leastThatFits 62 = .ok (.ireturn, 1) := by decide +kernel
theorem dX2_landedAfter_0 : decode cX2_landedAfter 0 = .ok (.aload_n 0, 1) := by decide +kernel
theorem dX2_landedAfter_1 : decode cX2_landedAfter 1 = .ok (.getfield 57, 3) := by decide +kernel
theorem dX2_landedAfter_4 : decode cX2_landedAfter 4 = .ok (.iload_n 1, 1) := by decide +kernel
theorem dX2_landedAfter_5 : decode cX2_landedAfter 5 = .ok (.iaload, 1) := by decide +kernel
theorem dX2_landedAfter_6 : decode cX2_landedAfter 6 = .ok (.istore 4, 2) := by decide +kernel
theorem dX2_landedAfter_8 : decode cX2_landedAfter 8 = .ok (.iconst 1, 1) := by decide +kernel
theorem dX2_landedAfter_9 : decode cX2_landedAfter 9 = .ok (.iload_n 1, 1) := by decide +kernel
theorem dX2_landedAfter_10 : decode cX2_landedAfter 10 = .ok (.iload_n 2, 1) := by decide +kernel
theorem dX2_landedAfter_11 : decode cX2_landedAfter 11 = .ok (.iadd, 1) := by decide +kernel
theorem dX2_landedAfter_12 : decode cX2_landedAfter 12 = .ok (.aload_n 0, 1) := by decide +kernel
theorem dX2_landedAfter_13 : decode cX2_landedAfter 13 = .ok (.getfield 18, 3) := by decide +kernel
theorem dX2_landedAfter_16 : decode cX2_landedAfter 16 = .ok (.irem, 1) := by decide +kernel
theorem dX2_landedAfter_17 : decode cX2_landedAfter 17 = .ok (.ishl, 1) := by decide +kernel
theorem dX2_landedAfter_18 : decode cX2_landedAfter 18 = .ok (.istore 5, 2) := by decide +kernel
theorem dX2_landedAfter_20 : decode cX2_landedAfter 20 = .ok (.iload 4, 2) := by decide +kernel
theorem dX2_landedAfter_22 : decode cX2_landedAfter 22 = .ok (.iconst (-1), 1) := by decide +kernel
theorem dX2_landedAfter_23 : decode cX2_landedAfter 23 = .ok (.if_icmp .eq 9, 3) := by decide +kernel
theorem dX2_landedAfter_26 : decode cX2_landedAfter 26 = .ok (.iload 4, 2) := by decide +kernel
theorem dX2_landedAfter_28 : decode cX2_landedAfter 28 = .ok (.iload_n 2, 1) := by decide +kernel
theorem dX2_landedAfter_29 : decode cX2_landedAfter 29 = .ok (.if_icmp .ne 10, 3) := by decide +kernel
theorem dX2_landedAfter_32 : decode cX2_landedAfter 32 = .ok (.iload_n 3, 1) := by decide +kernel
theorem dX2_landedAfter_33 : decode cX2_landedAfter 33 = .ok (.iload 5, 2) := by decide +kernel
theorem dX2_landedAfter_35 : decode cX2_landedAfter 35 = .ok (.iand, 1) := by decide +kernel
theorem dX2_landedAfter_36 : decode cX2_landedAfter 36 = .ok (.ifCond .eq 7, 3) := by decide +kernel
theorem dX2_landedAfter_39 : decode cX2_landedAfter 39 = .ok (.iconst (-1), 1) := by decide +kernel
theorem dX2_landedAfter_40 : decode cX2_landedAfter 40 = .ok (.goto 7, 3) := by decide +kernel
theorem dX2_landedAfter_43 : decode cX2_landedAfter 43 = .ok (.iload_n 3, 1) := by decide +kernel
theorem dX2_landedAfter_44 : decode cX2_landedAfter 44 = .ok (.iload 5, 2) := by decide +kernel
theorem dX2_landedAfter_46 : decode cX2_landedAfter 46 = .ok (.ior, 1) := by decide +kernel
theorem dX2_landedAfter_47 : decode cX2_landedAfter 47 = .ok (.ireturn, 1) := by decide +kernel
theorem dJ7_rangeCheck_23922_0 : decode cJ7_rangeCheck_23922 0 = .ok (.iload_n 1, 1) := by decide +kernel
theorem dJ7_rangeCheck_23922_1 : decode cJ7_rangeCheck_23922 1 = .ok (.iload_n 2, 1) := by decide +kernel
theorem dJ7_rangeCheck_23922_2 : decode cJ7_rangeCheck_23922 2 = .ok (.if_icmp .le 44, 3) := by decide +kernel
theorem dJ7_rangeCheck_23922_46 : decode cJ7_rangeCheck_23922 46 = .ok (.iload_n 1, 1) := by decide +kernel
theorem dJ7_rangeCheck_23922_47 : decode cJ7_rangeCheck_23922 47 = .ok (.ifCond .ge 12, 3) := by decide +kernel
theorem dJ7_rangeCheck_23922_59 : decode cJ7_rangeCheck_23922 59 = .ok (.iload_n 2, 1) := by decide +kernel
theorem dJ7_rangeCheck_23922_60 : decode cJ7_rangeCheck_23922 60 = .ok (.iload_n 0, 1) := by decide +kernel
theorem dJ7_rangeCheck_23922_61 : decode cJ7_rangeCheck_23922 61 = .ok (.if_icmp .le 12, 3) := by decide +kernel
theorem dJ7_rangeCheck_23922_73 : decode cJ7_rangeCheck_23922 73 = .ok (.return_, 1) := by decide +kernel
theorem dJ7_fill_fda19_0 : decode cJ7_fill_fda19 0 = .ok (.aload_n 0, 1) := by decide +kernel
theorem dJ7_fill_fda19_1 : decode cJ7_fill_fda19 1 = .ok (.arraylength, 1) := by decide +kernel
theorem dJ7_fill_fda19_2 : decode cJ7_fill_fda19 2 = .ok (.iload_n 1, 1) := by decide +kernel
theorem dJ7_fill_fda19_3 : decode cJ7_fill_fda19 3 = .ok (.iload_n 2, 1) := by decide +kernel
theorem dJ7_fill_fda19_4 : decode cJ7_fill_fda19 4 = .ok (.invokestatic 13, 3) := by decide +kernel
theorem dJ7_fill_fda19_7 : decode cJ7_fill_fda19 7 = .ok (.iload_n 1, 1) := by decide +kernel
theorem dJ7_fill_fda19_8 : decode cJ7_fill_fda19 8 = .ok (.istore 4, 2) := by decide +kernel
theorem dJ7_fill_fda19_10 : decode cJ7_fill_fda19 10 = .ok (.iload 4, 2) := by decide +kernel
theorem dJ7_fill_fda19_12 : decode cJ7_fill_fda19 12 = .ok (.iload_n 2, 1) := by decide +kernel
theorem dJ7_fill_fda19_13 : decode cJ7_fill_fda19 13 = .ok (.if_icmp .ge 14, 3) := by decide +kernel
theorem dJ7_fill_fda19_16 : decode cJ7_fill_fda19 16 = .ok (.aload_n 0, 1) := by decide +kernel
theorem dJ7_fill_fda19_17 : decode cJ7_fill_fda19 17 = .ok (.iload 4, 2) := by decide +kernel
theorem dJ7_fill_fda19_19 : decode cJ7_fill_fda19 19 = .ok (.iload_n 3, 1) := by decide +kernel
theorem dJ7_fill_fda19_20 : decode cJ7_fill_fda19 20 = .ok (.iastore, 1) := by decide +kernel
theorem dJ7_fill_fda19_21 : decode cJ7_fill_fda19 21 = .ok (.iinc 4 1, 3) := by decide +kernel
theorem dJ7_fill_fda19_24 : decode cJ7_fill_fda19 24 = .ok (.goto (-14), 3) := by decide +kernel
theorem dJ7_fill_fda19_27 : decode cJ7_fill_fda19 27 = .ok (.return_, 1) := by decide +kernel
set_option maxRecDepth 20000 in
theorem ggX1_badPlace_J7_fill_53178 : GoodIn wsX1_badPlace wsJ7_fill_53178 := goodIn_r _ [9] (by decide +kernel) (by decide +kernel)
set_option maxRecDepth 20000 in
theorem gX1_badPlace_J7_fill_53178 : GoodIn wsX1_badPlace (va_wsS RX1 30 yJ7_fill_53178 wsJ7_fill_53178) := goodIn_app (goodIn_of _ (by decide +kernel)) ggX1_badPlace_J7_fill_53178
set_option maxRecDepth 20000 in
theorem ggX1_badPlace_X5_cellCount : GoodIn wsX1_badPlace wsX5_cellCount := goodIn_r _ [14, 15, 16, 55, 56, 57, 58] (by decide +kernel) (by decide +kernel)
set_option maxRecDepth 20000 in
theorem gX1_badPlace_X5_cellCount : GoodIn wsX1_badPlace (wsV RX1 36 RX5 yX5_cellCount wsX5_cellCount) := goodIn_app (goodIn_of _ (by decide +kernel)) ggX1_badPlace_X5_cellCount
set_option maxRecDepth 20000 in
theorem ggX1_badPlace_X5_isThrow : GoodIn wsX1_badPlace wsX5_isThrow := goodIn_r _ [20, 21, 55, 56, 57, 58] (by decide +kernel) (by decide +kernel)
set_option maxRecDepth 20000 in
theorem gX1_badPlace_X5_isThrow : GoodIn wsX1_badPlace (wsV RX1 48 RX5 yX5_isThrow wsX5_isThrow) := goodIn_app (goodIn_of _ (by decide +kernel)) ggX1_badPlace_X5_isThrow
set_option maxRecDepth 20000 in
theorem ggX1_badPlace_X5_landing : GoodIn wsX1_badPlace wsX5_landing := goodIn_r _ [25, 26, 27, 28, 29, 13, 30, 16, 31, 32, 33, 34, 21, 35, 36, 37, 38, 15, 39, 40, 41, 42, 43, 44, 45, 46, 55, 56, 57, 58] (by decide +kernel) (by decide +kernel)
set_option maxRecDepth 20000 in
theorem gX1_badPlace_X5_landing : GoodIn wsX1_badPlace (wsV RX1 52 RX5 yX5_landing wsX5_landing) := goodIn_app (goodIn_of _ (by decide +kernel)) ggX1_badPlace_X5_landing
set_option maxRecDepth 20000 in
theorem ggX1_lead_X1_badPlace : GoodIn wsX1_lead wsX1_badPlace := goodIn_r _ [9, 10, 11, 12, 13, 14, 15, 16, 17, 18, 19, 20, 21, 22, 23, 24, 25, 26, 27, 28, 29, 30, 31, 32, 33, 34, 35, 36, 37, 38, 39, 40, 41, 42, 43, 44, 45, 46, 47, 48, 49, 50, 51, 52, 53, 54, 55, 72, 73, 74, 75, 76, 77, 78, 79, 80, 81, 82, 83] (by decide +kernel) (by decide +kernel)
set_option maxRecDepth 20000 in
theorem gX1_lead_X1_badPlace : GoodIn wsX1_lead (wsV RX1 56 RX1 yX1_badPlace wsX1_badPlace) := goodIn_app (goodIn_of _ (by decide +kernel)) ggX1_lead_X1_badPlace
set_option maxRecDepth 20000 in
theorem ggX1_lead_J7_fill_53178 : GoodIn wsX1_lead wsJ7_fill_53178 := goodIn_r _ [18] (by decide +kernel) (by decide +kernel)
set_option maxRecDepth 20000 in
theorem gX1_lead_J7_fill_53178 : GoodIn wsX1_lead (va_wsS RX1 30 yJ7_fill_53178 wsJ7_fill_53178) := goodIn_app (goodIn_of _ (by decide +kernel)) ggX1_lead_J7_fill_53178
set_option maxRecDepth 20000 in
theorem ggX1_lead_X5_cellCount : GoodIn wsX1_lead wsX5_cellCount := goodIn_r _ [23, 24, 25, 80, 81, 82, 83] (by decide +kernel) (by decide +kernel)
set_option maxRecDepth 20000 in
theorem gX1_lead_X5_cellCount : GoodIn wsX1_lead (wsV RX1 36 RX5 yX5_cellCount wsX5_cellCount) := goodIn_app (goodIn_of _ (by decide +kernel)) ggX1_lead_X5_cellCount
set_option maxRecDepth 20000 in
theorem ggX1_lead_X5_isThrow : GoodIn wsX1_lead wsX5_isThrow := goodIn_r _ [29, 30, 80, 81, 82, 83] (by decide +kernel) (by decide +kernel)
set_option maxRecDepth 20000 in
theorem gX1_lead_X5_isThrow : GoodIn wsX1_lead (wsV RX1 48 RX5 yX5_isThrow wsX5_isThrow) := goodIn_app (goodIn_of _ (by decide +kernel)) ggX1_lead_X5_isThrow
set_option maxRecDepth 20000 in
theorem ggX1_lead_X5_landing : GoodIn wsX1_lead wsX5_landing := goodIn_r _ [34, 35, 36, 37, 38, 22, 39, 25, 40, 41, 42, 43, 30, 44, 45, 46, 47, 24, 48, 49, 50, 51, 52, 53, 54, 55, 80, 81, 82, 83] (by decide +kernel) (by decide +kernel)
set_option maxRecDepth 20000 in
theorem gX1_lead_X5_landing : GoodIn wsX1_lead (wsV RX1 52 RX5 yX5_landing wsX5_landing) := goodIn_app (goodIn_of _ (by decide +kernel)) ggX1_lead_X5_landing
set_option maxRecDepth 20000 in
theorem ggX1_lead_X1_land : GoodIn wsX1_lead wsX1_land := goodIn_r _ [59, 2, 60, 61, 62, 8, 63, 1, 64, 41, 42, 22, 43, 30, 72, 73, 74, 75, 76, 77, 78, 79, 80, 81, 82, 83] (by decide +kernel) (by decide +kernel)
set_option maxRecDepth 20000 in
theorem gX1_lead_X1_land : GoodIn wsX1_lead (wsV RX1 68 RX1 yX1_land wsX1_land) := goodIn_app (goodIn_of _ (by decide +kernel)) ggX1_lead_X1_land
set_option maxRecDepth 20000 in
theorem ggX1_lead_X1_follow : GoodIn wsX1_lead wsX1_follow := goodIn_r _ [68, 69, 4, 70, 71, 3, 1, 2, 64, 41, 42, 22, 43, 30, 72, 73, 74, 75, 76, 77, 78, 79, 80, 81, 82, 83] (by decide +kernel) (by decide +kernel)
set_option maxRecDepth 20000 in
theorem gX1_lead_X1_follow : GoodIn wsX1_lead (wsV RX1 72 RX1 yX1_follow wsX1_follow) := goodIn_app (goodIn_of _ (by decide +kernel)) ggX1_lead_X1_follow
set_option maxRecDepth 20000 in
theorem ggX1_land_X1_rank : GoodIn wsX1_land wsX1_rank := goodIn_r _ [6, 7, 8, 9, 10, 11, 12, 13, 14, 15, 16, 17, 18, 19, 20, 21, 22, 23, 24, 25] (by decide +kernel) (by decide +kernel)
set_option maxRecDepth 20000 in
theorem gX1_land_X1_rank : GoodIn wsX1_land (wsV RX1 76 RX1 yX1_rank wsX1_rank) := goodIn_app (goodIn_of _ (by decide +kernel)) ggX1_land_X1_rank
set_option maxRecDepth 20000 in
theorem ggX1_rank_X5_height : GoodIn wsX1_rank wsX5_height := goodIn_r _ [6, 7, 16, 17, 18, 19] (by decide +kernel) (by decide +kernel)
set_option maxRecDepth 20000 in
theorem gX1_rank_X5_height : GoodIn wsX1_rank (wsV RX1 79 RX5 yX5_height wsX5_height) := goodIn_app (goodIn_of _ (by decide +kernel)) ggX1_rank_X5_height
set_option maxRecDepth 20000 in
theorem ggX1_follow_X5_height : GoodIn wsX1_follow wsX5_height := goodIn_r _ [12, 13, 22, 23, 24, 25] (by decide +kernel) (by decide +kernel)
set_option maxRecDepth 20000 in
theorem gX1_follow_X5_height : GoodIn wsX1_follow (wsV RX1 79 RX5 yX5_height wsX5_height) := goodIn_app (goodIn_of _ (by decide +kernel)) ggX1_follow_X5_height
set_option maxRecDepth 20000 in
theorem ggX1_ballOf_X1_isStart : GoodIn wsX1_ballOf wsX1_isStart := goodIn_r _ [7, 2, 1, 8, 9, 10, 11, 12, 13, 14, 15, 16, 17, 27, 28, 29, 30, 31, 32, 33, 34, 35, 36, 37, 38] (by decide +kernel) (by decide +kernel)
set_option maxRecDepth 20000 in
theorem gX1_ballOf_X1_isStart : GoodIn wsX1_ballOf (wsV RX1 85 RX1 yX1_isStart wsX1_isStart) := goodIn_app (goodIn_of _ (by decide +kernel)) ggX1_ballOf_X1_isStart
set_option maxRecDepth 20000 in
theorem ggX1_ballOf_X5_height : GoodIn wsX1_ballOf wsX5_height := goodIn_r _ [17, 13, 35, 36, 37, 38] (by decide +kernel) (by decide +kernel)
set_option maxRecDepth 20000 in
theorem gX1_ballOf_X5_height : GoodIn wsX1_ballOf (wsV RX1 79 RX5 yX5_height wsX5_height) := goodIn_app (goodIn_of _ (by decide +kernel)) ggX1_ballOf_X5_height
set_option maxRecDepth 20000 in
theorem ggX1_ballOf_X5_beatInRound : GoodIn wsX1_ballOf wsX5_beatInRound := goodIn_r _ [21, 22, 23, 24, 25, 26, 35, 36, 37, 38] (by decide +kernel) (by decide +kernel)
set_option maxRecDepth 20000 in
theorem gX1_ballOf_X5_beatInRound : GoodIn wsX1_ballOf (wsV RX1 89 RX5 yX5_beatInRound wsX5_beatInRound) := goodIn_app (goodIn_of _ (by decide +kernel)) ggX1_ballOf_X5_beatInRound
set_option maxRecDepth 20000 in
theorem ggX1_isStart_X5_isThrow : GoodIn wsX1_isStart wsX5_isThrow := goodIn_r _ [7, 8, 21, 22, 23, 24] (by decide +kernel) (by decide +kernel)
set_option maxRecDepth 20000 in
theorem gX1_isStart_X5_isThrow : GoodIn wsX1_isStart (wsV RX1 48 RX5 yX5_isThrow wsX5_isThrow) := goodIn_app (goodIn_of _ (by decide +kernel)) ggX1_isStart_X5_isThrow
set_option maxRecDepth 20000 in
theorem ggX1_isStart_X5_height : GoodIn wsX1_isStart wsX5_height := goodIn_r _ [12, 8, 21, 22, 23, 24] (by decide +kernel) (by decide +kernel)
set_option maxRecDepth 20000 in
theorem gX1_isStart_X5_height : GoodIn wsX1_isStart (wsV RX1 79 RX5 yX5_height wsX5_height) := goodIn_app (goodIn_of _ (by decide +kernel)) ggX1_isStart_X5_height
set_option maxRecDepth 20000 in
theorem ggX2_fill_J7_fill_fda19 : GoodIn wsX2_fill wsJ7_fill_fda19 := goodIn_r _ [5, 6, 7, 4, 8] (by decide +kernel) (by decide +kernel)
set_option maxRecDepth 20000 in
theorem gX2_fill_J7_fill_fda19 : GoodIn wsX2_fill (va_wsS RX2 24 yJ7_fill_fda19 wsJ7_fill_fda19) := goodIn_app (goodIn_of _ (by decide +kernel)) ggX2_fill_J7_fill_fda19
set_option maxRecDepth 20000 in
theorem ggX2_fill_X2_countFrom : GoodIn wsX2_fill wsX2_countFrom := goodIn_r _ [13, 14, 15, 16, 17, 1, 18, 19, 20, 21, 22, 23, 24, 25, 26, 12, 27, 37, 38, 39, 40] (by decide +kernel) (by decide +kernel)
set_option maxRecDepth 20000 in
theorem gX2_fill_X2_countFrom : GoodIn wsX2_fill (wsV RX2 30 RX2 yX2_countFrom wsX2_countFrom) := goodIn_app (goodIn_of _ (by decide +kernel)) ggX2_fill_X2_countFrom
set_option maxRecDepth 20000 in
theorem ggX2_fill_X2_choose : GoodIn wsX2_fill wsX2_choose := goodIn_r _ [31, 32, 33, 34, 35, 12, 36, 1, 25, 26, 27, 37, 38, 39, 40] (by decide +kernel) (by decide +kernel)
set_option maxRecDepth 20000 in
theorem gX2_fill_X2_choose : GoodIn wsX2_fill (wsV RX2 34 RX2 yX2_choose wsX2_choose) := goodIn_app (goodIn_of _ (by decide +kernel)) ggX2_fill_X2_choose
set_option maxRecDepth 20000 in
theorem ggX2_countFrom_J6_bitCount_0f7a4 : GoodIn wsX2_countFrom wsJ6_bitCount_0f7a4 := goodIn_r _ [9, 10, 11, 12] (by decide +kernel) (by decide +kernel)
set_option maxRecDepth 20000 in
theorem gX2_countFrom_J6_bitCount_0f7a4 : GoodIn wsX2_countFrom (va_wsS RX2 38 yJ6_bitCount_0f7a4 wsJ6_bitCount_0f7a4) := goodIn_app (goodIn_of _ (by decide +kernel)) ggX2_countFrom_J6_bitCount_0f7a4
set_option maxRecDepth 20000 in
theorem ggX2_countFrom_X2_landedAfter : GoodIn wsX2_countFrom wsX2_landedAfter := goodIn_r _ [16, 17, 18] (by decide +kernel) (by decide +kernel)
set_option maxRecDepth 20000 in
theorem gX2_countFrom_X2_landedAfter : GoodIn wsX2_countFrom (va_wsS RX2 50 yX2_landedAfter wsX2_landedAfter) := goodIn_app (goodIn_of _ (by decide +kernel)) ggX2_countFrom_X2_landedAfter
set_option maxRecDepth 20000 in
theorem ggX2_choose_X2_leastThatFits : GoodIn wsX2_choose wsX2_leastThatFits := goodIn_r _ [6, 7, 8, 9, 5, 10, 13, 14, 11, 12] (by decide +kernel) (by decide +kernel)
set_option maxRecDepth 20000 in
theorem gX2_choose_X2_leastThatFits : GoodIn wsX2_choose (wsV RX2 54 RX2 yX2_leastThatFits wsX2_leastThatFits) := goodIn_app (goodIn_of _ (by decide +kernel)) ggX2_choose_X2_leastThatFits
set_option maxRecDepth 20000 in
theorem ggX2_choose_X2_landedAfter : GoodIn wsX2_choose wsX2_landedAfter := goodIn_r _ [10, 11, 12] (by decide +kernel) (by decide +kernel)
set_option maxRecDepth 20000 in
theorem gX2_choose_X2_landedAfter : GoodIn wsX2_choose (va_wsS RX2 50 yX2_landedAfter wsX2_landedAfter) := goodIn_app (goodIn_of _ (by decide +kernel)) ggX2_choose_X2_landedAfter
set_option maxRecDepth 20000 in
theorem ggX2_leastThatFits_X2_landedAfter : GoodIn wsX2_leastThatFits wsX2_landedAfter := goodIn_r _ [5, 8, 9] (by decide +kernel) (by decide +kernel)
set_option maxRecDepth 20000 in
theorem gX2_leastThatFits_X2_landedAfter : GoodIn wsX2_leastThatFits (va_wsS RX2 50 yX2_landedAfter wsX2_landedAfter) := goodIn_app (goodIn_of _ (by decide +kernel)) ggX2_leastThatFits_X2_landedAfter
set_option maxRecDepth 20000 in
theorem ggJ7_fill_fda19_J7_rangeCheck_23922 : GoodIn wsJ7_fill_fda19 wsJ7_rangeCheck_23922 := goodIn_r _ [4] (by decide +kernel) (by decide +kernel)
set_option maxRecDepth 20000 in
theorem gJ7_fill_fda19_J7_rangeCheck_23922 : GoodIn wsJ7_fill_fda19 (va_wsS RJ7 13 yJ7_rangeCheck_23922 wsJ7_rangeCheck_23922) := goodIn_app (goodIn_of _ (by decide +kernel)) ggJ7_fill_fda19_J7_rangeCheck_23922
set_option maxRecDepth 100000 in
set_option maxHeartbeats 4000000 in
theorem t_X1_badPlace (l : Launch) (D : va_G) (cI cR cM : ClassId) (sz : Nat) {jn : Nat} {g : Nat → Nat} {L : List Nat} {S : Sg} {f : Nat → va_E} {b b_p b_n : Nat} {b_l : Int32} {b_c : Nat → Int32}  (hj : 1 ≤ jn ∧ jn ≤ 3) (hG : SG g L S) (hI : IN jn cI cR cM g L S f) (m_b : b ∈ L) (s_b : S b = (0, b_p, b_n)) (f_b : f b = .inr (5, [.int (nI jn), .int (nI (2 * jn)), .ref b_p, .int b_l])) (f_b_p : f b_p = .inl (cI, b_n, .inl b_c))  : Met l yX1_badPlace wsX1_badPlace ({ frames := 3, cells := 0, slots := 0, locals := 64 }) (P0 D cI cR cM [.ref (g 15), .ref b] sz (va_pl L f)) (QG (S := Int32 × (Nat → va_E)) (fun u => some (.int u.1)) (fun u => va_pl L u.2) (fun u => IN jn cI cR cM g L S u.2 ∧ FR S [35] f u.2 ∧ (-1 ≤ u.1.toInt ∧ u.1.toInt ≤ 71)) D (va_A (va_pl L f) sz)) 0 0 (va_A (va_pl L f) sz) := by
  refine go (cc := cX1_badPlace) (maxL := 4) (ret := (some .int)) (by decide +kernel) rfl (Nat.le_of_ble_eq_true rfl) ?_
  intro p e s m below meth c ls args Q hQ hsz hx hb hr hml hts hown hlocks hnm hP hK hD hl
  subst hsz
  have hD := hD.self (sz := s.heap.size)
  generalize hAe : va_A (va_pl L f) s.heap.size = A at hD hQ
  have hA : ∀ q, s.heap.size ≤ q → A q := fun q h => by rw [← hAe]; exact Or.inr h
  have hS : va_S A s.heap s.heap [] := va_S.rf
  have hF : FR S [35] f f := FR_rf
  have hl : lv_has ls 4 [(0, .ref (g 15)), (1, .ref b)] := hl
  obtain ⟨v1_b, v2_b, v3_b, m_b_p, s_b_p⟩ := iv_0 hI m_b s_b f_b
  obtain ⟨w1_b, w2_b, w3_b, w4_b, w5_b⟩ := lenw hj v1_b v2_b v3_b
  have k_b := iv_1 hI m_b_p s_b_p f_b_p
  refine lv_aload_n hx hb dX1_badPlace_0 rfl (lv_at hl 0 rfl) ?_
  obtain ⟨cnt_1, rw_1, fg_1, iv0_1, iv1_1, iv2_1⟩ := op_15 hI (gm_15 hG) (gs_15 hG)
  refine t_get (D := D) (L := L) (f := f) (ci := 1) (v := .ref (g 35)) (C := RX1) (T := TX1) (N := 8) hx hb hts (by decide +kernel) hown hK.1 hP (gm_15 hG) fg_1 rfl 0 (by decide) (hts (.fieldLink RX1 9 "JugglingHall$Catches" "surplus" "[I") (by decide +kernel)) (fun _ h9 => h9) rfl dX1_badPlace_1 ?_
  refine lv_iconst (v := 0) hx hb dX1_badPlace_4 (by decide) ?_
  obtain ⟨c_2, fg_2⟩ := op_35 hI (gm_35 hG) (gs_35 hG)
  have hP1 := p_one hP (gm_35 hG) fg_2
  have hD1 := d_one (g 35) (.inl (cI, 72, .inl c_2))
  refine call_1 (f := f) (w1 := fun k9 => .inl (cI, 72, .inl k9)) (va_runS (As := [.ref (g 35), .int 0]) (rest := []) ⟨hx, hb, hml, hown, hts⟩ (c_fill l D cI cR cM _ (n := 72) (by omega) c_2 (g 35) (0 : Int32)) (va_cwS 2 hts gX1_badPlace_J7_fill_53178 rfl rfl rfl (by decide +kernel) ⟨Nat.le_of_ble_eq_true rfl, Nat.le_of_ble_eq_true rfl⟩) (pre_S hK hP1 hD1) rfl rfl hl.1 rfl (lv_room (Nat.le_of_ble_eq_true rfl)) dX1_badPlace_5 ⟨Nat.le_of_ble_eq_true rfl, Nat.le_of_ble_eq_true rfl⟩) hP hD hS hA (gm_35 hG) (fun g_3 f_3 H locs hw_3 e9_3 o_3 hP hD hS => ?_)
  have hw_3 : ∀ j, j < 72 → g_3 j = (0 : Int32) := hw_3
  have fa_3 : f_3 (g 35) = .inl (cI, 72, .inl g_3) := e9_3
  have hI := IN_set (e := .inl (cI, 72, .inl g_3)) hI (gs_35 hG) (mk_35) fa_3 o_3
  have hF := FR_set hF (gs_35 hG) (show (35 : Nat) ∈ ([35] : List Nat) by decide) o_3
  have fb_4 : f_3 b = .inr (5, [.int (nI jn), .int (nI (2 * jn)), .ref b_p, .int b_l]) := f_at o_3 (S_ne s_b (gs_35 hG) (show (0 : Nat) ≠ 35 by decide)) f_b
  have fb_5 : f_3 b_p = .inl (cI, b_n, .inl b_c) := f_at o_3 (S_ne s_b_p (gs_35 hG) (show (1 : Nat) ≠ 35 by decide)) f_b_p
  have fb_6 : f_3 (g 15) = .inr (1, [.ref (g 35), .ref (g 27), .ref (g 36), .ref (g 37), .ref (g 38), .ref (g 39), .int cnt_1, va_rf rw_1]) := f_at o_3 (S_ne (gs_15 hG) (gs_35 hG) (show (15 : Nat) ≠ 35 by decide)) fg_1
  refine lv_sipush (v := 144) hx hb dX1_badPlace_8 (by decide) ?_
  refine lv_aload_n hx hb dX1_badPlace_11 rfl (lv_at hl 1 rfl) ?_
  refine roP (va_runV (As := []) (rest := [.int 144]) ⟨hx, hb, hml, hown, hts⟩ (t_X5_cellCount l D cI cR cM _  hj hG hI m_b s_b fb_4 fb_5 ) (cwV 0 hts gX1_badPlace_X5_cellCount rfl rfl rfl (by decide +kernel) ⟨Nat.le_of_ble_eq_true rfl, Nat.le_of_ble_eq_true rfl⟩) (pre_T hK hP hD m_b fb_4 rfl) rfl rfl hl.1 rfl (lv_room (Nat.le_of_ble_eq_true rfl)) dX1_badPlace_12 ⟨Nat.le_of_ble_eq_true rfl, Nat.le_of_ble_eq_true rfl⟩) hS hA hP (fun r_7 H locs hw hP hS => ?_)
  have h_7 : (r_7.toInt = b_l.toInt * (2 * (jn : Int))) := hw
  refine va_mmin hx hb (by rw [hml]; exact hl.1.symm) hown (hts (.methodLink RX1 42 Lib.Math.min.name) (by decide +kernel)) (hts (.static Lib.Math.min.name) (by decide +kernel)) (hts (.initialized "java/lang/Math") (by decide +kernel)) (hts (.code Lib.Math.min.name Lib.Math.min.code 2 (some .int)) (by decide +kernel)) (Nat.le_of_ble_eq_true rfl) (Nat.le_of_ble_eq_true rfl) (Nat.le_of_ble_eq_true rfl) (Nat.le_of_ble_eq_true rfl) dX1_badPlace_15 ?_
  refine lv_topi (fun z_8 q_8 => ?_)
  obtain ⟨e1_8, e2_8, e3_8⟩ := i_min (u := 144) (v := r_7.toInt) (by decide) (rfl) q_8
  refine lv_istore_n (lv' := [(2, .int z_8), (0, .ref (g 15)), (1, .ref b)]) hx hb dX1_badPlace_18 rfl hl (by decide) rfl (fun ls hl => ?_)
  refine lv_iconst (v := 0) hx hb dX1_badPlace_19 (by decide) ?_
  refine lv_istore_n (lv' := [(3, .int 0), (2, .int z_8), (0, .ref (g 15)), (1, .ref b)]) hx hb dX1_badPlace_20 rfl hl (by decide) rfl (fun ls hl => ?_)
  have loop21 : ∀ (ddloop21 : Nat) (ce : Int32) (f_9 : Nat → va_E) (H : Heap) (locs : List Loc) (ls : Array Slot), (200 - ce.toInt).toNat < ddloop21 → IN jn cI cR cM g L S f_9 → FR S [35] f f_9 → (0 ≤ ce.toInt ∧ ce.toInt ≤ 144) → va_P D vwCl (va_pl L f_9) H → va_D A (va_pl L f_9) → va_S A s.heap H locs → lv_has ls 4 [(0, .ref (g 15)), (1, .ref b), (2, .int z_8), (3, .int ce)] → W p l e ({ frames := 3, cells := 0, slots := 0, locals := 64 }) s m args below meth c H locs 0 0 Q (F0 m 21 ls []) := by
    intro ddloop21
    induction ddloop21 with
    | zero =>
      intro ce f_9 H locs ls hdd
      exact absurd hdd (Nat.not_lt_zero _)
    | succ ddloop21 ih21 =>
      intro ce f_9 H locs ls hdd hI hF hi hP hD hS hl
      have fb_10 : f_9 b = .inr (5, [.int (nI jn), .int (nI (2 * jn)), .ref b_p, .int b_l]) := FR_at hF s_b (show (0 : Nat) ∉ ([35] : List Nat) by decide) f_b
      have fb_11 : f_9 b_p = .inl (cI, b_n, .inl b_c) := FR_at hF s_b_p (show (1 : Nat) ∉ ([35] : List Nat) by decide) f_b_p
      refine lv_iload_n hx hb dX1_badPlace_21 rfl (lv_at hl 3 rfl) ?_
      refine lv_iload_n hx hb dX1_badPlace_22 rfl (lv_at hl 2 rfl) ?_
      refine a_icmp_ge (u := ce.toInt) (v := z_8.toInt) (tgt := 66) hx hb dX1_badPlace_23 (by decide) (rfl) (rfl) (fun c_12 => ?_) (fun c_12 => ?_)
      · refine lv_iconst (v := 0) hx hb dX1_badPlace_66 (by decide) ?_
        refine lv_istore_n (lv' := [(3, .int 0), (0, .ref (g 15)), (1, .ref b), (2, .int z_8)]) hx hb dX1_badPlace_67 rfl hl (by decide) rfl (fun ls hl => ?_)
        have loop68 : ∀ (ddloop68 : Nat) (pl : Int32) (f_13 : Nat → va_E) (H : Heap) (locs : List Loc) (ls : Array Slot), (100 - pl.toInt).toNat < ddloop68 → IN jn cI cR cM g L S f_13 → FR S [35] f f_13 → (0 ≤ pl.toInt ∧ pl.toInt ≤ 72) → va_P D vwCl (va_pl L f_13) H → va_D A (va_pl L f_13) → va_S A s.heap H locs → lv_has ls 4 [(0, .ref (g 15)), (1, .ref b), (2, .int z_8), (3, .int pl)] → W p l e ({ frames := 3, cells := 0, slots := 0, locals := 64 }) s m args below meth c H locs 0 0 Q (F0 m 68 ls []) := by
          intro ddloop68
          induction ddloop68 with
          | zero =>
            intro pl f_13 H locs ls hdd
            exact absurd hdd (Nat.not_lt_zero _)
          | succ ddloop68 ih68 =>
            intro pl f_13 H locs ls hdd hI hF hi hP hD hS hl
            have fb_14 : f_13 b = .inr (5, [.int (nI jn), .int (nI (2 * jn)), .ref b_p, .int b_l]) := FR_at hF s_b (show (0 : Nat) ∉ ([35] : List Nat) by decide) f_b
            have fb_15 : f_13 b_p = .inl (cI, b_n, .inl b_c) := FR_at hF s_b_p (show (1 : Nat) ∉ ([35] : List Nat) by decide) f_b_p
            refine lv_iload_n hx hb dX1_badPlace_68 rfl (lv_at hl 3 rfl) ?_
            refine lv_aload_n hx hb dX1_badPlace_69 rfl (lv_at hl 0 rfl) ?_
            obtain ⟨cnt_16, rw_16, fg_16, iv0_16, iv1_16, iv2_16⟩ := op_15 hI (gm_15 hG) (gs_15 hG)
            refine t_get (D := D) (L := L) (f := f_13) (ci := 1) (v := .ref (g 35)) (C := RX1) (T := TX1) (N := 8) hx hb hts (by decide +kernel) hown hK.1 hP (gm_15 hG) fg_16 rfl 0 (by decide) (hts (.fieldLink RX1 9 "JugglingHall$Catches" "surplus" "[I") (by decide +kernel)) (fun _ h9 => h9) rfl dX1_badPlace_70 ?_
            obtain ⟨c_17, fg_17⟩ := op_35 hI (gm_35 hG) (gs_35 hG)
            refine t_alen (L := L) (f := f_13) (v := 72) hx hb hK.1 hP (gm_35 hG) 0 fg_17 rfl rfl dX1_badPlace_73 ?_
            refine a_icmp_ge (u := pl.toInt) (v := 72) (tgt := 94) hx hb dX1_badPlace_74 (by decide) (rfl) (by decide) (fun c_18 => ?_) (fun c_18 => ?_)
            · refine lv_iconst (v := (-1)) hx hb dX1_badPlace_94 (by decide) ?_
              have hz_19 : (-1 : Int32).toInt = (-1) := by decide
              exact g_iret ((-1 : Int32), f_13) hx hb hr hlocks hS rfl (⟨hI, hF, show -1 ≤ (-1 : Int32).toInt ∧ (-1 : Int32).toInt ≤ 71 from (by first | assumption | omega)⟩) hP hD hQ (Nat.le_of_ble_eq_true rfl) (Nat.le_of_ble_eq_true rfl) dX1_badPlace_95
            · refine lv_aload_n hx hb dX1_badPlace_77 rfl (lv_at hl 0 rfl) ?_
              refine t_get (D := D) (L := L) (f := f_13) (ci := 1) (v := .ref (g 35)) (C := RX1) (T := TX1) (N := 8) hx hb hts (by decide +kernel) hown hK.1 hP (gm_15 hG) fg_16 rfl 0 (by decide) (hts (.fieldLink RX1 9 "JugglingHall$Catches" "surplus" "[I") (by decide +kernel)) (fun _ h9 => h9) rfl dX1_badPlace_78 ?_
              refine lv_iload_n hx hb dX1_badPlace_81 rfl (lv_at hl 3 rfl) ?_
              refine t_iald (L := L) (f := f_13) (y := c_17) (u := pl.toInt) hx hb hK.1 hP (gm_35 hG) 0 fg_17 rfl dX1_badPlace_82 (rfl) (by omega) (fun z_20 q_20 e_20 => ?_)
              refine a_if_eq (u := z_20.toInt) (tgt := 88) hx hb dX1_badPlace_83 (by decide) (rfl) (fun c_21 => ?_) (fun c_21 => ?_)
              · obtain ⟨z_22, q_22, e_22⟩ := i_inc (a := pl.toInt) (1) (rfl) (by decide) (by omega) (by omega)
                refine lv_iinc (v := z_22) (lv' := [(3, .int z_22), (0, .ref (g 15)), (1, .ref b), (2, .int z_8)]) hx hb dX1_badPlace_88 hl (k := 3) rfl q_22 (by decide) rfl (fun ls hl => ?_)
                refine lv_goto (tgt := 68) hx hb dX1_badPlace_91 (by decide) ?_
                exact ih68 z_22 f_13 _ _ _ (by omega) hI hF (by first | assumption | omega) hP hD hS (lv_sub hl [1, 2, 3, 0] rfl)
              · refine lv_iload_n hx hb dX1_badPlace_86 rfl (lv_at hl 3 rfl) ?_
                exact g_iret (pl, f_13) hx hb hr hlocks hS rfl (⟨hI, hF, show -1 ≤ pl.toInt ∧ pl.toInt ≤ 71 from (by first | assumption | omega)⟩) hP hD hQ (Nat.le_of_ble_eq_true rfl) (Nat.le_of_ble_eq_true rfl) dX1_badPlace_87
        have hz_23 : (0 : Int32).toInt = 0 := by decide
        exact loop68 ((100 - (0 : Int32).toInt).toNat + 1) (0 : Int32) f_9 _ _ _ (by omega) hI hF (by first | assumption | omega) hP hD hS (lv_sub hl [1, 2, 3, 0] rfl)
      · refine lv_aload_n hx hb dX1_badPlace_26 rfl (lv_at hl 1 rfl) ?_
        refine lv_iload_n hx hb dX1_badPlace_27 rfl (lv_at hl 3 rfl) ?_
        refine roP (va_runV (As := [.int ce]) (rest := []) ⟨hx, hb, hml, hown, hts⟩ (t_X5_isThrow l D cI cR cM _  hj hG hI m_b s_b fb_10 fb_11 ) (cwV 1 hts gX1_badPlace_X5_isThrow rfl rfl rfl (by decide +kernel) ⟨Nat.le_of_ble_eq_true rfl, Nat.le_of_ble_eq_true rfl⟩) (pre_T hK hP hD m_b fb_10 rfl) rfl rfl hl.1 rfl (lv_room (Nat.le_of_ble_eq_true rfl)) dX1_badPlace_28 ⟨Nat.le_of_ble_eq_true rfl, Nat.le_of_ble_eq_true rfl⟩) hS hA hP (fun r_24 H locs hw hP hS => ?_)
        obtain ⟨h_24, h01_24⟩ : (r_24.toInt = 1 → 0 ≤ ce.toInt ∧ ce.toInt < (b_n : Int) ∧ (b_c ce.toInt.toNat).toInt ≠ 0) ∧ (r_24.toInt = 0 ∨ r_24.toInt = 1) := hw
        refine a_if_eq (u := r_24.toInt) (tgt := 60) hx hb dX1_badPlace_31 (by decide) (rfl) (fun c_25 => ?_) (fun c_25 => ?_)
        · obtain ⟨z_26, q_26, e_26⟩ := i_inc (a := ce.toInt) (1) (rfl) (by decide) (by omega) (by omega)
          refine lv_iinc (v := z_26) (lv' := [(3, .int z_26), (0, .ref (g 15)), (1, .ref b), (2, .int z_8)]) hx hb dX1_badPlace_60 hl (k := 3) rfl q_26 (by decide) rfl (fun ls hl => ?_)
          refine lv_goto (tgt := 21) hx hb dX1_badPlace_63 (by decide) ?_
          exact ih21 z_26 f_9 _ _ _ (by omega) hI hF (by first | assumption | omega) hP hD hS (lv_sub hl [1, 2, 3, 0] rfl)
        · refine lv_aload_n hx hb dX1_badPlace_34 rfl (lv_at hl 0 rfl) ?_
          obtain ⟨cnt_27, rw_27, fg_27, iv0_27, iv1_27, iv2_27⟩ := op_15 hI (gm_15 hG) (gs_15 hG)
          refine t_get (D := D) (L := L) (f := f_9) (ci := 1) (v := .ref (g 35)) (C := RX1) (T := TX1) (N := 8) hx hb hts (by decide +kernel) hown hK.1 hP (gm_15 hG) fg_27 rfl 0 (by decide) (hts (.fieldLink RX1 9 "JugglingHall$Catches" "surplus" "[I") (by decide +kernel)) (fun _ h9 => h9) rfl dX1_badPlace_35 ?_
          refine lv_iload_n hx hb dX1_badPlace_38 rfl (lv_at hl 3 rfl) ?_
          refine lv_iconst (v := 2) hx hb dX1_badPlace_39 (by decide) ?_
          refine a_idiv (u := ce.toInt) (v := 2) hx hb dX1_badPlace_40 (rfl) (by decide) (by omega) (fun z_28 e_28 => ?_)
          refine lv_dup2_11 hx hb dX1_badPlace_41 rfl rfl ?_
          obtain ⟨c_29, fg_29⟩ := op_35 hI (gm_35 hG) (gs_35 hG)
          refine t_iald (L := L) (f := f_9) (y := c_29) (u := (ce.toInt / 2)) hx hb hK.1 hP (gm_35 hG) 0 fg_29 rfl dX1_badPlace_42 (e_28) (by omega) (fun z_30 q_30 e_30 => ?_)
          refine lv_iconst (v := 1) hx hb dX1_badPlace_43 (by decide) ?_
          refine lv_iadd hx hb dX1_badPlace_44 ?_
          refine lv_topi (fun z_31 q_31 => ?_)
          refine t_iast (L := L) (f := f_9) (h := c_29) (u := (ce.toInt / 2)) hx hb hK.1 hP hD hS (gm_35 hG) 0 fg_29 rfl dX1_badPlace_45 (e_28) (by omega) (fun g_32 f_32 H locs eg_32 e9_32 o_32 hP hD hS => ?_)
          have fa_32 : f_32 (g 35) = .inl (cI, 72, .inl g_32) := e9_32
          have hI := IN_set (e := .inl (cI, 72, .inl g_32)) hI (gs_35 hG) (mk_35) fa_32 o_32
          have hF := FR_set hF (gs_35 hG) (show (35 : Nat) ∈ ([35] : List Nat) by decide) o_32
          have fb_33 : f_32 b = .inr (5, [.int (nI jn), .int (nI (2 * jn)), .ref b_p, .int b_l]) := f_at o_32 (S_ne s_b (gs_35 hG) (show (0 : Nat) ≠ 35 by decide)) fb_10
          have fb_34 : f_32 b_p = .inl (cI, b_n, .inl b_c) := f_at o_32 (S_ne s_b_p (gs_35 hG) (show (1 : Nat) ≠ 35 by decide)) fb_11
          have fb_35 : f_32 (g 15) = .inr (1, [.ref (g 35), .ref (g 27), .ref (g 36), .ref (g 37), .ref (g 38), .ref (g 39), .int cnt_27, va_rf rw_27]) := f_at o_32 (S_ne (gs_15 hG) (gs_35 hG) (show (15 : Nat) ≠ 35 by decide)) fg_27
          refine lv_aload_n hx hb dX1_badPlace_46 rfl (lv_at hl 0 rfl) ?_
          refine t_get (D := D) (L := L) (f := f_32) (ci := 1) (v := .ref (g 35)) (C := RX1) (T := TX1) (N := 8) hx hb hts (by decide +kernel) hown hK.1 hP (gm_15 hG) fb_35 rfl 0 (by decide) (hts (.fieldLink RX1 9 "JugglingHall$Catches" "surplus" "[I") (by decide +kernel)) (fun _ h9 => h9) rfl dX1_badPlace_47 ?_
          refine lv_aload_n hx hb dX1_badPlace_50 rfl (lv_at hl 1 rfl) ?_
          refine lv_iload_n hx hb dX1_badPlace_51 rfl (lv_at hl 3 rfl) ?_
          refine roP (va_runV (As := [.int ce]) (rest := [.ref (g 35)]) ⟨hx, hb, hml, hown, hts⟩ (t_X5_landing l D cI cR cM _  hj hG hI m_b s_b fb_33 fb_34 (by first | assumption | omega) (by first | assumption | omega)) (cwV 1 hts gX1_badPlace_X5_landing rfl rfl rfl (by decide +kernel) ⟨Nat.le_of_ble_eq_true rfl, Nat.le_of_ble_eq_true rfl⟩) (pre_T hK hP hD m_b fb_33 rfl) rfl rfl hl.1 rfl (lv_room (Nat.le_of_ble_eq_true rfl)) dX1_badPlace_52 ⟨Nat.le_of_ble_eq_true rfl, Nat.le_of_ble_eq_true rfl⟩) hS hA hP (fun r_36 H locs hw hP hS => ?_)
          have h_36 : (0 ≤ r_36.toInt ∧ r_36.toInt < 72) := hw
          refine lv_dup2_11 hx hb dX1_badPlace_55 rfl rfl ?_
          refine t_iald (L := L) (f := f_32) (y := g_32) (u := r_36.toInt) hx hb hK.1 hP (gm_35 hG) 0 fa_32 rfl dX1_badPlace_56 (rfl) (by omega) (fun z_37 q_37 e_37 => ?_)
          refine lv_iconst (v := 1) hx hb dX1_badPlace_57 (by decide) ?_
          refine lv_isub hx hb dX1_badPlace_58 ?_
          refine lv_topi (fun z_38 q_38 => ?_)
          refine t_iast (L := L) (f := f_32) (h := g_32) (u := r_36.toInt) hx hb hK.1 hP hD hS (gm_35 hG) 0 fa_32 rfl dX1_badPlace_59 (rfl) (by omega) (fun g_39 f_39 H locs eg_39 e9_39 o_39 hP hD hS => ?_)
          have fa_39 : f_39 (g 35) = .inl (cI, 72, .inl g_39) := e9_39
          have hI := IN_set (e := .inl (cI, 72, .inl g_39)) hI (gs_35 hG) (mk_35) fa_39 o_39
          have hF := FR_set hF (gs_35 hG) (show (35 : Nat) ∈ ([35] : List Nat) by decide) o_39
          have fb_40 : f_39 b = .inr (5, [.int (nI jn), .int (nI (2 * jn)), .ref b_p, .int b_l]) := f_at o_39 (S_ne s_b (gs_35 hG) (show (0 : Nat) ≠ 35 by decide)) fb_33
          have fb_41 : f_39 b_p = .inl (cI, b_n, .inl b_c) := f_at o_39 (S_ne s_b_p (gs_35 hG) (show (1 : Nat) ≠ 35 by decide)) fb_34
          have fb_42 : f_39 (g 15) = .inr (1, [.ref (g 35), .ref (g 27), .ref (g 36), .ref (g 37), .ref (g 38), .ref (g 39), .int cnt_27, va_rf rw_27]) := f_at o_39 (S_ne (gs_15 hG) (gs_35 hG) (show (15 : Nat) ≠ 35 by decide)) fb_35
          obtain ⟨z_43, q_43, e_43⟩ := i_inc (a := ce.toInt) (1) (rfl) (by decide) (by omega) (by omega)
          refine lv_iinc (v := z_43) (lv' := [(3, .int z_43), (0, .ref (g 15)), (1, .ref b), (2, .int z_8)]) hx hb dX1_badPlace_60 hl (k := 3) rfl q_43 (by decide) rfl (fun ls hl => ?_)
          refine lv_goto (tgt := 21) hx hb dX1_badPlace_63 (by decide) ?_
          exact ih21 z_43 f_39 _ _ _ (by omega) hI hF (by first | assumption | omega) hP hD hS (lv_sub hl [1, 2, 3, 0] rfl)
  have hz_44 : (0 : Int32).toInt = 0 := by decide
  exact loop21 ((200 - (0 : Int32).toInt).toNat + 1) (0 : Int32) f_3 _ _ _ (by omega) hI hF (by first | assumption | omega) hP hD hS (lv_sub hl [2, 3, 1, 0] rfl)
set_option maxRecDepth 100000 in
set_option maxHeartbeats 4000000 in
theorem t_X1_rank (l : Launch) (D : va_G) (cI cR cM : ClassId) (sz : Nat) {jn : Nat} {g : Nat → Nat} {L : List Nat} {S : Sg} {f : Nat → va_E} {kc : Int32} {b b_p b_n : Nat} {b_l : Int32} {b_c : Nat → Int32} {x : Int32}  (hj : 1 ≤ jn ∧ jn ≤ 3) (hG : SG g L S) (hI : IN jn cI cR cM g L S f) (f_cat : f (g 15) = .inr (1, [.ref (g 35), .ref (g 27), .ref (g 36), .ref (g 37), .ref (g 38), .ref (g 39), .int kc, va_rf (some b)])) (m_b : b ∈ L) (s_b : S b = (0, b_p, b_n)) (f_b : f b = .inr (5, [.int (nI jn), .int (nI (2 * jn)), .ref b_p, .int b_l])) (f_b_p : f b_p = .inl (cI, b_n, .inl b_c)) (hx0 : -1000 ≤ x.toInt ∧ x.toInt ≤ 1000) : Met l yX1_rank wsX1_rank ({ frames := 1, cells := 0, slots := 0, locals := 21 }) (P0 D cI cR cM [.ref (g 15), .int x] sz (va_pl L f)) (QP (fun r => True) sz) 0 0 (va_A [] sz) := by
  refine go (cc := cX1_rank) (maxL := 2) (ret := (some .int)) (by decide +kernel) rfl (Nat.le_of_ble_eq_true rfl) ?_
  intro p e s m below meth c ls args Q hQ hsz hx hb hr hml hts hown hlocks hnm hP hK hD hl
  subst hsz
  have hS : va_S (va_A [] s.heap.size) s.heap s.heap [] := va_S.rf
  have hA : ∀ q, s.heap.size ≤ q → va_A [] s.heap.size q := fun q h => Or.inr h
  have hl : lv_has ls 2 [(0, .ref (g 15)), (1, .int x)] := hl
  obtain ⟨v1_cat, v2_cat, v3_cat⟩ := iv_15 hI (gm_15 hG) (gs_15 hG) f_cat
  obtain ⟨v1_b, v2_b, v3_b, m_b_p, s_b_p⟩ := iv_0 hI m_b s_b f_b
  obtain ⟨w1_b, w2_b, w3_b, w4_b, w5_b⟩ := lenw hj v1_b v2_b v3_b
  have k_b := iv_1 hI m_b_p s_b_p f_b_p
  refine lv_aload_n hx hb dX1_rank_0 rfl (lv_at hl 0 rfl) ?_
  refine t_get (D := D) (L := L) (f := f) (ci := 1) (v := .ref b) (C := RX1) (T := TX1) (N := 8) hx hb hts (by decide +kernel) hown hK.1 hP (gm_15 hG) f_cat rfl 7 (by decide) (hts (.fieldLink RX1 60 "JugglingHall$Catches" "row" "LJugglingHall$Row;") (by decide +kernel)) (fun _ h9 => h9) rfl dX1_rank_1 ?_
  refine lv_iload_n hx hb dX1_rank_4 rfl (lv_at hl 1 rfl) ?_
  refine roP (va_runV (As := [.int x]) (rest := []) ⟨hx, hb, hml, hown, hts⟩ (t_X5_height l D cI cR cM _  hj hG hI m_b s_b f_b f_b_p ) (cwV 1 hts gX1_rank_X5_height rfl rfl rfl (by decide +kernel) ⟨Nat.le_of_ble_eq_true rfl, Nat.le_of_ble_eq_true rfl⟩) (pre_T hK hP hD m_b f_b rfl) rfl rfl hl.1 rfl (lv_room (Nat.le_of_ble_eq_true rfl)) dX1_rank_5 ⟨Nat.le_of_ble_eq_true rfl, Nat.le_of_ble_eq_true rfl⟩) hS hA hP (fun r_1 H locs hw hP hS => ?_)
  have h_1 : (0 ≤ r_1.toInt ∧ r_1.toInt ≤ 9) := hw
  refine lv_sipush (v := 144) hx hb dX1_rank_8 (by decide) ?_
  refine a_imul (u := r_1.toInt) (v := 144) hx hb dX1_rank_11 (rfl) (by decide) (by omega) (fun z_2 e_2 => ?_)
  refine lv_iload_n hx hb dX1_rank_12 rfl (lv_at hl 1 rfl) ?_
  refine lv_aload_n hx hb dX1_rank_13 rfl (lv_at hl 0 rfl) ?_
  refine t_get (D := D) (L := L) (f := f) (ci := 1) (v := .ref b) (C := RX1) (T := TX1) (N := 8) hx hb hts (by decide +kernel) hown hK.1 hP (gm_15 hG) f_cat rfl 7 (by decide) (hts (.fieldLink RX1 60 "JugglingHall$Catches" "row" "LJugglingHall$Row;") (by decide +kernel)) (fun _ h9 => h9) rfl dX1_rank_14 ?_
  refine t_getN (D := D) (L := L) (f := f) (ci := 5) (v := .int (nI (2 * jn))) (C := RX5) (T := TX5) (N := 4) (host := "JugglingHall") hx hb hts (by decide +kernel) hown hK.1 hP m_b f_b rfl 1 (by decide) (hK.nw (.fieldLinkNest RX1 82 "JugglingHall$Row" "width" "I" "JugglingHall") (by decide +kernel) rfl) (fun _ h9 => h9) rfl dX1_rank_17 ?_
  refine a_iremS (u := x.toInt) (v := (2 * (jn : Int))) hx hb dX1_rank_20 (rfl) (w2 hj) (by omega) (fun z_3 e_3 h_3 k_3 => ?_)
  obtain ⟨t1_3, t2_3⟩ := tm_sign x.toInt (v := (2 * (jn : Int))) (by omega)
  rw [← e_3] at t1_3 t2_3
  refine a_isub (u := (r_1.toInt * 144)) (v := z_3.toInt) hx hb dX1_rank_21 (e_2) (rfl) (by omega) (fun z_4 e_4 => ?_)
  exact rp_iret hx hb hr hlocks hS (trivial) hQ dX1_rank_22
set_option maxRecDepth 100000 in
set_option maxHeartbeats 4000000 in
theorem t_X1_land (l : Launch) (D : va_G) (cI cR cM : ClassId) (sz : Nat) {jn : Nat} {g : Nat → Nat} {L : List Nat} {S : Sg} {f : Nat → va_E} {kc : Int32} {b b_p b_n : Nat} {b_l : Int32} {b_c : Nat → Int32} {x y : Int32}  (hj : 1 ≤ jn ∧ jn ≤ 3) (hG : SG g L S) (hI : IN jn cI cR cM g L S f) (f_cat : f (g 15) = .inr (1, [.ref (g 35), .ref (g 27), .ref (g 36), .ref (g 37), .ref (g 38), .ref (g 39), .int kc, va_rf (some b)])) (m_b : b ∈ L) (s_b : S b = (0, b_p, b_n)) (f_b : f b = .inr (5, [.int (nI jn), .int (nI (2 * jn)), .ref b_p, .int b_l])) (f_b_p : f b_p = .inl (cI, b_n, .inl b_c)) (hx0 : 0 ≤ x.toInt ∧ x.toInt ≤ 143) (hy0 : 0 ≤ y.toInt ∧ y.toInt ≤ 142) : Met l yX1_land wsX1_land ({ frames := 2, cells := 0, slots := 0, locals := 42 }) (P0 D cI cR cM [.ref (g 15), .int x, .int y] sz (va_pl L f)) (QG (S := Nat → va_E) (fun u => none) (fun u => va_pl L u) (fun u => IN jn cI cR cM g L S u ∧ FR S [27] f u) D (va_A (va_pl L f) sz)) 0 0 (va_A (va_pl L f) sz) := by
  refine go (cc := cX1_land) (maxL := 3) (ret := none) (by decide +kernel) rfl (Nat.le_of_ble_eq_true rfl) ?_
  intro p e s m below meth c ls args Q hQ hsz hx hb hr hml hts hown hlocks hnm hP hK hD hl
  subst hsz
  have hD := hD.self (sz := s.heap.size)
  generalize hAe : va_A (va_pl L f) s.heap.size = A at hD hQ
  have hA : ∀ q, s.heap.size ≤ q → A q := fun q h => by rw [← hAe]; exact Or.inr h
  have hS : va_S A s.heap s.heap [] := va_S.rf
  have hF : FR S [27] f f := FR_rf
  have hl : lv_has ls 3 [(0, .ref (g 15)), (1, .int x), (2, .int y)] := hl
  obtain ⟨v1_cat, v2_cat, v3_cat⟩ := iv_15 hI (gm_15 hG) (gs_15 hG) f_cat
  obtain ⟨v1_b, v2_b, v3_b, m_b_p, s_b_p⟩ := iv_0 hI m_b s_b f_b
  obtain ⟨w1_b, w2_b, w3_b, w4_b, w5_b⟩ := lenw hj v1_b v2_b v3_b
  have k_b := iv_1 hI m_b_p s_b_p f_b_p
  refine lv_aload_n hx hb dX1_land_0 rfl (lv_at hl 0 rfl) ?_
  refine t_get (D := D) (L := L) (f := f) (ci := 1) (v := .ref (g 27)) (C := RX1) (T := TX1) (N := 8) hx hb hts (by decide +kernel) hown hK.1 hP (gm_15 hG) f_cat rfl 1 (by decide) (hts (.fieldLink RX1 15 "JugglingHall$Catches" "source" "[I") (by decide +kernel)) (fun _ h9 => h9) rfl dX1_land_1 ?_
  refine lv_iload_n hx hb dX1_land_4 rfl (lv_at hl 2 rfl) ?_
  obtain ⟨c_1, fg_1, iv0_1⟩ := op_27 hI (gm_27 hG) (gs_27 hG)
  refine t_iald (L := L) (f := f) (y := c_1) (u := y.toInt) hx hb hK.1 hP (gm_27 hG) 0 fg_1 rfl dX1_land_5 (rfl) (by omega) (fun z_2 q_2 e_2 => ?_)
  have a1_2 : -1 ≤ z_2.toInt ∧ z_2.toInt ≤ 143 := by rw [q_2]; exact iv0_1 y.toInt (by omega) (by omega)
  refine lv_iconst (v := (-1)) hx hb dX1_land_6 (by decide) ?_
  refine a_icmp_ne (u := z_2.toInt) (v := (-1)) (tgt := 20) hx hb dX1_land_7 (by decide) (rfl) (by decide) (fun c_3 => ?_) (fun c_3 => ?_)
  · refine lv_aload_n hx hb dX1_land_20 rfl (lv_at hl 0 rfl) ?_
    refine lv_iload_n hx hb dX1_land_21 rfl (lv_at hl 1 rfl) ?_
    refine roP (va_runV (As := [.int x]) (rest := []) ⟨hx, hb, hml, hown, hts⟩ (t_X1_rank l D cI cR cM _  hj hG hI f_cat m_b s_b f_b f_b_p (by first | assumption | omega)) (cwV 1 hts gX1_land_X1_rank rfl rfl rfl (by decide +kernel) ⟨Nat.le_of_ble_eq_true rfl, Nat.le_of_ble_eq_true rfl⟩) (pre_T hK hP hD (gm_15 hG) f_cat rfl) rfl rfl hl.1 rfl (lv_room (Nat.le_of_ble_eq_true rfl)) dX1_land_22 ⟨Nat.le_of_ble_eq_true rfl, Nat.le_of_ble_eq_true rfl⟩) hS hA hP (fun r_4 H locs hw hP hS => ?_)
    refine lv_aload_n hx hb dX1_land_25 rfl (lv_at hl 0 rfl) ?_
    refine lv_aload_n hx hb dX1_land_26 rfl (lv_at hl 0 rfl) ?_
    refine t_get (D := D) (L := L) (f := f) (ci := 1) (v := .ref (g 27)) (C := RX1) (T := TX1) (N := 8) hx hb hts (by decide +kernel) hown hK.1 hP (gm_15 hG) f_cat rfl 1 (by decide) (hts (.fieldLink RX1 15 "JugglingHall$Catches" "source" "[I") (by decide +kernel)) (fun _ h9 => h9) rfl dX1_land_27 ?_
    refine lv_iload_n hx hb dX1_land_30 rfl (lv_at hl 2 rfl) ?_
    refine t_iald (L := L) (f := f) (y := c_1) (u := y.toInt) hx hb hK.1 hP (gm_27 hG) 0 fg_1 rfl dX1_land_31 (rfl) (by omega) (fun z_5 q_5 e_5 => ?_)
    have a1_5 : -1 ≤ z_5.toInt ∧ z_5.toInt ≤ 143 := by rw [q_5]; exact iv0_1 y.toInt (by omega) (by omega)
    refine roP (va_runV (As := [.int z_5]) (rest := [.int r_4]) ⟨hx, hb, hml, hown, hts⟩ (t_X1_rank l D cI cR cM _  hj hG hI f_cat m_b s_b f_b f_b_p (by first | assumption | omega)) (cwV 1 hts gX1_land_X1_rank rfl rfl rfl (by decide +kernel) ⟨Nat.le_of_ble_eq_true rfl, Nat.le_of_ble_eq_true rfl⟩) (pre_T hK hP hD (gm_15 hG) f_cat rfl) rfl rfl hl.1 rfl (lv_room (Nat.le_of_ble_eq_true rfl)) dX1_land_32 ⟨Nat.le_of_ble_eq_true rfl, Nat.le_of_ble_eq_true rfl⟩) hS hA hP (fun r_6 H locs hw hP hS => ?_)
    refine a_icmp_le (u := r_4.toInt) (v := r_6.toInt) (tgt := 62) hx hb dX1_land_35 (by decide) (rfl) (rfl) (fun c_7 => ?_) (fun c_7 => ?_)
    · refine lv_aload_n hx hb dX1_land_62 rfl (lv_at hl 0 rfl) ?_
      refine t_get (D := D) (L := L) (f := f) (ci := 1) (v := .ref (g 27)) (C := RX1) (T := TX1) (N := 8) hx hb hts (by decide +kernel) hown hK.1 hP (gm_15 hG) f_cat rfl 1 (by decide) (hts (.fieldLink RX1 15 "JugglingHall$Catches" "source" "[I") (by decide +kernel)) (fun _ h9 => h9) rfl dX1_land_63 ?_
      refine lv_iload_n hx hb dX1_land_66 rfl (lv_at hl 2 rfl) ?_
      refine lv_iconst (v := 1) hx hb dX1_land_67 (by decide) ?_
      refine a_iadd (u := y.toInt) (v := 1) hx hb dX1_land_68 (rfl) (by decide) (by omega) (fun z_8 e_8 => ?_)
      refine lv_iload_n hx hb dX1_land_69 rfl (lv_at hl 1 rfl) ?_
      refine t_iast (L := L) (f := f) (h := c_1) (u := (y.toInt + 1)) hx hb hK.1 hP hD hS (gm_27 hG) 0 fg_1 rfl dX1_land_70 (e_8) (by omega) (fun g_9 f_9 H locs eg_9 e9_9 o_9 hP hD hS => ?_)
      have ok_9 : ∀ i : Int, 0 ≤ i → i < 144 → -1 ≤ (g_9 i.toNat).toInt ∧ (g_9 i.toNat).toInt ≤ 143 := by rw [eg_9]; exact rng_set iv0_1 (by omega) ⟨by omega, by omega⟩
      have fa_9 : f_9 (g 27) = .inl (cI, 144, .inl g_9) := e9_9
      have hI := IN_set (e := .inl (cI, 144, .inl g_9)) hI (gs_27 hG) (mk_27 ok_9) fa_9 o_9
      have hF := FR_set hF (gs_27 hG) (show (27 : Nat) ∈ ([27] : List Nat) by decide) o_9
      have fb_10 : f_9 (g 15) = .inr (1, [.ref (g 35), .ref (g 27), .ref (g 36), .ref (g 37), .ref (g 38), .ref (g 39), .int kc, va_rf (some b)]) := f_at o_9 (S_ne (gs_15 hG) (gs_27 hG) (show (15 : Nat) ≠ 27 by decide)) f_cat
      have fb_11 : f_9 b = .inr (5, [.int (nI jn), .int (nI (2 * jn)), .ref b_p, .int b_l]) := f_at o_9 (S_ne s_b (gs_27 hG) (show (0 : Nat) ≠ 27 by decide)) f_b
      have fb_12 : f_9 b_p = .inl (cI, b_n, .inl b_c) := f_at o_9 (S_ne s_b_p (gs_27 hG) (show (1 : Nat) ≠ 27 by decide)) f_b_p
      exact g_vret f_9 hx hb hr hlocks hS rfl (⟨hI, hF⟩) hP hD hQ (Nat.le_of_ble_eq_true rfl) (Nat.le_of_ble_eq_true rfl) dX1_land_71
    · refine lv_aload_n hx hb dX1_land_38 rfl (lv_at hl 0 rfl) ?_
      refine t_get (D := D) (L := L) (f := f) (ci := 1) (v := .ref (g 27)) (C := RX1) (T := TX1) (N := 8) hx hb hts (by decide +kernel) hown hK.1 hP (gm_15 hG) f_cat rfl 1 (by decide) (hts (.fieldLink RX1 15 "JugglingHall$Catches" "source" "[I") (by decide +kernel)) (fun _ h9 => h9) rfl dX1_land_39 ?_
      refine lv_iload_n hx hb dX1_land_42 rfl (lv_at hl 2 rfl) ?_
      refine lv_iconst (v := 1) hx hb dX1_land_43 (by decide) ?_
      refine a_iadd (u := y.toInt) (v := 1) hx hb dX1_land_44 (rfl) (by decide) (by omega) (fun z_13 e_13 => ?_)
      refine lv_aload_n hx hb dX1_land_45 rfl (lv_at hl 0 rfl) ?_
      refine t_get (D := D) (L := L) (f := f) (ci := 1) (v := .ref (g 27)) (C := RX1) (T := TX1) (N := 8) hx hb hts (by decide +kernel) hown hK.1 hP (gm_15 hG) f_cat rfl 1 (by decide) (hts (.fieldLink RX1 15 "JugglingHall$Catches" "source" "[I") (by decide +kernel)) (fun _ h9 => h9) rfl dX1_land_46 ?_
      refine lv_iload_n hx hb dX1_land_49 rfl (lv_at hl 2 rfl) ?_
      refine t_iald (L := L) (f := f) (y := c_1) (u := y.toInt) hx hb hK.1 hP (gm_27 hG) 0 fg_1 rfl dX1_land_50 (rfl) (by omega) (fun z_14 q_14 e_14 => ?_)
      have a1_14 : -1 ≤ z_14.toInt ∧ z_14.toInt ≤ 143 := by rw [q_14]; exact iv0_1 y.toInt (by omega) (by omega)
      refine t_iast (L := L) (f := f) (h := c_1) (u := (y.toInt + 1)) hx hb hK.1 hP hD hS (gm_27 hG) 0 fg_1 rfl dX1_land_51 (e_13) (by omega) (fun g_15 f_15 H locs eg_15 e9_15 o_15 hP hD hS => ?_)
      have ok_15 : ∀ i : Int, 0 ≤ i → i < 144 → -1 ≤ (g_15 i.toNat).toInt ∧ (g_15 i.toNat).toInt ≤ 143 := by rw [eg_15]; exact rng_set iv0_1 (by omega) ⟨by omega, by omega⟩
      have fa_15 : f_15 (g 27) = .inl (cI, 144, .inl g_15) := e9_15
      have hI := IN_set (e := .inl (cI, 144, .inl g_15)) hI (gs_27 hG) (mk_27 ok_15) fa_15 o_15
      have hF := FR_set hF (gs_27 hG) (show (27 : Nat) ∈ ([27] : List Nat) by decide) o_15
      have fb_16 : f_15 (g 15) = .inr (1, [.ref (g 35), .ref (g 27), .ref (g 36), .ref (g 37), .ref (g 38), .ref (g 39), .int kc, va_rf (some b)]) := f_at o_15 (S_ne (gs_15 hG) (gs_27 hG) (show (15 : Nat) ≠ 27 by decide)) f_cat
      have fb_17 : f_15 b = .inr (5, [.int (nI jn), .int (nI (2 * jn)), .ref b_p, .int b_l]) := f_at o_15 (S_ne s_b (gs_27 hG) (show (0 : Nat) ≠ 27 by decide)) f_b
      have fb_18 : f_15 b_p = .inl (cI, b_n, .inl b_c) := f_at o_15 (S_ne s_b_p (gs_27 hG) (show (1 : Nat) ≠ 27 by decide)) f_b_p
      refine lv_aload_n hx hb dX1_land_52 rfl (lv_at hl 0 rfl) ?_
      refine t_get (D := D) (L := L) (f := f_15) (ci := 1) (v := .ref (g 27)) (C := RX1) (T := TX1) (N := 8) hx hb hts (by decide +kernel) hown hK.1 hP (gm_15 hG) fb_16 rfl 1 (by decide) (hts (.fieldLink RX1 15 "JugglingHall$Catches" "source" "[I") (by decide +kernel)) (fun _ h9 => h9) rfl dX1_land_53 ?_
      refine lv_iload_n hx hb dX1_land_56 rfl (lv_at hl 2 rfl) ?_
      refine lv_iload_n hx hb dX1_land_57 rfl (lv_at hl 1 rfl) ?_
      refine t_iast (L := L) (f := f_15) (h := g_15) (u := y.toInt) hx hb hK.1 hP hD hS (gm_27 hG) 0 fa_15 rfl dX1_land_58 (rfl) (by omega) (fun g_19 f_19 H locs eg_19 e9_19 o_19 hP hD hS => ?_)
      have ok_19 : ∀ i : Int, 0 ≤ i → i < 144 → -1 ≤ (g_19 i.toNat).toInt ∧ (g_19 i.toNat).toInt ≤ 143 := by rw [eg_19]; exact rng_set ok_15 (by omega) ⟨by omega, by omega⟩
      have fa_19 : f_19 (g 27) = .inl (cI, 144, .inl g_19) := e9_19
      have hI := IN_set (e := .inl (cI, 144, .inl g_19)) hI (gs_27 hG) (mk_27 ok_19) fa_19 o_19
      have hF := FR_set hF (gs_27 hG) (show (27 : Nat) ∈ ([27] : List Nat) by decide) o_19
      have fb_20 : f_19 (g 15) = .inr (1, [.ref (g 35), .ref (g 27), .ref (g 36), .ref (g 37), .ref (g 38), .ref (g 39), .int kc, va_rf (some b)]) := f_at o_19 (S_ne (gs_15 hG) (gs_27 hG) (show (15 : Nat) ≠ 27 by decide)) fb_16
      have fb_21 : f_19 b = .inr (5, [.int (nI jn), .int (nI (2 * jn)), .ref b_p, .int b_l]) := f_at o_19 (S_ne s_b (gs_27 hG) (show (0 : Nat) ≠ 27 by decide)) fb_17
      have fb_22 : f_19 b_p = .inl (cI, b_n, .inl b_c) := f_at o_19 (S_ne s_b_p (gs_27 hG) (show (1 : Nat) ≠ 27 by decide)) fb_18
      refine lv_goto (tgt := 71) hx hb dX1_land_59 (by decide) ?_
      exact g_vret f_19 hx hb hr hlocks hS rfl (⟨hI, hF⟩) hP hD hQ (Nat.le_of_ble_eq_true rfl) (Nat.le_of_ble_eq_true rfl) dX1_land_71
  · refine lv_aload_n hx hb dX1_land_10 rfl (lv_at hl 0 rfl) ?_
    refine t_get (D := D) (L := L) (f := f) (ci := 1) (v := .ref (g 27)) (C := RX1) (T := TX1) (N := 8) hx hb hts (by decide +kernel) hown hK.1 hP (gm_15 hG) f_cat rfl 1 (by decide) (hts (.fieldLink RX1 15 "JugglingHall$Catches" "source" "[I") (by decide +kernel)) (fun _ h9 => h9) rfl dX1_land_11 ?_
    refine lv_iload_n hx hb dX1_land_14 rfl (lv_at hl 2 rfl) ?_
    refine lv_iload_n hx hb dX1_land_15 rfl (lv_at hl 1 rfl) ?_
    refine t_iast (L := L) (f := f) (h := c_1) (u := y.toInt) hx hb hK.1 hP hD hS (gm_27 hG) 0 fg_1 rfl dX1_land_16 (rfl) (by omega) (fun g_23 f_23 H locs eg_23 e9_23 o_23 hP hD hS => ?_)
    have ok_23 : ∀ i : Int, 0 ≤ i → i < 144 → -1 ≤ (g_23 i.toNat).toInt ∧ (g_23 i.toNat).toInt ≤ 143 := by rw [eg_23]; exact rng_set iv0_1 (by omega) ⟨by omega, by omega⟩
    have fa_23 : f_23 (g 27) = .inl (cI, 144, .inl g_23) := e9_23
    have hI := IN_set (e := .inl (cI, 144, .inl g_23)) hI (gs_27 hG) (mk_27 ok_23) fa_23 o_23
    have hF := FR_set hF (gs_27 hG) (show (27 : Nat) ∈ ([27] : List Nat) by decide) o_23
    have fb_24 : f_23 (g 15) = .inr (1, [.ref (g 35), .ref (g 27), .ref (g 36), .ref (g 37), .ref (g 38), .ref (g 39), .int kc, va_rf (some b)]) := f_at o_23 (S_ne (gs_15 hG) (gs_27 hG) (show (15 : Nat) ≠ 27 by decide)) f_cat
    have fb_25 : f_23 b = .inr (5, [.int (nI jn), .int (nI (2 * jn)), .ref b_p, .int b_l]) := f_at o_23 (S_ne s_b (gs_27 hG) (show (0 : Nat) ≠ 27 by decide)) f_b
    have fb_26 : f_23 b_p = .inl (cI, b_n, .inl b_c) := f_at o_23 (S_ne s_b_p (gs_27 hG) (show (1 : Nat) ≠ 27 by decide)) f_b_p
    refine lv_goto (tgt := 71) hx hb dX1_land_17 (by decide) ?_
    exact g_vret f_23 hx hb hr hlocks hS rfl (⟨hI, hF⟩) hP hD hQ (Nat.le_of_ble_eq_true rfl) (Nat.le_of_ble_eq_true rfl) dX1_land_71
set_option maxRecDepth 100000 in
set_option maxHeartbeats 4000000 in
theorem t_X1_isStart (l : Launch) (D : va_G) (cI cR cM : ClassId) (sz : Nat) {jn : Nat} {g : Nat → Nat} {L : List Nat} {S : Sg} {f : Nat → va_E} {kc : Int32} {b b_p b_n : Nat} {b_l : Int32} {b_c : Nat → Int32} {x y : Int32}  (hj : 1 ≤ jn ∧ jn ≤ 3) (hG : SG g L S) (hI : IN jn cI cR cM g L S f) (f_cat : f (g 15) = .inr (1, [.ref (g 35), .ref (g 27), .ref (g 36), .ref (g 37), .ref (g 38), .ref (g 39), .int kc, va_rf (some b)])) (m_b : b ∈ L) (s_b : S b = (0, b_p, b_n)) (f_b : f b = .inr (5, [.int (nI jn), .int (nI (2 * jn)), .ref b_p, .int b_l])) (f_b_p : f b_p = .inl (cI, b_n, .inl b_c)) (hy0 : y.toInt ≤ 143) : Met l yX1_isStart wsX1_isStart ({ frames := 1, cells := 0, slots := 0, locals := 21 }) (P0 D cI cR cM [.ref (g 15), .int x, .int y] sz (va_pl L f)) (QP (fun r => (r.toInt = 0 ∨ r.toInt = 1)) sz) 0 0 (va_A [] sz) := by
  refine go (cc := cX1_isStart) (maxL := 3) (ret := (some .boolean)) (by decide +kernel) rfl (Nat.le_of_ble_eq_true rfl) ?_
  intro p e s m below meth c ls args Q hQ hsz hx hb hr hml hts hown hlocks hnm hP hK hD hl
  subst hsz
  have hS : va_S (va_A [] s.heap.size) s.heap s.heap [] := va_S.rf
  have hA : ∀ q, s.heap.size ≤ q → va_A [] s.heap.size q := fun q h => Or.inr h
  have hl : lv_has ls 3 [(0, .ref (g 15)), (1, .int x), (2, .int y)] := hl
  obtain ⟨v1_cat, v2_cat, v3_cat⟩ := iv_15 hI (gm_15 hG) (gs_15 hG) f_cat
  obtain ⟨v1_b, v2_b, v3_b, m_b_p, s_b_p⟩ := iv_0 hI m_b s_b f_b
  obtain ⟨w1_b, w2_b, w3_b, w4_b, w5_b⟩ := lenw hj v1_b v2_b v3_b
  have k_b := iv_1 hI m_b_p s_b_p f_b_p
  refine lv_aload_n hx hb dX1_isStart_0 rfl (lv_at hl 0 rfl) ?_
  refine t_get (D := D) (L := L) (f := f) (ci := 1) (v := .ref b) (C := RX1) (T := TX1) (N := 8) hx hb hts (by decide +kernel) hown hK.1 hP (gm_15 hG) f_cat rfl 7 (by decide) (hts (.fieldLink RX1 60 "JugglingHall$Catches" "row" "LJugglingHall$Row;") (by decide +kernel)) (fun _ h9 => h9) rfl dX1_isStart_1 ?_
  refine lv_iload_n hx hb dX1_isStart_4 rfl (lv_at hl 2 rfl) ?_
  refine roP (va_runV (As := [.int y]) (rest := []) ⟨hx, hb, hml, hown, hts⟩ (t_X5_isThrow l D cI cR cM _  hj hG hI m_b s_b f_b f_b_p ) (cwV 1 hts gX1_isStart_X5_isThrow rfl rfl rfl (by decide +kernel) ⟨Nat.le_of_ble_eq_true rfl, Nat.le_of_ble_eq_true rfl⟩) (pre_T hK hP hD m_b f_b rfl) rfl rfl hl.1 rfl (lv_room (Nat.le_of_ble_eq_true rfl)) dX1_isStart_5 ⟨Nat.le_of_ble_eq_true rfl, Nat.le_of_ble_eq_true rfl⟩) hS hA hP (fun r_1 H locs hw hP hS => ?_)
  obtain ⟨h_1, h01_1⟩ : (r_1.toInt = 1 → 0 ≤ y.toInt ∧ y.toInt < (b_n : Int) ∧ (b_c y.toInt.toNat).toInt ≠ 0) ∧ (r_1.toInt = 0 ∨ r_1.toInt = 1) := hw
  refine a_if_eq (u := r_1.toInt) (tgt := 32) hx hb dX1_isStart_8 (by decide) (rfl) (fun c_2 => ?_) (fun c_2 => ?_)
  · refine lv_iconst (v := 0) hx hb dX1_isStart_32 (by decide) ?_
    have hz_3 : (0 : Int32).toInt = 0 := by decide
    exact rp_zret hx hb hr hlocks hS (by first | exact Or.inl rfl | exact Or.inr rfl) (show (0 : Int32).toInt = 0 ∨ (0 : Int32).toInt = 1 from (by first | assumption | omega)) hQ dX1_isStart_33
  · refine lv_aload_n hx hb dX1_isStart_11 rfl (lv_at hl 0 rfl) ?_
    refine t_get (D := D) (L := L) (f := f) (ci := 1) (v := .ref b) (C := RX1) (T := TX1) (N := 8) hx hb hts (by decide +kernel) hown hK.1 hP (gm_15 hG) f_cat rfl 7 (by decide) (hts (.fieldLink RX1 60 "JugglingHall$Catches" "row" "LJugglingHall$Row;") (by decide +kernel)) (fun _ h9 => h9) rfl dX1_isStart_12 ?_
    refine lv_aload_n hx hb dX1_isStart_15 rfl (lv_at hl 0 rfl) ?_
    refine t_get (D := D) (L := L) (f := f) (ci := 1) (v := .ref (g 27)) (C := RX1) (T := TX1) (N := 8) hx hb hts (by decide +kernel) hown hK.1 hP (gm_15 hG) f_cat rfl 1 (by decide) (hts (.fieldLink RX1 15 "JugglingHall$Catches" "source" "[I") (by decide +kernel)) (fun _ h9 => h9) rfl dX1_isStart_16 ?_
    refine lv_iload_n hx hb dX1_isStart_19 rfl (lv_at hl 2 rfl) ?_
    obtain ⟨c_4, fg_4, iv0_4⟩ := op_27 hI (gm_27 hG) (gs_27 hG)
    refine t_iald (L := L) (f := f) (y := c_4) (u := y.toInt) hx hb hK.1 hP (gm_27 hG) 0 fg_4 rfl dX1_isStart_20 (rfl) (by omega) (fun z_5 q_5 e_5 => ?_)
    have a1_5 : -1 ≤ z_5.toInt ∧ z_5.toInt ≤ 143 := by rw [q_5]; exact iv0_4 y.toInt (by omega) (by omega)
    refine roP (va_runV (As := [.int z_5]) (rest := []) ⟨hx, hb, hml, hown, hts⟩ (t_X5_height l D cI cR cM _  hj hG hI m_b s_b f_b f_b_p ) (cwV 1 hts gX1_isStart_X5_height rfl rfl rfl (by decide +kernel) ⟨Nat.le_of_ble_eq_true rfl, Nat.le_of_ble_eq_true rfl⟩) (pre_T hK hP hD m_b f_b rfl) rfl rfl hl.1 rfl (lv_room (Nat.le_of_ble_eq_true rfl)) dX1_isStart_21 ⟨Nat.le_of_ble_eq_true rfl, Nat.le_of_ble_eq_true rfl⟩) hS hA hP (fun r_6 H locs hw hP hS => ?_)
    have h_6 : (0 ≤ r_6.toInt ∧ r_6.toInt ≤ 9) := hw
    refine lv_iload_n hx hb dX1_isStart_24 rfl (lv_at hl 1 rfl) ?_
    refine a_icmp_le (u := r_6.toInt) (v := x.toInt) (tgt := 32) hx hb dX1_isStart_25 (by decide) (rfl) (rfl) (fun c_7 => ?_) (fun c_7 => ?_)
    · refine lv_iconst (v := 0) hx hb dX1_isStart_32 (by decide) ?_
      have hz_8 : (0 : Int32).toInt = 0 := by decide
      exact rp_zret hx hb hr hlocks hS (by first | exact Or.inl rfl | exact Or.inr rfl) (show (0 : Int32).toInt = 0 ∨ (0 : Int32).toInt = 1 from (by first | assumption | omega)) hQ dX1_isStart_33
    · refine lv_iconst (v := 1) hx hb dX1_isStart_28 (by decide) ?_
      refine lv_goto (tgt := 33) hx hb dX1_isStart_29 (by decide) ?_
      have hz_9 : (1 : Int32).toInt = 1 := by decide
      exact rp_zret hx hb hr hlocks hS (by first | exact Or.inl rfl | exact Or.inr rfl) (show (1 : Int32).toInt = 0 ∨ (1 : Int32).toInt = 1 from (by first | assumption | omega)) hQ dX1_isStart_33
set_option maxRecDepth 100000 in
set_option maxHeartbeats 4000000 in
theorem t_X1_follow (l : Launch) (D : va_G) (cI cR cM : ClassId) (sz : Nat) {jn : Nat} {g : Nat → Nat} {L : List Nat} {S : Sg} {f : Nat → va_E} {kc : Int32} {b b_p b_n : Nat} {b_l : Int32} {b_c : Nat → Int32} {x : Int32}  (hj : 1 ≤ jn ∧ jn ≤ 3) (hG : SG g L S) (hI : IN jn cI cR cM g L S f) (f_cat : f (g 15) = .inr (1, [.ref (g 35), .ref (g 27), .ref (g 36), .ref (g 37), .ref (g 38), .ref (g 39), .int kc, va_rf (some b)])) (m_b : b ∈ L) (s_b : S b = (0, b_p, b_n)) (f_b : f b = .inr (5, [.int (nI jn), .int (nI (2 * jn)), .ref b_p, .int b_l])) (f_b_p : f b_p = .inl (cI, b_n, .inl b_c)) (hx0 : 0 ≤ x.toInt ∧ x.toInt ≤ 143) (hk : kc.toInt < 144) : Met l yX1_follow wsX1_follow ({ frames := 1, cells := 0, slots := 0, locals := 21 }) (P0 D cI cR cM [.ref (g 15), .int x] sz (va_pl L f)) (QG (S := Nat → va_E) (fun u => none) (fun u => va_pl L u) (fun u => IN jn cI cR cM g L S u ∧ FR S [15, 36, 37, 38, 39] f u ∧ (∃ k9 : Int32, u (g 15) = .inr (1, [.ref (g 35), .ref (g 27), .ref (g 36), .ref (g 37), .ref (g 38), .ref (g 39), .int k9, va_rf (some b)]) ∧ k9.toInt = kc.toInt + 1)) D (va_A (va_pl L f) sz)) 0 0 (va_A (va_pl L f) sz) := by
  refine go (cc := cX1_follow) (maxL := 4) (ret := none) (by decide +kernel) rfl (Nat.le_of_ble_eq_true rfl) ?_
  intro p e s m below meth c ls args Q hQ hsz hx hb hr hml hts hown hlocks hnm hP hK hD hl
  subst hsz
  have hD := hD.self (sz := s.heap.size)
  generalize hAe : va_A (va_pl L f) s.heap.size = A at hD hQ
  have hA : ∀ q, s.heap.size ≤ q → A q := fun q h => by rw [← hAe]; exact Or.inr h
  have hS : va_S A s.heap s.heap [] := va_S.rf
  have hF : FR S [15, 36, 37, 38, 39] f f := FR_rf
  have hl : lv_has ls 4 [(0, .ref (g 15)), (1, .int x)] := hl
  obtain ⟨v1_cat, v2_cat, v3_cat⟩ := iv_15 hI (gm_15 hG) (gs_15 hG) f_cat
  obtain ⟨v1_b, v2_b, v3_b, m_b_p, s_b_p⟩ := iv_0 hI m_b s_b f_b
  obtain ⟨w1_b, w2_b, w3_b, w4_b, w5_b⟩ := lenw hj v1_b v2_b v3_b
  have k_b := iv_1 hI m_b_p s_b_p f_b_p
  refine lv_aload_n hx hb dX1_follow_0 rfl (lv_at hl 0 rfl) ?_
  refine t_get (D := D) (L := L) (f := f) (ci := 1) (v := .ref (g 37)) (C := RX1) (T := TX1) (N := 8) hx hb hts (by decide +kernel) hown hK.1 hP (gm_15 hG) f_cat rfl 3 (by decide) (hts (.fieldLink RX1 21 "JugglingHall$Catches" "firstCell" "[I") (by decide +kernel)) (fun _ h9 => h9) rfl dX1_follow_1 ?_
  refine lv_aload_n hx hb dX1_follow_4 rfl (lv_at hl 0 rfl) ?_
  refine t_get (D := D) (L := L) (f := f) (ci := 1) (v := .int kc) (C := RX1) (T := TX1) (N := 8) hx hb hts (by decide +kernel) hown hK.1 hP (gm_15 hG) f_cat rfl 6 (by decide) (hts (.fieldLink RX1 64 "JugglingHall$Catches" "count" "I") (by decide +kernel)) (fun _ h9 => h9) rfl dX1_follow_5 ?_
  refine lv_iload_n hx hb dX1_follow_8 rfl (lv_at hl 1 rfl) ?_
  obtain ⟨c_1, fg_1⟩ := op_37 hI (gm_37 hG) (gs_37 hG)
  refine t_iast (L := L) (f := f) (h := c_1) (u := kc.toInt) hx hb hK.1 hP hD hS (gm_37 hG) 0 fg_1 rfl dX1_follow_9 (rfl) (by omega) (fun g_2 f_2 H locs eg_2 e9_2 o_2 hP hD hS => ?_)
  have fa_2 : f_2 (g 37) = .inl (cI, 144, .inl g_2) := e9_2
  have hI := IN_set (e := .inl (cI, 144, .inl g_2)) hI (gs_37 hG) (mk_37) fa_2 o_2
  have hF := FR_set hF (gs_37 hG) (show (37 : Nat) ∈ ([15, 36, 37, 38, 39] : List Nat) by decide) o_2
  have fb_3 : f_2 (g 15) = .inr (1, [.ref (g 35), .ref (g 27), .ref (g 36), .ref (g 37), .ref (g 38), .ref (g 39), .int kc, va_rf (some b)]) := f_at o_2 (S_ne (gs_15 hG) (gs_37 hG) (show (15 : Nat) ≠ 37 by decide)) f_cat
  have fb_4 : f_2 b = .inr (5, [.int (nI jn), .int (nI (2 * jn)), .ref b_p, .int b_l]) := f_at o_2 (S_ne s_b (gs_37 hG) (show (0 : Nat) ≠ 37 by decide)) f_b
  have fb_5 : f_2 b_p = .inl (cI, b_n, .inl b_c) := f_at o_2 (S_ne s_b_p (gs_37 hG) (show (1 : Nat) ≠ 37 by decide)) f_b_p
  refine lv_aload_n hx hb dX1_follow_10 rfl (lv_at hl 0 rfl) ?_
  refine t_get (D := D) (L := L) (f := f_2) (ci := 1) (v := .ref (g 38)) (C := RX1) (T := TX1) (N := 8) hx hb hts (by decide +kernel) hown hK.1 hP (gm_15 hG) fb_3 rfl 4 (by decide) (hts (.fieldLink RX1 24 "JugglingHall$Catches" "size" "[I") (by decide +kernel)) (fun _ h9 => h9) rfl dX1_follow_11 ?_
  refine lv_aload_n hx hb dX1_follow_14 rfl (lv_at hl 0 rfl) ?_
  refine t_get (D := D) (L := L) (f := f_2) (ci := 1) (v := .int kc) (C := RX1) (T := TX1) (N := 8) hx hb hts (by decide +kernel) hown hK.1 hP (gm_15 hG) fb_3 rfl 6 (by decide) (hts (.fieldLink RX1 64 "JugglingHall$Catches" "count" "I") (by decide +kernel)) (fun _ h9 => h9) rfl dX1_follow_15 ?_
  refine lv_iconst (v := 0) hx hb dX1_follow_18 (by decide) ?_
  obtain ⟨c_6, fg_6⟩ := op_38 hI (gm_38 hG) (gs_38 hG)
  have hz_8 : (0 : Int32).toInt = 0 := by decide
  refine t_iast (L := L) (f := f_2) (h := c_6) (u := kc.toInt) hx hb hK.1 hP hD hS (gm_38 hG) 0 fg_6 rfl dX1_follow_19 (rfl) (by omega) (fun g_7 f_7 H locs eg_7 e9_7 o_7 hP hD hS => ?_)
  have fa_7 : f_7 (g 38) = .inl (cI, 144, .inl g_7) := e9_7
  have hI := IN_set (e := .inl (cI, 144, .inl g_7)) hI (gs_38 hG) (mk_38) fa_7 o_7
  have hF := FR_set hF (gs_38 hG) (show (38 : Nat) ∈ ([15, 36, 37, 38, 39] : List Nat) by decide) o_7
  have fb_9 : f_7 (g 15) = .inr (1, [.ref (g 35), .ref (g 27), .ref (g 36), .ref (g 37), .ref (g 38), .ref (g 39), .int kc, va_rf (some b)]) := f_at o_7 (S_ne (gs_15 hG) (gs_38 hG) (show (15 : Nat) ≠ 38 by decide)) fb_3
  have fb_10 : f_7 b = .inr (5, [.int (nI jn), .int (nI (2 * jn)), .ref b_p, .int b_l]) := f_at o_7 (S_ne s_b (gs_38 hG) (show (0 : Nat) ≠ 38 by decide)) fb_4
  have fb_11 : f_7 b_p = .inl (cI, b_n, .inl b_c) := f_at o_7 (S_ne s_b_p (gs_38 hG) (show (1 : Nat) ≠ 38 by decide)) fb_5
  have fb_12 : f_7 (g 37) = .inl (cI, 144, .inl g_2) := f_at o_7 (S_ne (gs_37 hG) (gs_38 hG) (show (37 : Nat) ≠ 38 by decide)) fa_2
  refine lv_aload_n hx hb dX1_follow_20 rfl (lv_at hl 0 rfl) ?_
  refine t_get (D := D) (L := L) (f := f_7) (ci := 1) (v := .ref (g 39)) (C := RX1) (T := TX1) (N := 8) hx hb hts (by decide +kernel) hown hK.1 hP (gm_15 hG) fb_9 rfl 5 (by decide) (hts (.fieldLink RX1 27 "JugglingHall$Catches" "period" "[I") (by decide +kernel)) (fun _ h9 => h9) rfl dX1_follow_21 ?_
  refine lv_aload_n hx hb dX1_follow_24 rfl (lv_at hl 0 rfl) ?_
  refine t_get (D := D) (L := L) (f := f_7) (ci := 1) (v := .int kc) (C := RX1) (T := TX1) (N := 8) hx hb hts (by decide +kernel) hown hK.1 hP (gm_15 hG) fb_9 rfl 6 (by decide) (hts (.fieldLink RX1 64 "JugglingHall$Catches" "count" "I") (by decide +kernel)) (fun _ h9 => h9) rfl dX1_follow_25 ?_
  refine lv_iconst (v := 0) hx hb dX1_follow_28 (by decide) ?_
  obtain ⟨c_13, fg_13⟩ := op_39 hI (gm_39 hG) (gs_39 hG)
  have hz_15 : (0 : Int32).toInt = 0 := by decide
  refine t_iast (L := L) (f := f_7) (h := c_13) (u := kc.toInt) hx hb hK.1 hP hD hS (gm_39 hG) 0 fg_13 rfl dX1_follow_29 (rfl) (by omega) (fun g_14 f_14 H locs eg_14 e9_14 o_14 hP hD hS => ?_)
  have fa_14 : f_14 (g 39) = .inl (cI, 144, .inl g_14) := e9_14
  have hI := IN_set (e := .inl (cI, 144, .inl g_14)) hI (gs_39 hG) (mk_39) fa_14 o_14
  have hF := FR_set hF (gs_39 hG) (show (39 : Nat) ∈ ([15, 36, 37, 38, 39] : List Nat) by decide) o_14
  have fb_16 : f_14 (g 15) = .inr (1, [.ref (g 35), .ref (g 27), .ref (g 36), .ref (g 37), .ref (g 38), .ref (g 39), .int kc, va_rf (some b)]) := f_at o_14 (S_ne (gs_15 hG) (gs_39 hG) (show (15 : Nat) ≠ 39 by decide)) fb_9
  have fb_17 : f_14 b = .inr (5, [.int (nI jn), .int (nI (2 * jn)), .ref b_p, .int b_l]) := f_at o_14 (S_ne s_b (gs_39 hG) (show (0 : Nat) ≠ 39 by decide)) fb_10
  have fb_18 : f_14 b_p = .inl (cI, b_n, .inl b_c) := f_at o_14 (S_ne s_b_p (gs_39 hG) (show (1 : Nat) ≠ 39 by decide)) fb_11
  have fb_19 : f_14 (g 37) = .inl (cI, 144, .inl g_2) := f_at o_14 (S_ne (gs_37 hG) (gs_39 hG) (show (37 : Nat) ≠ 39 by decide)) fb_12
  have fb_20 : f_14 (g 38) = .inl (cI, 144, .inl g_7) := f_at o_14 (S_ne (gs_38 hG) (gs_39 hG) (show (38 : Nat) ≠ 39 by decide)) fa_7
  refine lv_iload_n hx hb dX1_follow_30 rfl (lv_at hl 1 rfl) ?_
  refine lv_istore_n (lv' := [(2, .int x), (0, .ref (g 15)), (1, .int x)]) hx hb dX1_follow_31 rfl hl (by decide) rfl (fun ls hl => ?_)
  refine lv_iconst (v := 0) hx hb dX1_follow_32 (by decide) ?_
  refine lv_istore_n (lv' := [(3, .int 0), (2, .int x), (0, .ref (g 15)), (1, .int x)]) hx hb dX1_follow_33 rfl hl (by decide) rfl (fun ls hl => ?_)
  have loop34 : ∀ (ddloop34 : Nat) (ce : Int32) (ii : Int32) (k2 : Int32) (f_21 : Nat → va_E) (H : Heap) (locs : List Loc) (ls : Array Slot), (200 - ii.toInt).toNat < ddloop34 → IN jn cI cR cM g L S f_21 → FR S [15, 36, 37, 38, 39] f f_21 → (f_21 (g 15) = .inr (1, [.ref (g 35), .ref (g 27), .ref (g 36), .ref (g 37), .ref (g 38), .ref (g 39), .int k2, va_rf (some b)])) → (-1 ≤ ce.toInt ∧ ce.toInt ≤ 143 ∧ 0 ≤ ii.toInt ∧ ii.toInt ≤ 144) → (k2.toInt = kc.toInt) → va_P D vwCl (va_pl L f_21) H → va_D A (va_pl L f_21) → va_S A s.heap H locs → lv_has ls 4 [(0, .ref (g 15)), (1, .int x), (2, .int ce), (3, .int ii)] → W p l e ({ frames := 1, cells := 0, slots := 0, locals := 21 }) s m args below meth c H locs 0 0 Q (F0 m 34 ls []) := by
    intro ddloop34
    induction ddloop34 with
    | zero =>
      intro ce ii k2 f_21 H locs ls hdd
      exact absurd hdd (Nat.not_lt_zero _)
    | succ ddloop34 ih34 =>
      intro ce ii k2 f_21 H locs ls hdd hI hF fc_21_g15 hi hk2 hP hD hS hl
      obtain ⟨iv0_22, iv1_22, iv2_22⟩ := iv_15 hI (gm_15 hG) (gs_15 hG) fc_21_g15
      have fb_23 : f_21 b = .inr (5, [.int (nI jn), .int (nI (2 * jn)), .ref b_p, .int b_l]) := FR_at hF s_b (show (0 : Nat) ∉ ([15, 36, 37, 38, 39] : List Nat) by decide) f_b
      have fb_24 : f_21 b_p = .inl (cI, b_n, .inl b_c) := FR_at hF s_b_p (show (1 : Nat) ∉ ([15, 36, 37, 38, 39] : List Nat) by decide) f_b_p
      refine lv_iload_n hx hb dX1_follow_34 rfl (lv_at hl 3 rfl) ?_
      refine lv_sipush (v := 144) hx hb dX1_follow_35 (by decide) ?_
      refine a_icmp_ge (u := ii.toInt) (v := 144) (tgt := 112) hx hb dX1_follow_38 (by decide) (rfl) (by decide) (fun c_25 => ?_) (fun c_25 => ?_)
      · refine lv_aload_n hx hb dX1_follow_112 rfl (lv_at hl 0 rfl) ?_
        refine lv_dup hx hb dX1_follow_113 rfl ?_
        refine t_get (D := D) (L := L) (f := f_21) (ci := 1) (v := .int k2) (C := RX1) (T := TX1) (N := 8) hx hb hts (by decide +kernel) hown hK.1 hP (gm_15 hG) fc_21_g15 rfl 6 (by decide) (hts (.fieldLink RX1 64 "JugglingHall$Catches" "count" "I") (by decide +kernel)) (fun _ h9 => h9) rfl dX1_follow_114 ?_
        refine lv_iconst (v := 1) hx hb dX1_follow_117 (by decide) ?_
        refine a_iadd (u := k2.toInt) (v := 1) hx hb dX1_follow_118 (rfl) (by decide) (by omega) (fun z_26 e_26 => ?_)
        refine t_put (D := D) (L := L) (f := f_21) (ci := 1) (v := .int z_26) (ty := .int) (C := RX1) (T := TX1) (N := 8) hx hb hts (by decide +kernel) tyX1 tyX1_ok nmX1 hown hK.1 hP hD hS (gm_15 hG) fc_21_g15 rfl 6 (by decide) (hts (.fieldLink RX1 64 "JugglingHall$Catches" "count" "I") (by decide +kernel)) (fun _ h9 => h9) rfl (by decide +kernel) rfl rfl (Nat.le_of_ble_eq_true rfl) dX1_follow_119 (fun f_27 H locs e9_27 o_27 hP hD hS => ?_)
        have fa_27 : f_27 (g 15) = .inr (1, [.ref (g 35), .ref (g 27), .ref (g 36), .ref (g 37), .ref (g 38), .ref (g 39), .int z_26, va_rf (some b)]) := e9_27
        have hI := IN_set (e := .inr (1, [.ref (g 35), .ref (g 27), .ref (g 36), .ref (g 37), .ref (g 38), .ref (g 39), .int z_26, va_rf (some b)])) hI (gs_15 hG) (mk_15 (by first | assumption | omega) (by first | assumption | omega) (fun r9 h9 => by cases h9; exact ⟨_, _, m_b, s_b⟩)) fa_27 o_27
        have hF := FR_set hF (gs_15 hG) (show (15 : Nat) ∈ ([15, 36, 37, 38, 39] : List Nat) by decide) o_27
        have fb_28 : f_27 b = .inr (5, [.int (nI jn), .int (nI (2 * jn)), .ref b_p, .int b_l]) := f_at o_27 (S_ne s_b (gs_15 hG) (show (0 : Nat) ≠ 15 by decide)) fb_23
        have fb_29 : f_27 b_p = .inl (cI, b_n, .inl b_c) := f_at o_27 (S_ne s_b_p (gs_15 hG) (show (1 : Nat) ≠ 15 by decide)) fb_24
        exact g_vret f_27 hx hb hr hlocks hS rfl (⟨hI, hF, show ∃ k9 : Int32, f_27 (g 15) = .inr (1, [.ref (g 35), .ref (g 27), .ref (g 36), .ref (g 37), .ref (g 38), .ref (g 39), .int k9, va_rf (some b)]) ∧ k9.toInt = kc.toInt + 1 from (⟨z_26, fa_27, by omega⟩)⟩) hP hD hQ (Nat.le_of_ble_eq_true rfl) (Nat.le_of_ble_eq_true rfl) dX1_follow_122
      · refine lv_iload_n hx hb dX1_follow_41 rfl (lv_at hl 2 rfl) ?_
        refine lv_iconst (v := (-1)) hx hb dX1_follow_42 (by decide) ?_
        refine a_icmp_eq (u := ce.toInt) (v := (-1)) (tgt := 112) hx hb dX1_follow_43 (by decide) (rfl) (by decide) (fun c_30 => ?_) (fun c_30 => ?_)
        · refine lv_aload_n hx hb dX1_follow_112 rfl (lv_at hl 0 rfl) ?_
          refine lv_dup hx hb dX1_follow_113 rfl ?_
          refine t_get (D := D) (L := L) (f := f_21) (ci := 1) (v := .int k2) (C := RX1) (T := TX1) (N := 8) hx hb hts (by decide +kernel) hown hK.1 hP (gm_15 hG) fc_21_g15 rfl 6 (by decide) (hts (.fieldLink RX1 64 "JugglingHall$Catches" "count" "I") (by decide +kernel)) (fun _ h9 => h9) rfl dX1_follow_114 ?_
          refine lv_iconst (v := 1) hx hb dX1_follow_117 (by decide) ?_
          refine a_iadd (u := k2.toInt) (v := 1) hx hb dX1_follow_118 (rfl) (by decide) (by omega) (fun z_31 e_31 => ?_)
          refine t_put (D := D) (L := L) (f := f_21) (ci := 1) (v := .int z_31) (ty := .int) (C := RX1) (T := TX1) (N := 8) hx hb hts (by decide +kernel) tyX1 tyX1_ok nmX1 hown hK.1 hP hD hS (gm_15 hG) fc_21_g15 rfl 6 (by decide) (hts (.fieldLink RX1 64 "JugglingHall$Catches" "count" "I") (by decide +kernel)) (fun _ h9 => h9) rfl (by decide +kernel) rfl rfl (Nat.le_of_ble_eq_true rfl) dX1_follow_119 (fun f_32 H locs e9_32 o_32 hP hD hS => ?_)
          have fa_32 : f_32 (g 15) = .inr (1, [.ref (g 35), .ref (g 27), .ref (g 36), .ref (g 37), .ref (g 38), .ref (g 39), .int z_31, va_rf (some b)]) := e9_32
          have hI := IN_set (e := .inr (1, [.ref (g 35), .ref (g 27), .ref (g 36), .ref (g 37), .ref (g 38), .ref (g 39), .int z_31, va_rf (some b)])) hI (gs_15 hG) (mk_15 (by first | assumption | omega) (by first | assumption | omega) (fun r9 h9 => by cases h9; exact ⟨_, _, m_b, s_b⟩)) fa_32 o_32
          have hF := FR_set hF (gs_15 hG) (show (15 : Nat) ∈ ([15, 36, 37, 38, 39] : List Nat) by decide) o_32
          have fb_33 : f_32 b = .inr (5, [.int (nI jn), .int (nI (2 * jn)), .ref b_p, .int b_l]) := f_at o_32 (S_ne s_b (gs_15 hG) (show (0 : Nat) ≠ 15 by decide)) fb_23
          have fb_34 : f_32 b_p = .inl (cI, b_n, .inl b_c) := f_at o_32 (S_ne s_b_p (gs_15 hG) (show (1 : Nat) ≠ 15 by decide)) fb_24
          exact g_vret f_32 hx hb hr hlocks hS rfl (⟨hI, hF, show ∃ k9 : Int32, f_32 (g 15) = .inr (1, [.ref (g 35), .ref (g 27), .ref (g 36), .ref (g 37), .ref (g 38), .ref (g 39), .int k9, va_rf (some b)]) ∧ k9.toInt = kc.toInt + 1 from (⟨z_31, fa_32, by omega⟩)⟩) hP hD hQ (Nat.le_of_ble_eq_true rfl) (Nat.le_of_ble_eq_true rfl) dX1_follow_122
        · refine lv_aload_n hx hb dX1_follow_46 rfl (lv_at hl 0 rfl) ?_
          refine t_get (D := D) (L := L) (f := f_21) (ci := 1) (v := .ref (g 36)) (C := RX1) (T := TX1) (N := 8) hx hb hts (by decide +kernel) hown hK.1 hP (gm_15 hG) fc_21_g15 rfl 2 (by decide) (hts (.fieldLink RX1 18 "JugglingHall$Catches" "cycleAt" "[I") (by decide +kernel)) (fun _ h9 => h9) rfl dX1_follow_47 ?_
          refine lv_iload_n hx hb dX1_follow_50 rfl (lv_at hl 2 rfl) ?_
          obtain ⟨c_35, fg_35⟩ := op_36 hI (gm_36 hG) (gs_36 hG)
          refine t_iald (L := L) (f := f_21) (y := c_35) (u := ce.toInt) hx hb hK.1 hP (gm_36 hG) 0 fg_35 rfl dX1_follow_51 (rfl) (by omega) (fun z_36 q_36 e_36 => ?_)
          refine lv_iconst (v := (-1)) hx hb dX1_follow_52 (by decide) ?_
          refine a_icmp_ne (u := z_36.toInt) (v := (-1)) (tgt := 112) hx hb dX1_follow_53 (by decide) (rfl) (by decide) (fun c_37 => ?_) (fun c_37 => ?_)
          · refine lv_aload_n hx hb dX1_follow_112 rfl (lv_at hl 0 rfl) ?_
            refine lv_dup hx hb dX1_follow_113 rfl ?_
            refine t_get (D := D) (L := L) (f := f_21) (ci := 1) (v := .int k2) (C := RX1) (T := TX1) (N := 8) hx hb hts (by decide +kernel) hown hK.1 hP (gm_15 hG) fc_21_g15 rfl 6 (by decide) (hts (.fieldLink RX1 64 "JugglingHall$Catches" "count" "I") (by decide +kernel)) (fun _ h9 => h9) rfl dX1_follow_114 ?_
            refine lv_iconst (v := 1) hx hb dX1_follow_117 (by decide) ?_
            refine a_iadd (u := k2.toInt) (v := 1) hx hb dX1_follow_118 (rfl) (by decide) (by omega) (fun z_38 e_38 => ?_)
            refine t_put (D := D) (L := L) (f := f_21) (ci := 1) (v := .int z_38) (ty := .int) (C := RX1) (T := TX1) (N := 8) hx hb hts (by decide +kernel) tyX1 tyX1_ok nmX1 hown hK.1 hP hD hS (gm_15 hG) fc_21_g15 rfl 6 (by decide) (hts (.fieldLink RX1 64 "JugglingHall$Catches" "count" "I") (by decide +kernel)) (fun _ h9 => h9) rfl (by decide +kernel) rfl rfl (Nat.le_of_ble_eq_true rfl) dX1_follow_119 (fun f_39 H locs e9_39 o_39 hP hD hS => ?_)
            have fa_39 : f_39 (g 15) = .inr (1, [.ref (g 35), .ref (g 27), .ref (g 36), .ref (g 37), .ref (g 38), .ref (g 39), .int z_38, va_rf (some b)]) := e9_39
            have hI := IN_set (e := .inr (1, [.ref (g 35), .ref (g 27), .ref (g 36), .ref (g 37), .ref (g 38), .ref (g 39), .int z_38, va_rf (some b)])) hI (gs_15 hG) (mk_15 (by first | assumption | omega) (by first | assumption | omega) (fun r9 h9 => by cases h9; exact ⟨_, _, m_b, s_b⟩)) fa_39 o_39
            have hF := FR_set hF (gs_15 hG) (show (15 : Nat) ∈ ([15, 36, 37, 38, 39] : List Nat) by decide) o_39
            have fb_40 : f_39 b = .inr (5, [.int (nI jn), .int (nI (2 * jn)), .ref b_p, .int b_l]) := f_at o_39 (S_ne s_b (gs_15 hG) (show (0 : Nat) ≠ 15 by decide)) fb_23
            have fb_41 : f_39 b_p = .inl (cI, b_n, .inl b_c) := f_at o_39 (S_ne s_b_p (gs_15 hG) (show (1 : Nat) ≠ 15 by decide)) fb_24
            have fb_42 : f_39 (g 36) = .inl (cI, 144, .inl c_35) := f_at o_39 (S_ne (gs_36 hG) (gs_15 hG) (show (36 : Nat) ≠ 15 by decide)) fg_35
            exact g_vret f_39 hx hb hr hlocks hS rfl (⟨hI, hF, show ∃ k9 : Int32, f_39 (g 15) = .inr (1, [.ref (g 35), .ref (g 27), .ref (g 36), .ref (g 37), .ref (g 38), .ref (g 39), .int k9, va_rf (some b)]) ∧ k9.toInt = kc.toInt + 1 from (⟨z_38, fa_39, by omega⟩)⟩) hP hD hQ (Nat.le_of_ble_eq_true rfl) (Nat.le_of_ble_eq_true rfl) dX1_follow_122
          · refine lv_aload_n hx hb dX1_follow_56 rfl (lv_at hl 0 rfl) ?_
            refine t_get (D := D) (L := L) (f := f_21) (ci := 1) (v := .ref (g 36)) (C := RX1) (T := TX1) (N := 8) hx hb hts (by decide +kernel) hown hK.1 hP (gm_15 hG) fc_21_g15 rfl 2 (by decide) (hts (.fieldLink RX1 18 "JugglingHall$Catches" "cycleAt" "[I") (by decide +kernel)) (fun _ h9 => h9) rfl dX1_follow_57 ?_
            refine lv_iload_n hx hb dX1_follow_60 rfl (lv_at hl 2 rfl) ?_
            refine lv_aload_n hx hb dX1_follow_61 rfl (lv_at hl 0 rfl) ?_
            refine t_get (D := D) (L := L) (f := f_21) (ci := 1) (v := .int k2) (C := RX1) (T := TX1) (N := 8) hx hb hts (by decide +kernel) hown hK.1 hP (gm_15 hG) fc_21_g15 rfl 6 (by decide) (hts (.fieldLink RX1 64 "JugglingHall$Catches" "count" "I") (by decide +kernel)) (fun _ h9 => h9) rfl dX1_follow_62 ?_
            refine t_iast (L := L) (f := f_21) (h := c_35) (u := ce.toInt) hx hb hK.1 hP hD hS (gm_36 hG) 0 fg_35 rfl dX1_follow_65 (rfl) (by omega) (fun g_43 f_43 H locs eg_43 e9_43 o_43 hP hD hS => ?_)
            have fa_43 : f_43 (g 36) = .inl (cI, 144, .inl g_43) := e9_43
            have hI := IN_set (e := .inl (cI, 144, .inl g_43)) hI (gs_36 hG) (mk_36) fa_43 o_43
            have hF := FR_set hF (gs_36 hG) (show (36 : Nat) ∈ ([15, 36, 37, 38, 39] : List Nat) by decide) o_43
            have fb_44 : f_43 (g 15) = .inr (1, [.ref (g 35), .ref (g 27), .ref (g 36), .ref (g 37), .ref (g 38), .ref (g 39), .int k2, va_rf (some b)]) := f_at o_43 (S_ne (gs_15 hG) (gs_36 hG) (show (15 : Nat) ≠ 36 by decide)) fc_21_g15
            have fb_45 : f_43 b = .inr (5, [.int (nI jn), .int (nI (2 * jn)), .ref b_p, .int b_l]) := f_at o_43 (S_ne s_b (gs_36 hG) (show (0 : Nat) ≠ 36 by decide)) fb_23
            have fb_46 : f_43 b_p = .inl (cI, b_n, .inl b_c) := f_at o_43 (S_ne s_b_p (gs_36 hG) (show (1 : Nat) ≠ 36 by decide)) fb_24
            refine lv_aload_n hx hb dX1_follow_66 rfl (lv_at hl 0 rfl) ?_
            refine t_get (D := D) (L := L) (f := f_43) (ci := 1) (v := .ref (g 38)) (C := RX1) (T := TX1) (N := 8) hx hb hts (by decide +kernel) hown hK.1 hP (gm_15 hG) fb_44 rfl 4 (by decide) (hts (.fieldLink RX1 24 "JugglingHall$Catches" "size" "[I") (by decide +kernel)) (fun _ h9 => h9) rfl dX1_follow_67 ?_
            refine lv_aload_n hx hb dX1_follow_70 rfl (lv_at hl 0 rfl) ?_
            refine t_get (D := D) (L := L) (f := f_43) (ci := 1) (v := .int k2) (C := RX1) (T := TX1) (N := 8) hx hb hts (by decide +kernel) hown hK.1 hP (gm_15 hG) fb_44 rfl 6 (by decide) (hts (.fieldLink RX1 64 "JugglingHall$Catches" "count" "I") (by decide +kernel)) (fun _ h9 => h9) rfl dX1_follow_71 ?_
            refine lv_dup2_11 hx hb dX1_follow_74 rfl rfl ?_
            obtain ⟨c_47, fg_47⟩ := op_38 hI (gm_38 hG) (gs_38 hG)
            refine t_iald (L := L) (f := f_43) (y := c_47) (u := k2.toInt) hx hb hK.1 hP (gm_38 hG) 0 fg_47 rfl dX1_follow_75 (rfl) (by omega) (fun z_48 q_48 e_48 => ?_)
            refine lv_iconst (v := 1) hx hb dX1_follow_76 (by decide) ?_
            refine lv_iadd hx hb dX1_follow_77 ?_
            refine lv_topi (fun z_49 q_49 => ?_)
            refine t_iast (L := L) (f := f_43) (h := c_47) (u := k2.toInt) hx hb hK.1 hP hD hS (gm_38 hG) 0 fg_47 rfl dX1_follow_78 (rfl) (by omega) (fun g_50 f_50 H locs eg_50 e9_50 o_50 hP hD hS => ?_)
            have fa_50 : f_50 (g 38) = .inl (cI, 144, .inl g_50) := e9_50
            have hI := IN_set (e := .inl (cI, 144, .inl g_50)) hI (gs_38 hG) (mk_38) fa_50 o_50
            have hF := FR_set hF (gs_38 hG) (show (38 : Nat) ∈ ([15, 36, 37, 38, 39] : List Nat) by decide) o_50
            have fb_51 : f_50 (g 15) = .inr (1, [.ref (g 35), .ref (g 27), .ref (g 36), .ref (g 37), .ref (g 38), .ref (g 39), .int k2, va_rf (some b)]) := f_at o_50 (S_ne (gs_15 hG) (gs_38 hG) (show (15 : Nat) ≠ 38 by decide)) fb_44
            have fb_52 : f_50 b = .inr (5, [.int (nI jn), .int (nI (2 * jn)), .ref b_p, .int b_l]) := f_at o_50 (S_ne s_b (gs_38 hG) (show (0 : Nat) ≠ 38 by decide)) fb_45
            have fb_53 : f_50 b_p = .inl (cI, b_n, .inl b_c) := f_at o_50 (S_ne s_b_p (gs_38 hG) (show (1 : Nat) ≠ 38 by decide)) fb_46
            have fb_54 : f_50 (g 36) = .inl (cI, 144, .inl g_43) := f_at o_50 (S_ne (gs_36 hG) (gs_38 hG) (show (36 : Nat) ≠ 38 by decide)) fa_43
            refine lv_aload_n hx hb dX1_follow_79 rfl (lv_at hl 0 rfl) ?_
            refine t_get (D := D) (L := L) (f := f_50) (ci := 1) (v := .ref (g 39)) (C := RX1) (T := TX1) (N := 8) hx hb hts (by decide +kernel) hown hK.1 hP (gm_15 hG) fb_51 rfl 5 (by decide) (hts (.fieldLink RX1 27 "JugglingHall$Catches" "period" "[I") (by decide +kernel)) (fun _ h9 => h9) rfl dX1_follow_80 ?_
            refine lv_aload_n hx hb dX1_follow_83 rfl (lv_at hl 0 rfl) ?_
            refine t_get (D := D) (L := L) (f := f_50) (ci := 1) (v := .int k2) (C := RX1) (T := TX1) (N := 8) hx hb hts (by decide +kernel) hown hK.1 hP (gm_15 hG) fb_51 rfl 6 (by decide) (hts (.fieldLink RX1 64 "JugglingHall$Catches" "count" "I") (by decide +kernel)) (fun _ h9 => h9) rfl dX1_follow_84 ?_
            refine lv_dup2_11 hx hb dX1_follow_87 rfl rfl ?_
            obtain ⟨c_55, fg_55⟩ := op_39 hI (gm_39 hG) (gs_39 hG)
            refine t_iald (L := L) (f := f_50) (y := c_55) (u := k2.toInt) hx hb hK.1 hP (gm_39 hG) 0 fg_55 rfl dX1_follow_88 (rfl) (by omega) (fun z_56 q_56 e_56 => ?_)
            refine lv_aload_n hx hb dX1_follow_89 rfl (lv_at hl 0 rfl) ?_
            refine t_get (D := D) (L := L) (f := f_50) (ci := 1) (v := .ref b) (C := RX1) (T := TX1) (N := 8) hx hb hts (by decide +kernel) hown hK.1 hP (gm_15 hG) fb_51 rfl 7 (by decide) (hts (.fieldLink RX1 60 "JugglingHall$Catches" "row" "LJugglingHall$Row;") (by decide +kernel)) (fun _ h9 => h9) rfl dX1_follow_90 ?_
            refine lv_iload_n hx hb dX1_follow_93 rfl (lv_at hl 2 rfl) ?_
            refine roP (va_runV (As := [.int ce]) (rest := [.int z_56, .int k2, .ref (g 39)]) ⟨hx, hb, hml, hown, hts⟩ (t_X5_height l D cI cR cM _  hj hG hI m_b s_b fb_52 fb_53 ) (cwV 1 hts gX1_follow_X5_height rfl rfl rfl (by decide +kernel) ⟨Nat.le_of_ble_eq_true rfl, Nat.le_of_ble_eq_true rfl⟩) (pre_T hK hP hD m_b fb_52 rfl) rfl rfl hl.1 rfl (lv_room (Nat.le_of_ble_eq_true rfl)) dX1_follow_94 ⟨Nat.le_of_ble_eq_true rfl, Nat.le_of_ble_eq_true rfl⟩) hS hA hP (fun r_57 H locs hw hP hS => ?_)
            have h_57 : (0 ≤ r_57.toInt ∧ r_57.toInt ≤ 9) := hw
            refine lv_iadd hx hb dX1_follow_97 ?_
            refine lv_topi (fun z_58 q_58 => ?_)
            refine t_iast (L := L) (f := f_50) (h := c_55) (u := k2.toInt) hx hb hK.1 hP hD hS (gm_39 hG) 0 fg_55 rfl dX1_follow_98 (rfl) (by omega) (fun g_59 f_59 H locs eg_59 e9_59 o_59 hP hD hS => ?_)
            have fa_59 : f_59 (g 39) = .inl (cI, 144, .inl g_59) := e9_59
            have hI := IN_set (e := .inl (cI, 144, .inl g_59)) hI (gs_39 hG) (mk_39) fa_59 o_59
            have hF := FR_set hF (gs_39 hG) (show (39 : Nat) ∈ ([15, 36, 37, 38, 39] : List Nat) by decide) o_59
            have fb_60 : f_59 (g 15) = .inr (1, [.ref (g 35), .ref (g 27), .ref (g 36), .ref (g 37), .ref (g 38), .ref (g 39), .int k2, va_rf (some b)]) := f_at o_59 (S_ne (gs_15 hG) (gs_39 hG) (show (15 : Nat) ≠ 39 by decide)) fb_51
            have fb_61 : f_59 b = .inr (5, [.int (nI jn), .int (nI (2 * jn)), .ref b_p, .int b_l]) := f_at o_59 (S_ne s_b (gs_39 hG) (show (0 : Nat) ≠ 39 by decide)) fb_52
            have fb_62 : f_59 b_p = .inl (cI, b_n, .inl b_c) := f_at o_59 (S_ne s_b_p (gs_39 hG) (show (1 : Nat) ≠ 39 by decide)) fb_53
            have fb_63 : f_59 (g 36) = .inl (cI, 144, .inl g_43) := f_at o_59 (S_ne (gs_36 hG) (gs_39 hG) (show (36 : Nat) ≠ 39 by decide)) fb_54
            have fb_64 : f_59 (g 38) = .inl (cI, 144, .inl g_50) := f_at o_59 (S_ne (gs_38 hG) (gs_39 hG) (show (38 : Nat) ≠ 39 by decide)) fa_50
            refine lv_aload_n hx hb dX1_follow_99 rfl (lv_at hl 0 rfl) ?_
            refine t_get (D := D) (L := L) (f := f_59) (ci := 1) (v := .ref (g 27)) (C := RX1) (T := TX1) (N := 8) hx hb hts (by decide +kernel) hown hK.1 hP (gm_15 hG) fb_60 rfl 1 (by decide) (hts (.fieldLink RX1 15 "JugglingHall$Catches" "source" "[I") (by decide +kernel)) (fun _ h9 => h9) rfl dX1_follow_100 ?_
            refine lv_iload_n hx hb dX1_follow_103 rfl (lv_at hl 2 rfl) ?_
            obtain ⟨c_65, fg_65, iv0_65⟩ := op_27 hI (gm_27 hG) (gs_27 hG)
            refine t_iald (L := L) (f := f_59) (y := c_65) (u := ce.toInt) hx hb hK.1 hP (gm_27 hG) 0 fg_65 rfl dX1_follow_104 (rfl) (by omega) (fun z_66 q_66 e_66 => ?_)
            have a1_66 : -1 ≤ z_66.toInt ∧ z_66.toInt ≤ 143 := by rw [q_66]; exact iv0_65 ce.toInt (by omega) (by omega)
            refine lv_istore_n (lv' := [(2, .int z_66), (0, .ref (g 15)), (1, .int x), (3, .int ii)]) hx hb dX1_follow_105 rfl hl (by decide) rfl (fun ls hl => ?_)
            obtain ⟨z_67, q_67, e_67⟩ := i_inc (a := ii.toInt) (1) (rfl) (by decide) (by omega) (by omega)
            refine lv_iinc (v := z_67) (lv' := [(3, .int z_67), (2, .int z_66), (0, .ref (g 15)), (1, .int x)]) hx hb dX1_follow_106 hl (k := 3) rfl q_67 (by decide) rfl (fun ls hl => ?_)
            refine lv_goto (tgt := 34) hx hb dX1_follow_109 (by decide) ?_
            exact ih34 z_66 z_67 k2 f_59 _ _ _ (by omega) hI hF fb_60 (by first | assumption | omega) (by first | assumption | omega) hP hD hS (lv_sub hl [2, 3, 1, 0] rfl)
  have hz_68 : (0 : Int32).toInt = 0 := by decide
  exact loop34 ((200 - (0 : Int32).toInt).toNat + 1) x (0 : Int32) kc f_14 _ _ _ (by omega) hI hF fb_16 (by first | assumption | omega) (by first | assumption | omega) hP hD hS (lv_sub hl [2, 3, 1, 0] rfl)
set_option maxRecDepth 100000 in
set_option maxHeartbeats 4000000 in
theorem t_X1_lead_null (l : Launch) (D : va_G) (cI cR cM : ClassId) (sz : Nat) {jn : Nat} {g : Nat → Nat} {L : List Nat} {S : Sg} {f : Nat → va_E}  (hj : 1 ≤ jn ∧ jn ≤ 3) (hG : SG g L S) (hI : IN jn cI cR cM g L S f)  : Met l yX1_lead wsX1_lead ({ frames := 0, cells := 0, slots := 0, locals := 0 }) (P0 D cI cR cM [.ref (g 15), .null] sz (va_pl L f)) (QP (fun r => (r.toInt = 0) ∧ (r.toInt = 0 ∨ r.toInt = 1)) sz) 0 0 (va_A [] sz) := by
  refine go (cc := cX1_lead) (maxL := 3) (ret := (some .boolean)) (by decide +kernel) rfl (Nat.le_of_ble_eq_true rfl) ?_
  intro p e s m below meth c ls args Q hQ hsz hx hb hr hml hts hown hlocks hnm hP hK hD hl
  subst hsz
  have hS : va_S (va_A [] s.heap.size) s.heap s.heap [] := va_S.rf
  have hA : ∀ q, s.heap.size ≤ q → va_A [] s.heap.size q := fun q h => Or.inr h
  have hl : lv_has ls 3 [(0, .ref (g 15)), (1, .null)] := hl
  refine lv_aload_nN hx hb dX1_lead_0 rfl (lv_at hl 1 rfl) ?_
  refine lv_ifnullN (tgt := 13) hx hb dX1_lead_1 (by decide) ?_
  refine lv_iconst (v := 0) hx hb dX1_lead_13 (by decide) ?_
  have hz_1 : (0 : Int32).toInt = 0 := by decide
  exact rp_zret hx hb hr hlocks hS (by first | exact Or.inl rfl | exact Or.inr rfl) (⟨show (0 : Int32).toInt = 0 from (by first | assumption | omega), show (0 : Int32).toInt = 0 ∨ (0 : Int32).toInt = 1 from (by first | assumption | omega)⟩) hQ dX1_lead_14
set_option maxRecDepth 100000 in
set_option maxHeartbeats 4000000 in
theorem t_X1_lead (l : Launch) (D : va_G) (cI cR cM : ClassId) (sz : Nat) {jn : Nat} {g : Nat → Nat} {L : List Nat} {S : Sg} {f : Nat → va_E} {b b_p b_n : Nat} {b_l : Int32} {b_c : Nat → Int32}  (hj : 1 ≤ jn ∧ jn ≤ 3) (hG : SG g L S) (hI : IN jn cI cR cM g L S f) (m_b : b ∈ L) (s_b : S b = (0, b_p, b_n)) (f_b : f b = .inr (5, [.int (nI jn), .int (nI (2 * jn)), .ref b_p, .int b_l])) (f_b_p : f b_p = .inl (cI, b_n, .inl b_c))  : Met l yX1_lead wsX1_lead ({ frames := 4, cells := 0, slots := 0, locals := 87 }) (P0 D cI cR cM [.ref (g 15), .ref b] sz (va_pl L f)) (QG (S := Int32 × (Nat → va_E)) (fun u => some (.int u.1)) (fun u => va_pl L u.2) (fun u => IN jn cI cR cM g L S u.2 ∧ FR S [15, 27, 35, 36, 37, 38, 39] f u.2 ∧ (u.1.toInt = 1 → ∃ k9 : Int32, u.2 (g 15) = .inr (1, [.ref (g 35), .ref (g 27), .ref (g 36), .ref (g 37), .ref (g 38), .ref (g 39), .int k9, va_rf (some b)]) ∧ 0 ≤ k9.toInt ∧ k9.toInt ≤ 144) ∧ (u.1.toInt = 0 ∨ u.1.toInt = 1)) D (va_A (va_pl L f) sz)) 0 0 (va_A (va_pl L f) sz) := by
  refine go (cc := cX1_lead) (maxL := 3) (ret := (some .boolean)) (by decide +kernel) rfl (Nat.le_of_ble_eq_true rfl) ?_
  intro p e s m below meth c ls args Q hQ hsz hx hb hr hml hts hown hlocks hnm hP hK hD hl
  subst hsz
  have hD := hD.self (sz := s.heap.size)
  generalize hAe : va_A (va_pl L f) s.heap.size = A at hD hQ
  have hA : ∀ q, s.heap.size ≤ q → A q := fun q h => by rw [← hAe]; exact Or.inr h
  have hS : va_S A s.heap s.heap [] := va_S.rf
  have hF : FR S [15, 27, 35, 36, 37, 38, 39] f f := FR_rf
  have hl : lv_has ls 3 [(0, .ref (g 15)), (1, .ref b)] := hl
  obtain ⟨v1_b, v2_b, v3_b, m_b_p, s_b_p⟩ := iv_0 hI m_b s_b f_b
  obtain ⟨w1_b, w2_b, w3_b, w4_b, w5_b⟩ := lenw hj v1_b v2_b v3_b
  have k_b := iv_1 hI m_b_p s_b_p f_b_p
  refine lv_aload_n hx hb dX1_lead_0 rfl (lv_at hl 1 rfl) ?_
  refine lv_ifnull hx hb dX1_lead_1 ?_
  refine lv_aload_n hx hb dX1_lead_4 rfl (lv_at hl 0 rfl) ?_
  refine lv_aload_n hx hb dX1_lead_5 rfl (lv_at hl 1 rfl) ?_
  obtain ⟨cnt_1, rw_1, fg_1, iv0_1, iv1_1, iv2_1⟩ := op_15 hI (gm_15 hG) (gs_15 hG)
  refine call_p (va_runV (As := [.ref b]) (rest := []) ⟨hx, hb, hml, hown, hts⟩ (t_X1_badPlace l D cI cR cM _  hj hG hI m_b s_b f_b f_b_p ) (cwV 1 hts gX1_lead_X1_badPlace rfl rfl rfl (by decide +kernel) ⟨Nat.le_of_ble_eq_true rfl, Nat.le_of_ble_eq_true rfl⟩) (pre_T hK hP hD (gm_15 hG) fg_1 rfl) rfl rfl hl.1 rfl (lv_room (Nat.le_of_ble_eq_true rfl)) dX1_lead_6 ⟨Nat.le_of_ble_eq_true rfl, Nat.le_of_ble_eq_true rfl⟩) hD hS hA (fun u_2 H locs hw hP hD hS => ?_)
  obtain ⟨r_2, f_2⟩ := u_2
  obtain ⟨hI, hF_2, h_2⟩ : IN jn cI cR cM g L S f_2 ∧ FR S [35] f f_2 ∧ (-1 ≤ r_2.toInt ∧ r_2.toInt ≤ 71) := hw
  have hP : va_P D vwCl (va_pl L f_2) H := hP
  have hD : va_D A (va_pl L f_2) := hD
  have hF := FR_tr hF hF_2 (by decide)
  have fb_3 : f_2 b = .inr (5, [.int (nI jn), .int (nI (2 * jn)), .ref b_p, .int b_l]) := FR_at hF_2 s_b (show (0 : Nat) ∉ ([35] : List Nat) by decide) f_b
  have fb_4 : f_2 b_p = .inl (cI, b_n, .inl b_c) := FR_at hF_2 s_b_p (show (1 : Nat) ∉ ([35] : List Nat) by decide) f_b_p
  have fb_5 : f_2 (g 15) = .inr (1, [.ref (g 35), .ref (g 27), .ref (g 36), .ref (g 37), .ref (g 38), .ref (g 39), .int cnt_1, va_rf rw_1]) := FR_at hF_2 (gs_15 hG) (show (15 : Nat) ∉ ([35] : List Nat) by decide) fg_1
  refine lv_iconst (v := (-1)) hx hb dX1_lead_9 (by decide) ?_
  refine a_icmp_eq (u := r_2.toInt) (v := (-1)) (tgt := 15) hx hb dX1_lead_10 (by decide) (rfl) (by decide) (fun c_6 => ?_) (fun c_6 => ?_)
  · refine lv_aload_n hx hb dX1_lead_15 rfl (lv_at hl 0 rfl) ?_
    refine lv_aload_n hx hb dX1_lead_16 rfl (lv_at hl 1 rfl) ?_
    refine t_put (D := D) (L := L) (f := f_2) (ci := 1) (v := .ref b) (ty := .object "JugglingHall$Row") (C := RX1) (T := TX1) (N := 8) hx hb hts (by decide +kernel) tyX1 tyX1_ok nmX1 hown hK.1 hP hD hS (gm_15 hG) fb_5 rfl 7 (by decide) (hts (.fieldLink RX1 60 "JugglingHall$Catches" "row" "LJugglingHall$Row;") (by decide +kernel)) (fun _ h9 => h9) rfl (by decide +kernel) rfl rfl (Nat.le_of_ble_eq_true rfl) dX1_lead_17 (fun f_7 H locs e9_7 o_7 hP hD hS => ?_)
    have fa_7 : f_7 (g 15) = .inr (1, [.ref (g 35), .ref (g 27), .ref (g 36), .ref (g 37), .ref (g 38), .ref (g 39), .int cnt_1, va_rf (some b)]) := e9_7
    have hI := IN_set (e := .inr (1, [.ref (g 35), .ref (g 27), .ref (g 36), .ref (g 37), .ref (g 38), .ref (g 39), .int cnt_1, va_rf (some b)])) hI (gs_15 hG) (mk_15 (by first | assumption | omega) (by first | assumption | omega) (fun r9 h9 => by cases h9; exact ⟨_, _, m_b, s_b⟩)) fa_7 o_7
    have hF := FR_set hF (gs_15 hG) (show (15 : Nat) ∈ ([15, 27, 35, 36, 37, 38, 39] : List Nat) by decide) o_7
    have fb_8 : f_7 b = .inr (5, [.int (nI jn), .int (nI (2 * jn)), .ref b_p, .int b_l]) := f_at o_7 (S_ne s_b (gs_15 hG) (show (0 : Nat) ≠ 15 by decide)) fb_3
    have fb_9 : f_7 b_p = .inl (cI, b_n, .inl b_c) := f_at o_7 (S_ne s_b_p (gs_15 hG) (show (1 : Nat) ≠ 15 by decide)) fb_4
    refine lv_aload_n hx hb dX1_lead_20 rfl (lv_at hl 0 rfl) ?_
    refine t_get (D := D) (L := L) (f := f_7) (ci := 1) (v := .ref (g 27)) (C := RX1) (T := TX1) (N := 8) hx hb hts (by decide +kernel) hown hK.1 hP (gm_15 hG) fa_7 rfl 1 (by decide) (hts (.fieldLink RX1 15 "JugglingHall$Catches" "source" "[I") (by decide +kernel)) (fun _ h9 => h9) rfl dX1_lead_21 ?_
    refine lv_iconst (v := (-1)) hx hb dX1_lead_24 (by decide) ?_
    obtain ⟨c_10, fg_10, iv0_10⟩ := op_27 hI (gm_27 hG) (gs_27 hG)
    have hP1 := p_one hP (gm_27 hG) fg_10
    have hD1 := d_one (g 27) (.inl (cI, 144, .inl c_10))
    refine call_1 (f := f_7) (w1 := fun k9 => .inl (cI, 144, .inl k9)) (va_runS (As := [.ref (g 27), .int (-1)]) (rest := []) ⟨hx, hb, hml, hown, hts⟩ (c_fill l D cI cR cM _ (n := 144) (by omega) c_10 (g 27) (-1 : Int32)) (va_cwS 2 hts gX1_lead_J7_fill_53178 rfl rfl rfl (by decide +kernel) ⟨Nat.le_of_ble_eq_true rfl, Nat.le_of_ble_eq_true rfl⟩) (pre_S hK hP1 hD1) rfl rfl hl.1 rfl (lv_room (Nat.le_of_ble_eq_true rfl)) dX1_lead_25 ⟨Nat.le_of_ble_eq_true rfl, Nat.le_of_ble_eq_true rfl⟩) hP hD hS hA (gm_27 hG) (fun g_11 f_11 H locs hw_11 e9_11 o_11 hP hD hS => ?_)
    have hw_11 : ∀ j, j < 144 → g_11 j = (-1 : Int32) := hw_11
    have ok_11 : ∀ i : Int, 0 ≤ i → i < 144 → -1 ≤ (g_11 i.toNat).toInt ∧ (g_11 i.toNat).toInt ≤ 143 := fun i i0 i1 => by rw [hw_11 i.toNat (by omega)]; decide
    have fa_11 : f_11 (g 27) = .inl (cI, 144, .inl g_11) := e9_11
    have hI := IN_set (e := .inl (cI, 144, .inl g_11)) hI (gs_27 hG) (mk_27 ok_11) fa_11 o_11
    have hF := FR_set hF (gs_27 hG) (show (27 : Nat) ∈ ([15, 27, 35, 36, 37, 38, 39] : List Nat) by decide) o_11
    have fb_12 : f_11 b = .inr (5, [.int (nI jn), .int (nI (2 * jn)), .ref b_p, .int b_l]) := f_at o_11 (S_ne s_b (gs_27 hG) (show (0 : Nat) ≠ 27 by decide)) fb_8
    have fb_13 : f_11 b_p = .inl (cI, b_n, .inl b_c) := f_at o_11 (S_ne s_b_p (gs_27 hG) (show (1 : Nat) ≠ 27 by decide)) fb_9
    have fb_14 : f_11 (g 15) = .inr (1, [.ref (g 35), .ref (g 27), .ref (g 36), .ref (g 37), .ref (g 38), .ref (g 39), .int cnt_1, va_rf (some b)]) := f_at o_11 (S_ne (gs_15 hG) (gs_27 hG) (show (15 : Nat) ≠ 27 by decide)) fa_7
    refine lv_aload_n hx hb dX1_lead_28 rfl (lv_at hl 0 rfl) ?_
    refine t_get (D := D) (L := L) (f := f_11) (ci := 1) (v := .ref (g 36)) (C := RX1) (T := TX1) (N := 8) hx hb hts (by decide +kernel) hown hK.1 hP (gm_15 hG) fb_14 rfl 2 (by decide) (hts (.fieldLink RX1 18 "JugglingHall$Catches" "cycleAt" "[I") (by decide +kernel)) (fun _ h9 => h9) rfl dX1_lead_29 ?_
    refine lv_iconst (v := (-1)) hx hb dX1_lead_32 (by decide) ?_
    obtain ⟨c_15, fg_15⟩ := op_36 hI (gm_36 hG) (gs_36 hG)
    have hP1 := p_one hP (gm_36 hG) fg_15
    have hD1 := d_one (g 36) (.inl (cI, 144, .inl c_15))
    refine call_1 (f := f_11) (w1 := fun k9 => .inl (cI, 144, .inl k9)) (va_runS (As := [.ref (g 36), .int (-1)]) (rest := []) ⟨hx, hb, hml, hown, hts⟩ (c_fill l D cI cR cM _ (n := 144) (by omega) c_15 (g 36) (-1 : Int32)) (va_cwS 2 hts gX1_lead_J7_fill_53178 rfl rfl rfl (by decide +kernel) ⟨Nat.le_of_ble_eq_true rfl, Nat.le_of_ble_eq_true rfl⟩) (pre_S hK hP1 hD1) rfl rfl hl.1 rfl (lv_room (Nat.le_of_ble_eq_true rfl)) dX1_lead_33 ⟨Nat.le_of_ble_eq_true rfl, Nat.le_of_ble_eq_true rfl⟩) hP hD hS hA (gm_36 hG) (fun g_16 f_16 H locs hw_16 e9_16 o_16 hP hD hS => ?_)
    have hw_16 : ∀ j, j < 144 → g_16 j = (-1 : Int32) := hw_16
    have fa_16 : f_16 (g 36) = .inl (cI, 144, .inl g_16) := e9_16
    have hI := IN_set (e := .inl (cI, 144, .inl g_16)) hI (gs_36 hG) (mk_36) fa_16 o_16
    have hF := FR_set hF (gs_36 hG) (show (36 : Nat) ∈ ([15, 27, 35, 36, 37, 38, 39] : List Nat) by decide) o_16
    have fb_17 : f_16 b = .inr (5, [.int (nI jn), .int (nI (2 * jn)), .ref b_p, .int b_l]) := f_at o_16 (S_ne s_b (gs_36 hG) (show (0 : Nat) ≠ 36 by decide)) fb_12
    have fb_18 : f_16 b_p = .inl (cI, b_n, .inl b_c) := f_at o_16 (S_ne s_b_p (gs_36 hG) (show (1 : Nat) ≠ 36 by decide)) fb_13
    have fb_19 : f_16 (g 15) = .inr (1, [.ref (g 35), .ref (g 27), .ref (g 36), .ref (g 37), .ref (g 38), .ref (g 39), .int cnt_1, va_rf (some b)]) := f_at o_16 (S_ne (gs_15 hG) (gs_36 hG) (show (15 : Nat) ≠ 36 by decide)) fb_14
    have fb_20 : f_16 (g 27) = .inl (cI, 144, .inl g_11) := f_at o_16 (S_ne (gs_27 hG) (gs_36 hG) (show (27 : Nat) ≠ 36 by decide)) fa_11
    refine lv_aload_n hx hb dX1_lead_36 rfl (lv_at hl 0 rfl) ?_
    refine lv_iconst (v := 0) hx hb dX1_lead_37 (by decide) ?_
    have hz_22 : (0 : Int32).toInt = 0 := by decide
    refine t_put (D := D) (L := L) (f := f_16) (ci := 1) (v := .int 0) (ty := .int) (C := RX1) (T := TX1) (N := 8) hx hb hts (by decide +kernel) tyX1 tyX1_ok nmX1 hown hK.1 hP hD hS (gm_15 hG) fb_19 rfl 6 (by decide) (hts (.fieldLink RX1 64 "JugglingHall$Catches" "count" "I") (by decide +kernel)) (fun _ h9 => h9) rfl (by decide +kernel) rfl rfl (Nat.le_of_ble_eq_true rfl) dX1_lead_38 (fun f_21 H locs e9_21 o_21 hP hD hS => ?_)
    have fa_21 : f_21 (g 15) = .inr (1, [.ref (g 35), .ref (g 27), .ref (g 36), .ref (g 37), .ref (g 38), .ref (g 39), .int 0, va_rf (some b)]) := e9_21
    have hI := IN_set (e := .inr (1, [.ref (g 35), .ref (g 27), .ref (g 36), .ref (g 37), .ref (g 38), .ref (g 39), .int 0, va_rf (some b)])) hI (gs_15 hG) (mk_15 (by first | assumption | omega) (by first | assumption | omega) (fun r9 h9 => by cases h9; exact ⟨_, _, m_b, s_b⟩)) fa_21 o_21
    have hF := FR_set hF (gs_15 hG) (show (15 : Nat) ∈ ([15, 27, 35, 36, 37, 38, 39] : List Nat) by decide) o_21
    have fb_23 : f_21 b = .inr (5, [.int (nI jn), .int (nI (2 * jn)), .ref b_p, .int b_l]) := f_at o_21 (S_ne s_b (gs_15 hG) (show (0 : Nat) ≠ 15 by decide)) fb_17
    have fb_24 : f_21 b_p = .inl (cI, b_n, .inl b_c) := f_at o_21 (S_ne s_b_p (gs_15 hG) (show (1 : Nat) ≠ 15 by decide)) fb_18
    have fb_25 : f_21 (g 27) = .inl (cI, 144, .inl g_11) := f_at o_21 (S_ne (gs_27 hG) (gs_15 hG) (show (27 : Nat) ≠ 15 by decide)) fb_20
    have fb_26 : f_21 (g 36) = .inl (cI, 144, .inl g_16) := f_at o_21 (S_ne (gs_36 hG) (gs_15 hG) (show (36 : Nat) ≠ 15 by decide)) fa_16
    refine lv_iconst (v := 0) hx hb dX1_lead_41 (by decide) ?_
    refine lv_istore_n (lv' := [(2, .int 0), (0, .ref (g 15)), (1, .ref b)]) hx hb dX1_lead_42 rfl hl (by decide) rfl (fun ls hl => ?_)
    have loop43 : ∀ (ddloop43 : Nat) (ce : Int32) (k2 : Int32) (f_27 : Nat → va_E) (H : Heap) (locs : List Loc) (ls : Array Slot), (200 - ce.toInt).toNat < ddloop43 → IN jn cI cR cM g L S f_27 → FR S [15, 27, 35, 36, 37, 38, 39] f f_27 → (f_27 (g 15) = .inr (1, [.ref (g 35), .ref (g 27), .ref (g 36), .ref (g 37), .ref (g 38), .ref (g 39), .int k2, va_rf (some b)])) → (0 ≤ ce.toInt ∧ ce.toInt ≤ 144) → (k2.toInt = 0) → va_P D vwCl (va_pl L f_27) H → va_D A (va_pl L f_27) → va_S A s.heap H locs → lv_has ls 3 [(0, .ref (g 15)), (1, .ref b), (2, .int ce)] → W p l e ({ frames := 4, cells := 0, slots := 0, locals := 87 }) s m args below meth c H locs 0 0 Q (F0 m 43 ls []) := by
      intro ddloop43
      induction ddloop43 with
      | zero =>
        intro ce k2 f_27 H locs ls hdd
        exact absurd hdd (Nat.not_lt_zero _)
      | succ ddloop43 ih43 =>
        intro ce k2 f_27 H locs ls hdd hI hF fc_27_g15 hi hk2 hP hD hS hl
        obtain ⟨iv0_28, iv1_28, iv2_28⟩ := iv_15 hI (gm_15 hG) (gs_15 hG) fc_27_g15
        have fb_29 : f_27 b = .inr (5, [.int (nI jn), .int (nI (2 * jn)), .ref b_p, .int b_l]) := FR_at hF s_b (show (0 : Nat) ∉ ([15, 27, 35, 36, 37, 38, 39] : List Nat) by decide) f_b
        have fb_30 : f_27 b_p = .inl (cI, b_n, .inl b_c) := FR_at hF s_b_p (show (1 : Nat) ∉ ([15, 27, 35, 36, 37, 38, 39] : List Nat) by decide) f_b_p
        refine lv_iload_n hx hb dX1_lead_43 rfl (lv_at hl 2 rfl) ?_
        refine lv_aload_n hx hb dX1_lead_44 rfl (lv_at hl 0 rfl) ?_
        refine t_get (D := D) (L := L) (f := f_27) (ci := 1) (v := .ref b) (C := RX1) (T := TX1) (N := 8) hx hb hts (by decide +kernel) hown hK.1 hP (gm_15 hG) fc_27_g15 rfl 7 (by decide) (hts (.fieldLink RX1 60 "JugglingHall$Catches" "row" "LJugglingHall$Row;") (by decide +kernel)) (fun _ h9 => h9) rfl dX1_lead_45 ?_
        refine roP (va_runV (As := []) (rest := [.int ce]) ⟨hx, hb, hml, hown, hts⟩ (t_X5_cellCount l D cI cR cM _  hj hG hI m_b s_b fb_29 fb_30 ) (cwV 0 hts gX1_lead_X5_cellCount rfl rfl rfl (by decide +kernel) ⟨Nat.le_of_ble_eq_true rfl, Nat.le_of_ble_eq_true rfl⟩) (pre_T hK hP hD m_b fb_29 rfl) rfl rfl hl.1 rfl (lv_room (Nat.le_of_ble_eq_true rfl)) dX1_lead_48 ⟨Nat.le_of_ble_eq_true rfl, Nat.le_of_ble_eq_true rfl⟩) hS hA hP (fun r_31 H locs hw hP hS => ?_)
        have h_31 : (r_31.toInt = b_l.toInt * (2 * (jn : Int))) := hw
        refine a_icmp_ge (u := ce.toInt) (v := r_31.toInt) (tgt := 86) hx hb dX1_lead_51 (by decide) (rfl) (rfl) (fun c_32 => ?_) (fun c_32 => ?_)
        · refine lv_iconst (v := 0) hx hb dX1_lead_86 (by decide) ?_
          refine lv_istore_n (lv' := [(2, .int 0), (0, .ref (g 15)), (1, .ref b)]) hx hb dX1_lead_87 rfl hl (by decide) rfl (fun ls hl => ?_)
          have loop88 : ∀ (ddloop88 : Nat) (ce : Int32) (k2 : Int32) (f_33 : Nat → va_E) (H : Heap) (locs : List Loc) (ls : Array Slot), (200 - ce.toInt).toNat < ddloop88 → IN jn cI cR cM g L S f_33 → FR S [15, 27, 35, 36, 37, 38, 39] f f_33 → (f_33 (g 15) = .inr (1, [.ref (g 35), .ref (g 27), .ref (g 36), .ref (g 37), .ref (g 38), .ref (g 39), .int k2, va_rf (some b)])) → (0 ≤ ce.toInt ∧ ce.toInt ≤ 144) → (0 ≤ k2.toInt ∧ k2.toInt ≤ ce.toInt) → va_P D vwCl (va_pl L f_33) H → va_D A (va_pl L f_33) → va_S A s.heap H locs → lv_has ls 3 [(0, .ref (g 15)), (1, .ref b), (2, .int ce)] → W p l e ({ frames := 4, cells := 0, slots := 0, locals := 87 }) s m args below meth c H locs 0 0 Q (F0 m 88 ls []) := by
            intro ddloop88
            induction ddloop88 with
            | zero =>
              intro ce k2 f_33 H locs ls hdd
              exact absurd hdd (Nat.not_lt_zero _)
            | succ ddloop88 ih88 =>
              intro ce k2 f_33 H locs ls hdd hI hF fc_33_g15 hi hk2 hP hD hS hl
              obtain ⟨iv0_34, iv1_34, iv2_34⟩ := iv_15 hI (gm_15 hG) (gs_15 hG) fc_33_g15
              have fb_35 : f_33 b = .inr (5, [.int (nI jn), .int (nI (2 * jn)), .ref b_p, .int b_l]) := FR_at hF s_b (show (0 : Nat) ∉ ([15, 27, 35, 36, 37, 38, 39] : List Nat) by decide) f_b
              have fb_36 : f_33 b_p = .inl (cI, b_n, .inl b_c) := FR_at hF s_b_p (show (1 : Nat) ∉ ([15, 27, 35, 36, 37, 38, 39] : List Nat) by decide) f_b_p
              refine lv_iload_n hx hb dX1_lead_88 rfl (lv_at hl 2 rfl) ?_
              refine lv_aload_n hx hb dX1_lead_89 rfl (lv_at hl 0 rfl) ?_
              refine t_get (D := D) (L := L) (f := f_33) (ci := 1) (v := .ref b) (C := RX1) (T := TX1) (N := 8) hx hb hts (by decide +kernel) hown hK.1 hP (gm_15 hG) fc_33_g15 rfl 7 (by decide) (hts (.fieldLink RX1 60 "JugglingHall$Catches" "row" "LJugglingHall$Row;") (by decide +kernel)) (fun _ h9 => h9) rfl dX1_lead_90 ?_
              refine roP (va_runV (As := []) (rest := [.int ce]) ⟨hx, hb, hml, hown, hts⟩ (t_X5_cellCount l D cI cR cM _  hj hG hI m_b s_b fb_35 fb_36 ) (cwV 0 hts gX1_lead_X5_cellCount rfl rfl rfl (by decide +kernel) ⟨Nat.le_of_ble_eq_true rfl, Nat.le_of_ble_eq_true rfl⟩) (pre_T hK hP hD m_b fb_35 rfl) rfl rfl hl.1 rfl (lv_room (Nat.le_of_ble_eq_true rfl)) dX1_lead_93 ⟨Nat.le_of_ble_eq_true rfl, Nat.le_of_ble_eq_true rfl⟩) hS hA hP (fun r_37 H locs hw hP hS => ?_)
              have h_37 : (r_37.toInt = b_l.toInt * (2 * (jn : Int))) := hw
              refine a_icmp_ge (u := ce.toInt) (v := r_37.toInt) (tgt := 131) hx hb dX1_lead_96 (by decide) (rfl) (rfl) (fun c_38 => ?_) (fun c_38 => ?_)
              · refine lv_iconst (v := 1) hx hb dX1_lead_131 (by decide) ?_
                have hz_39 : (1 : Int32).toInt = 1 := by decide
                exact g_zret ((1 : Int32), f_33) hx hb hr hlocks hS (by first | exact Or.inl rfl | exact Or.inr rfl) rfl (⟨hI, hF, show (1 : Int32).toInt = 1 → ∃ k9 : Int32, f_33 (g 15) = .inr (1, [.ref (g 35), .ref (g 27), .ref (g 36), .ref (g 37), .ref (g 38), .ref (g 39), .int k9, va_rf (some b)]) ∧ 0 ≤ k9.toInt ∧ k9.toInt ≤ 144 from (fun _ => ⟨k2, fc_33_g15, by omega⟩), show (1 : Int32).toInt = 0 ∨ (1 : Int32).toInt = 1 from (by first | assumption | omega)⟩) hP hD hQ (Nat.le_of_ble_eq_true rfl) (Nat.le_of_ble_eq_true rfl) dX1_lead_132
              · refine lv_aload_n hx hb dX1_lead_99 rfl (lv_at hl 0 rfl) ?_
                refine t_get (D := D) (L := L) (f := f_33) (ci := 1) (v := .ref b) (C := RX1) (T := TX1) (N := 8) hx hb hts (by decide +kernel) hown hK.1 hP (gm_15 hG) fc_33_g15 rfl 7 (by decide) (hts (.fieldLink RX1 60 "JugglingHall$Catches" "row" "LJugglingHall$Row;") (by decide +kernel)) (fun _ h9 => h9) rfl dX1_lead_100 ?_
                refine lv_iload_n hx hb dX1_lead_103 rfl (lv_at hl 2 rfl) ?_
                refine roP (va_runV (As := [.int ce]) (rest := []) ⟨hx, hb, hml, hown, hts⟩ (t_X5_isThrow l D cI cR cM _  hj hG hI m_b s_b fb_35 fb_36 ) (cwV 1 hts gX1_lead_X5_isThrow rfl rfl rfl (by decide +kernel) ⟨Nat.le_of_ble_eq_true rfl, Nat.le_of_ble_eq_true rfl⟩) (pre_T hK hP hD m_b fb_35 rfl) rfl rfl hl.1 rfl (lv_room (Nat.le_of_ble_eq_true rfl)) dX1_lead_104 ⟨Nat.le_of_ble_eq_true rfl, Nat.le_of_ble_eq_true rfl⟩) hS hA hP (fun r_40 H locs hw hP hS => ?_)
                obtain ⟨h_40, h01_40⟩ : (r_40.toInt = 1 → 0 ≤ ce.toInt ∧ ce.toInt < (b_n : Int) ∧ (b_c ce.toInt.toNat).toInt ≠ 0) ∧ (r_40.toInt = 0 ∨ r_40.toInt = 1) := hw
                refine a_if_eq (u := r_40.toInt) (tgt := 125) hx hb dX1_lead_107 (by decide) (rfl) (fun c_41 => ?_) (fun c_41 => ?_)
                · obtain ⟨z_42, q_42, e_42⟩ := i_inc (a := ce.toInt) (1) (rfl) (by decide) (by omega) (by omega)
                  refine lv_iinc (v := z_42) (lv' := [(2, .int z_42), (0, .ref (g 15)), (1, .ref b)]) hx hb dX1_lead_125 hl (k := 2) rfl q_42 (by decide) rfl (fun ls hl => ?_)
                  refine lv_goto (tgt := 88) hx hb dX1_lead_128 (by decide) ?_
                  exact ih88 z_42 k2 f_33 _ _ _ (by omega) hI hF fc_33_g15 (by first | assumption | omega) (by first | assumption | omega) hP hD hS (lv_sub hl [1, 2, 0] rfl)
                · refine lv_aload_n hx hb dX1_lead_110 rfl (lv_at hl 0 rfl) ?_
                  refine t_get (D := D) (L := L) (f := f_33) (ci := 1) (v := .ref (g 36)) (C := RX1) (T := TX1) (N := 8) hx hb hts (by decide +kernel) hown hK.1 hP (gm_15 hG) fc_33_g15 rfl 2 (by decide) (hts (.fieldLink RX1 18 "JugglingHall$Catches" "cycleAt" "[I") (by decide +kernel)) (fun _ h9 => h9) rfl dX1_lead_111 ?_
                  refine lv_iload_n hx hb dX1_lead_114 rfl (lv_at hl 2 rfl) ?_
                  obtain ⟨c_43, fg_43⟩ := op_36 hI (gm_36 hG) (gs_36 hG)
                  refine t_iald (L := L) (f := f_33) (y := c_43) (u := ce.toInt) hx hb hK.1 hP (gm_36 hG) 0 fg_43 rfl dX1_lead_115 (rfl) (by omega) (fun z_44 q_44 e_44 => ?_)
                  refine lv_iconst (v := (-1)) hx hb dX1_lead_116 (by decide) ?_
                  refine a_icmp_ne (u := z_44.toInt) (v := (-1)) (tgt := 125) hx hb dX1_lead_117 (by decide) (rfl) (by decide) (fun c_45 => ?_) (fun c_45 => ?_)
                  · obtain ⟨z_46, q_46, e_46⟩ := i_inc (a := ce.toInt) (1) (rfl) (by decide) (by omega) (by omega)
                    refine lv_iinc (v := z_46) (lv' := [(2, .int z_46), (0, .ref (g 15)), (1, .ref b)]) hx hb dX1_lead_125 hl (k := 2) rfl q_46 (by decide) rfl (fun ls hl => ?_)
                    refine lv_goto (tgt := 88) hx hb dX1_lead_128 (by decide) ?_
                    exact ih88 z_46 k2 f_33 _ _ _ (by omega) hI hF fc_33_g15 (by first | assumption | omega) (by first | assumption | omega) hP hD hS (lv_sub hl [1, 2, 0] rfl)
                  · refine lv_aload_n hx hb dX1_lead_120 rfl (lv_at hl 0 rfl) ?_
                    refine lv_iload_n hx hb dX1_lead_121 rfl (lv_at hl 2 rfl) ?_
                    refine call_p (va_runV (As := [.int ce]) (rest := []) ⟨hx, hb, hml, hown, hts⟩ (t_X1_follow l D cI cR cM _  hj hG hI fc_33_g15 m_b s_b fb_35 fb_36 (by first | assumption | omega) (by first | assumption | omega)) (cwV 1 hts gX1_lead_X1_follow rfl rfl rfl (by decide +kernel) ⟨Nat.le_of_ble_eq_true rfl, Nat.le_of_ble_eq_true rfl⟩) (pre_T hK hP hD (gm_15 hG) fc_33_g15 rfl) rfl rfl hl.1 rfl (lv_room (Nat.le_of_ble_eq_true rfl)) dX1_lead_122 ⟨Nat.le_of_ble_eq_true rfl, Nat.le_of_ble_eq_true rfl⟩) hD hS hA (fun u_47 H locs hw hP hD hS => ?_)
                    obtain ⟨f_47, e0_47⟩ : ∃ x, x = u_47 := ⟨_, rfl⟩
                    subst e0_47
                    obtain ⟨hI, hF_47, hc_47⟩ : IN jn cI cR cM g L S f_47 ∧ FR S [15, 36, 37, 38, 39] f_33 f_47 ∧ (∃ k9 : Int32, f_47 (g 15) = .inr (1, [.ref (g 35), .ref (g 27), .ref (g 36), .ref (g 37), .ref (g 38), .ref (g 39), .int k9, va_rf (some b)]) ∧ k9.toInt = k2.toInt + 1) := hw
                    have hP : va_P D vwCl (va_pl L f_47) H := hP
                    have hD : va_D A (va_pl L f_47) := hD
                    have hF := FR_tr hF hF_47 (by decide)
                    have fb_48 : f_47 b = .inr (5, [.int (nI jn), .int (nI (2 * jn)), .ref b_p, .int b_l]) := FR_at hF_47 s_b (show (0 : Nat) ∉ ([15, 36, 37, 38, 39] : List Nat) by decide) fb_35
                    have fb_49 : f_47 b_p = .inl (cI, b_n, .inl b_c) := FR_at hF_47 s_b_p (show (1 : Nat) ∉ ([15, 36, 37, 38, 39] : List Nat) by decide) fb_36
                    obtain ⟨kn_50, fc_50, ek_50⟩ := hc_47
                    obtain ⟨z_51, q_51, e_51⟩ := i_inc (a := ce.toInt) (1) (rfl) (by decide) (by omega) (by omega)
                    refine lv_iinc (v := z_51) (lv' := [(2, .int z_51), (0, .ref (g 15)), (1, .ref b)]) hx hb dX1_lead_125 hl (k := 2) rfl q_51 (by decide) rfl (fun ls hl => ?_)
                    refine lv_goto (tgt := 88) hx hb dX1_lead_128 (by decide) ?_
                    exact ih88 z_51 kn_50 f_47 _ _ _ (by omega) hI hF fc_50 (by first | assumption | omega) (by first | assumption | omega) hP hD hS (lv_sub hl [1, 2, 0] rfl)
          have hz_52 : (0 : Int32).toInt = 0 := by decide
          exact loop88 ((200 - (0 : Int32).toInt).toNat + 1) (0 : Int32) k2 f_27 _ _ _ (by omega) hI hF fc_27_g15 (by first | assumption | omega) (by first | assumption | omega) hP hD hS (lv_sub hl [1, 2, 0] rfl)
        · refine lv_aload_n hx hb dX1_lead_54 rfl (lv_at hl 0 rfl) ?_
          refine t_get (D := D) (L := L) (f := f_27) (ci := 1) (v := .ref b) (C := RX1) (T := TX1) (N := 8) hx hb hts (by decide +kernel) hown hK.1 hP (gm_15 hG) fc_27_g15 rfl 7 (by decide) (hts (.fieldLink RX1 60 "JugglingHall$Catches" "row" "LJugglingHall$Row;") (by decide +kernel)) (fun _ h9 => h9) rfl dX1_lead_55 ?_
          refine lv_iload_n hx hb dX1_lead_58 rfl (lv_at hl 2 rfl) ?_
          refine roP (va_runV (As := [.int ce]) (rest := []) ⟨hx, hb, hml, hown, hts⟩ (t_X5_isThrow l D cI cR cM _  hj hG hI m_b s_b fb_29 fb_30 ) (cwV 1 hts gX1_lead_X5_isThrow rfl rfl rfl (by decide +kernel) ⟨Nat.le_of_ble_eq_true rfl, Nat.le_of_ble_eq_true rfl⟩) (pre_T hK hP hD m_b fb_29 rfl) rfl rfl hl.1 rfl (lv_room (Nat.le_of_ble_eq_true rfl)) dX1_lead_59 ⟨Nat.le_of_ble_eq_true rfl, Nat.le_of_ble_eq_true rfl⟩) hS hA hP (fun r_53 H locs hw hP hS => ?_)
          obtain ⟨h_53, h01_53⟩ : (r_53.toInt = 1 → 0 ≤ ce.toInt ∧ ce.toInt < (b_n : Int) ∧ (b_c ce.toInt.toNat).toInt ≠ 0) ∧ (r_53.toInt = 0 ∨ r_53.toInt = 1) := hw
          refine a_if_eq (u := r_53.toInt) (tgt := 80) hx hb dX1_lead_62 (by decide) (rfl) (fun c_54 => ?_) (fun c_54 => ?_)
          · obtain ⟨z_55, q_55, e_55⟩ := i_inc (a := ce.toInt) (1) (rfl) (by decide) (by omega) (by omega)
            refine lv_iinc (v := z_55) (lv' := [(2, .int z_55), (0, .ref (g 15)), (1, .ref b)]) hx hb dX1_lead_80 hl (k := 2) rfl q_55 (by decide) rfl (fun ls hl => ?_)
            refine lv_goto (tgt := 43) hx hb dX1_lead_83 (by decide) ?_
            exact ih43 z_55 k2 f_27 _ _ _ (by omega) hI hF fc_27_g15 (by first | assumption | omega) (by first | assumption | omega) hP hD hS (lv_sub hl [1, 2, 0] rfl)
          · refine lv_aload_n hx hb dX1_lead_65 rfl (lv_at hl 0 rfl) ?_
            refine lv_iload_n hx hb dX1_lead_66 rfl (lv_at hl 2 rfl) ?_
            refine lv_aload_n hx hb dX1_lead_67 rfl (lv_at hl 0 rfl) ?_
            refine t_get (D := D) (L := L) (f := f_27) (ci := 1) (v := .ref b) (C := RX1) (T := TX1) (N := 8) hx hb hts (by decide +kernel) hown hK.1 hP (gm_15 hG) fc_27_g15 rfl 7 (by decide) (hts (.fieldLink RX1 60 "JugglingHall$Catches" "row" "LJugglingHall$Row;") (by decide +kernel)) (fun _ h9 => h9) rfl dX1_lead_68 ?_
            refine lv_iload_n hx hb dX1_lead_71 rfl (lv_at hl 2 rfl) ?_
            refine roP (va_runV (As := [.int ce]) (rest := [.int ce, .ref (g 15)]) ⟨hx, hb, hml, hown, hts⟩ (t_X5_landing l D cI cR cM _  hj hG hI m_b s_b fb_29 fb_30 (by first | assumption | omega) (by first | assumption | omega)) (cwV 1 hts gX1_lead_X5_landing rfl rfl rfl (by decide +kernel) ⟨Nat.le_of_ble_eq_true rfl, Nat.le_of_ble_eq_true rfl⟩) (pre_T hK hP hD m_b fb_29 rfl) rfl rfl hl.1 rfl (lv_room (Nat.le_of_ble_eq_true rfl)) dX1_lead_72 ⟨Nat.le_of_ble_eq_true rfl, Nat.le_of_ble_eq_true rfl⟩) hS hA hP (fun r_56 H locs hw hP hS => ?_)
            have h_56 : (0 ≤ r_56.toInt ∧ r_56.toInt < 72) := hw
            refine lv_iconst (v := 2) hx hb dX1_lead_75 (by decide) ?_
            refine a_imul (u := r_56.toInt) (v := 2) hx hb dX1_lead_76 (rfl) (by decide) (by omega) (fun z_57 e_57 => ?_)
            refine call_p (va_runV (As := [.int ce, .int z_57]) (rest := []) ⟨hx, hb, hml, hown, hts⟩ (t_X1_land l D cI cR cM _  hj hG hI fc_27_g15 m_b s_b fb_29 fb_30 (by first | assumption | omega) (by first | assumption | omega)) (cwV 2 hts gX1_lead_X1_land rfl rfl rfl (by decide +kernel) ⟨Nat.le_of_ble_eq_true rfl, Nat.le_of_ble_eq_true rfl⟩) (pre_T hK hP hD (gm_15 hG) fc_27_g15 rfl) rfl rfl hl.1 rfl (lv_room (Nat.le_of_ble_eq_true rfl)) dX1_lead_77 ⟨Nat.le_of_ble_eq_true rfl, Nat.le_of_ble_eq_true rfl⟩) hD hS hA (fun u_58 H locs hw hP hD hS => ?_)
            obtain ⟨f_58, e0_58⟩ : ∃ x, x = u_58 := ⟨_, rfl⟩
            subst e0_58
            obtain ⟨hI, hF_58⟩ : IN jn cI cR cM g L S f_58 ∧ FR S [27] f_27 f_58 := hw
            have hP : va_P D vwCl (va_pl L f_58) H := hP
            have hD : va_D A (va_pl L f_58) := hD
            have hF := FR_tr hF hF_58 (by decide)
            have fb_59 : f_58 (g 15) = .inr (1, [.ref (g 35), .ref (g 27), .ref (g 36), .ref (g 37), .ref (g 38), .ref (g 39), .int k2, va_rf (some b)]) := FR_at hF_58 (gs_15 hG) (show (15 : Nat) ∉ ([27] : List Nat) by decide) fc_27_g15
            have fb_60 : f_58 b = .inr (5, [.int (nI jn), .int (nI (2 * jn)), .ref b_p, .int b_l]) := FR_at hF_58 s_b (show (0 : Nat) ∉ ([27] : List Nat) by decide) fb_29
            have fb_61 : f_58 b_p = .inl (cI, b_n, .inl b_c) := FR_at hF_58 s_b_p (show (1 : Nat) ∉ ([27] : List Nat) by decide) fb_30
            obtain ⟨z_62, q_62, e_62⟩ := i_inc (a := ce.toInt) (1) (rfl) (by decide) (by omega) (by omega)
            refine lv_iinc (v := z_62) (lv' := [(2, .int z_62), (0, .ref (g 15)), (1, .ref b)]) hx hb dX1_lead_80 hl (k := 2) rfl q_62 (by decide) rfl (fun ls hl => ?_)
            refine lv_goto (tgt := 43) hx hb dX1_lead_83 (by decide) ?_
            exact ih43 z_62 k2 f_58 _ _ _ (by omega) hI hF fb_59 (by first | assumption | omega) (by first | assumption | omega) hP hD hS (lv_sub hl [1, 2, 0] rfl)
    have hz_63 : (0 : Int32).toInt = 0 := by decide
    have hz_64 : (0 : Int32).toInt = 0 := by decide
    exact loop43 ((200 - (0 : Int32).toInt).toNat + 1) (0 : Int32) (0 : Int32) f_21 _ _ _ (by omega) hI hF fa_21 (by first | assumption | omega) (by first | assumption | omega) hP hD hS (lv_sub hl [1, 2, 0] rfl)
  · refine lv_iconst (v := 0) hx hb dX1_lead_13 (by decide) ?_
    have hz_65 : (0 : Int32).toInt = 0 := by decide
    exact g_zret ((0 : Int32), f_2) hx hb hr hlocks hS (by first | exact Or.inl rfl | exact Or.inr rfl) rfl (⟨hI, hF, show (0 : Int32).toInt = 1 → ∃ k9 : Int32, f_2 (g 15) = .inr (1, [.ref (g 35), .ref (g 27), .ref (g 36), .ref (g 37), .ref (g 38), .ref (g 39), .int k9, va_rf (some b)]) ∧ 0 ≤ k9.toInt ∧ k9.toInt ≤ 144 from (fun q => absurd q (by decide)), show (0 : Int32).toInt = 0 ∨ (0 : Int32).toInt = 1 from (by first | assumption | omega)⟩) hP hD hQ (Nat.le_of_ble_eq_true rfl) (Nat.le_of_ble_eq_true rfl) dX1_lead_14
set_option maxRecDepth 100000 in
set_option maxHeartbeats 4000000 in
theorem t_X1_ballOf (l : Launch) (D : va_G) (cI cR cM : ClassId) (sz : Nat) {jn : Nat} {g : Nat → Nat} {L : List Nat} {S : Sg} {f : Nat → va_E} {kc : Int32} {b b_p b_n : Nat} {b_l : Int32} {b_c : Nat → Int32} {x y : Int32}  (hj : 1 ≤ jn ∧ jn ≤ 3) (hG : SG g L S) (hI : IN jn cI cR cM g L S f) (f_cat : f (g 15) = .inr (1, [.ref (g 35), .ref (g 27), .ref (g 36), .ref (g 37), .ref (g 38), .ref (g 39), .int kc, va_rf (some b)])) (m_b : b ∈ L) (s_b : S b = (0, b_p, b_n)) (f_b : f b = .inr (5, [.int (nI jn), .int (nI (2 * jn)), .ref b_p, .int b_l])) (f_b_p : f b_p = .inl (cI, b_n, .inl b_c)) (hx0 : 0 ≤ x.toInt ∧ x.toInt ≤ 999) (hy0 : -1 ≤ y.toInt ∧ y.toInt ≤ 143) : Met l yX1_ballOf wsX1_ballOf ({ frames := 2, cells := 0, slots := 0, locals := 43 }) (P0 D cI cR cM [.ref (g 15), .int x, .int y] sz (va_pl L f)) (QP (fun r => True) sz) 0 0 (va_A [] sz) := by
  refine go (cc := cX1_ballOf) (maxL := 10) (ret := (some .int)) (by decide +kernel) rfl (Nat.le_of_ble_eq_true rfl) ?_
  intro p e s m below meth c ls args Q hQ hsz hx hb hr hml hts hown hlocks hnm hP hK hD hl
  subst hsz
  have hS : va_S (va_A [] s.heap.size) s.heap s.heap [] := va_S.rf
  have hA : ∀ q, s.heap.size ≤ q → va_A [] s.heap.size q := fun q h => Or.inr h
  have hl : lv_has ls 10 [(0, .ref (g 15)), (1, .int x), (2, .int y)] := hl
  obtain ⟨v1_cat, v2_cat, v3_cat⟩ := iv_15 hI (gm_15 hG) (gs_15 hG) f_cat
  obtain ⟨v1_b, v2_b, v3_b, m_b_p, s_b_p⟩ := iv_0 hI m_b s_b f_b
  obtain ⟨w1_b, w2_b, w3_b, w4_b, w5_b⟩ := lenw hj v1_b v2_b v3_b
  have k_b := iv_1 hI m_b_p s_b_p f_b_p
  refine lv_iload_n hx hb dX1_ballOf_0 rfl (lv_at hl 1 rfl) ?_
  refine lv_istore_n (lv' := [(3, .int x), (0, .ref (g 15)), (1, .int x), (2, .int y)]) hx hb dX1_ballOf_1 rfl hl (by decide) rfl (fun ls hl => ?_)
  refine lv_iload_n hx hb dX1_ballOf_2 rfl (lv_at hl 3 rfl) ?_
  refine lv_istore (lv' := [(4, .int y), (3, .int x), (0, .ref (g 15)), (1, .int x), (2, .int y)]) hx hb dX1_ballOf_3 hl (by decide) rfl (fun ls hl => ?_)
  refine lv_iconst (v := 0) hx hb dX1_ballOf_5 (by decide) ?_
  refine lv_istore (lv' := [(5, .int 0), (4, .int y), (3, .int x), (0, .ref (g 15)), (1, .int x), (2, .int y)]) hx hb dX1_ballOf_6 hl (by decide) rfl (fun ls hl => ?_)
  have loop8 : ∀ (ddloop8 : Nat) (be : Int32) (at_ : Int32) (ii : Int32) (H : Heap) (locs : List Loc) (ls : Array Slot), (2000 - ii.toInt).toNat < ddloop8 → (be.toInt ≤ 999 ∧ -9 * ii.toInt ≤ be.toInt ∧ -1 ≤ at_.toInt ∧ at_.toInt ≤ 143 ∧ 0 ≤ ii.toInt ∧ ii.toInt ≤ 1000) → va_P D vwCl (va_pl L f) H → va_S (va_A [] s.heap.size) s.heap H locs → lv_has ls 10 [(0, .ref (g 15)), (1, .int x), (2, .int y), (3, .int be), (4, .int at_), (5, .int ii)] → W p l e ({ frames := 2, cells := 0, slots := 0, locals := 43 }) s m args below meth c H locs 0 0 Q (F0 m 8 ls []) := by
    intro ddloop8
    induction ddloop8 with
    | zero =>
      intro be at_ ii H locs ls hdd
      exact absurd hdd (Nat.not_lt_zero _)
    | succ ddloop8 ih8 =>
      intro be at_ ii H locs ls hdd hi hP hS hl
      refine lv_iload hx hb dX1_ballOf_8 (lv_at hl 5 rfl) ?_
      refine lv_sipush (v := 999) hx hb dX1_ballOf_10 (by decide) ?_
      refine a_icmp_gt (u := ii.toInt) (v := 999) (tgt := 58) hx hb dX1_ballOf_13 (by decide) (rfl) (by decide) (fun c_2 => ?_) (fun c_2 => ?_)
      · refine lv_iconst (v := 0) hx hb dX1_ballOf_58 (by decide) ?_
        refine lv_istore (lv' := [(5, .int 0), (0, .ref (g 15)), (1, .int x), (2, .int y), (3, .int be), (4, .int at_)]) hx hb dX1_ballOf_59 hl (by decide) rfl (fun ls hl => ?_)
        refine lv_iconst (v := 0) hx hb dX1_ballOf_61 (by decide) ?_
        refine lv_istore (lv' := [(6, .int 0), (5, .int 0), (0, .ref (g 15)), (1, .int x), (2, .int y), (3, .int be), (4, .int at_)]) hx hb dX1_ballOf_62 hl (by decide) rfl (fun ls hl => ?_)
        have loop64 : ∀ (ddloop64 : Nat) (ba : Int32) (ea : Int32) (H : Heap) (locs : List Loc) (ls : Array Slot), (2000 - ea.toInt).toNat < ddloop64 → (0 ≤ ea.toInt ∧ ea.toInt ≤ 1000 ∧ 0 ≤ ba.toInt ∧ ba.toInt ≤ 200 * ea.toInt) → va_P D vwCl (va_pl L f) H → va_S (va_A [] s.heap.size) s.heap H locs → lv_has ls 10 [(0, .ref (g 15)), (1, .int x), (2, .int y), (3, .int be), (4, .int at_), (5, .int ba), (6, .int ea)] → W p l e ({ frames := 2, cells := 0, slots := 0, locals := 43 }) s m args below meth c H locs 0 0 Q (F0 m 64 ls []) := by
          intro ddloop64
          induction ddloop64 with
          | zero =>
            intro ba ea H locs ls hdd
            exact absurd hdd (Nat.not_lt_zero _)
          | succ ddloop64 ih64 =>
            intro ba ea H locs ls hdd hi2 hP hS hl
            refine lv_iload hx hb dX1_ballOf_64 (lv_at hl 6 rfl) ?_
            refine lv_iload_n hx hb dX1_ballOf_66 rfl (lv_at hl 3 rfl) ?_
            refine a_icmp_gt (u := ea.toInt) (v := be.toInt) (tgt := 149) hx hb dX1_ballOf_67 (by decide) (rfl) (rfl) (fun c_4 => ?_) (fun c_4 => ?_)
            · refine lv_iload hx hb dX1_ballOf_149 (lv_at hl 5 rfl) ?_
              exact rp_iret hx hb hr hlocks hS (trivial) hQ dX1_ballOf_151
            · refine lv_aload_n hx hb dX1_ballOf_70 rfl (lv_at hl 0 rfl) ?_
              refine t_get (D := D) (L := L) (f := f) (ci := 1) (v := .ref b) (C := RX1) (T := TX1) (N := 8) hx hb hts (by decide +kernel) hown hK.1 hP (gm_15 hG) f_cat rfl 7 (by decide) (hts (.fieldLink RX1 60 "JugglingHall$Catches" "row" "LJugglingHall$Row;") (by decide +kernel)) (fun _ h9 => h9) rfl dX1_ballOf_71 ?_
              refine lv_iload hx hb dX1_ballOf_74 (lv_at hl 6 rfl) ?_
              refine roP (va_runV (As := [.int ea]) (rest := []) ⟨hx, hb, hml, hown, hts⟩ (t_X5_beatInRound l D cI cR cM _  hj hG hI m_b s_b f_b f_b_p ) (cwV 1 hts gX1_ballOf_X5_beatInRound rfl rfl rfl (by decide +kernel) ⟨Nat.le_of_ble_eq_true rfl, Nat.le_of_ble_eq_true rfl⟩) (pre_T hK hP hD m_b f_b rfl) rfl rfl hl.1 rfl (lv_room (Nat.le_of_ble_eq_true rfl)) dX1_ballOf_76 ⟨Nat.le_of_ble_eq_true rfl, Nat.le_of_ble_eq_true rfl⟩) hS hA hP (fun r_5 H locs hw hP hS => ?_)
              have h_5 : (0 ≤ r_5.toInt ∧ (r_5.toInt < b_l.toInt ∨ r_5.toInt = 0)) := hw
              refine lv_aload_n hx hb dX1_ballOf_79 rfl (lv_at hl 0 rfl) ?_
              refine t_get (D := D) (L := L) (f := f) (ci := 1) (v := .ref b) (C := RX1) (T := TX1) (N := 8) hx hb hts (by decide +kernel) hown hK.1 hP (gm_15 hG) f_cat rfl 7 (by decide) (hts (.fieldLink RX1 60 "JugglingHall$Catches" "row" "LJugglingHall$Row;") (by decide +kernel)) (fun _ h9 => h9) rfl dX1_ballOf_80 ?_
              refine t_getN (D := D) (L := L) (f := f) (ci := 5) (v := .int (nI (2 * jn))) (C := RX5) (T := TX5) (N := 4) (host := "JugglingHall") hx hb hts (by decide +kernel) hown hK.1 hP m_b f_b rfl 1 (by decide) (hK.nw (.fieldLinkNest RX1 82 "JugglingHall$Row" "width" "I" "JugglingHall") (by decide +kernel) rfl) (fun _ h9 => h9) rfl dX1_ballOf_83 ?_
              refine a_imul (u := r_5.toInt) (v := (2 * (jn : Int))) hx hb dX1_ballOf_86 (rfl) (w2 hj) (by rcases j3 hj with h9 | h9 | h9 <;> subst h9 <;> omega) (fun z_6 e_6 => ?_)
              refine lv_istore (lv' := [(7, .int z_6), (0, .ref (g 15)), (1, .int x), (2, .int y), (3, .int be), (4, .int at_), (5, .int ba), (6, .int ea)]) hx hb dX1_ballOf_87 hl (by decide) rfl (fun ls hl => ?_)
              refine lv_iload hx hb dX1_ballOf_89 (lv_at hl 7 rfl) ?_
              refine lv_iload_n hx hb dX1_ballOf_91 rfl (lv_at hl 4 rfl) ?_
              refine a_icmp_ge (u := ea.toInt) (v := be.toInt) (tgt := 108) hx hb dX1_ballOf_92 (by decide) (rfl) (rfl) (fun c_7 => ?_) (fun c_7 => ?_)
              · refine lv_iload hx hb dX1_ballOf_108 (lv_at hl 5 rfl) ?_
                refine lv_istore (lv' := [(8, .int at_), (7, .int z_6), (0, .ref (g 15)), (1, .int x), (2, .int y), (3, .int be), (4, .int at_), (5, .int ba), (6, .int ea)]) hx hb dX1_ballOf_110 hl (by decide) rfl (fun ls hl => ?_)
                refine lv_iload hx hb dX1_ballOf_112 (lv_at hl 1 rfl) ?_
                refine lv_istore (lv' := [(9, .int z_6), (8, .int at_), (7, .int z_6), (0, .ref (g 15)), (1, .int x), (2, .int y), (3, .int be), (4, .int at_), (5, .int ba), (6, .int ea)]) hx hb dX1_ballOf_114 hl (by decide) rfl (fun ls hl => ?_)
                have loop116 : ∀ (ddloop116 : Nat) (bb : Int32) (ot : Int32) (H : Heap) (locs : List Loc) (ls : Array Slot), (2000 - ot.toInt).toNat < ddloop116 → (0 ≤ ot.toInt ∧ ot.toInt ≤ 150 ∧ 0 ≤ bb.toInt ∧ bb.toInt ≤ 200 * ea.toInt + ot.toInt) → va_P D vwCl (va_pl L f) H → va_S (va_A [] s.heap.size) s.heap H locs → lv_has ls 10 [(0, .ref (g 15)), (1, .int x), (2, .int y), (3, .int be), (4, .int at_), (5, .int bb), (6, .int ea), (7, .int z_6), (8, .int at_), (9, .int ot)] → W p l e ({ frames := 2, cells := 0, slots := 0, locals := 43 }) s m args below meth c H locs 0 0 Q (F0 m 116 ls []) := by
                  intro ddloop116
                  induction ddloop116 with
                  | zero =>
                    intro bb ot H locs ls hdd
                    exact absurd hdd (Nat.not_lt_zero _)
                  | succ ddloop116 ih116 =>
                    intro bb ot H locs ls hdd hi3 hP hS hl
                    refine lv_iload hx hb dX1_ballOf_116 (lv_at hl 9 rfl) ?_
                    refine lv_iload hx hb dX1_ballOf_118 (lv_at hl 8 rfl) ?_
                    refine a_icmp_ge (u := ot.toInt) (v := at_.toInt) (tgt := 143) hx hb dX1_ballOf_120 (by decide) (rfl) (rfl) (fun c_9 => ?_) (fun c_9 => ?_)
                    · obtain ⟨z_10, q_10, e_10⟩ := i_inc (a := ea.toInt) (1) (rfl) (by decide) (by rcases j3 hj with h9 | h9 | h9 <;> subst h9 <;> omega) (by rcases j3 hj with h9 | h9 | h9 <;> subst h9 <;> omega)
                      refine lv_iinc (v := z_10) (lv' := [(6, .int z_10), (0, .ref (g 15)), (1, .int x), (2, .int y), (3, .int be), (4, .int at_), (5, .int bb), (7, .int z_6), (8, .int at_), (9, .int ot)]) hx hb dX1_ballOf_143 hl (k := 6) rfl q_10 (by decide) rfl (fun ls hl => ?_)
                      refine lv_goto (tgt := 64) hx hb dX1_ballOf_146 (by decide) ?_
                      exact ih64 bb z_10 _ _ _ (by rcases j3 hj with h9 | h9 | h9 <;> subst h9 <;> omega) (by first | assumption | omega | (rcases j3 hj with h9 | h9 | h9 <;> subst h9 <;> omega)) hP hS (lv_sub hl [1, 2, 3, 4, 5, 6, 0] rfl)
                    · refine lv_aload_n hx hb dX1_ballOf_123 rfl (lv_at hl 0 rfl) ?_
                      refine lv_iload hx hb dX1_ballOf_124 (lv_at hl 6 rfl) ?_
                      refine lv_iload hx hb dX1_ballOf_126 (lv_at hl 9 rfl) ?_
                      refine roP (va_runV (As := [.int ea, .int ot]) (rest := []) ⟨hx, hb, hml, hown, hts⟩ (t_X1_isStart l D cI cR cM _  hj hG hI f_cat m_b s_b f_b f_b_p (by first | assumption | omega | (rcases j3 hj with h9 | h9 | h9 <;> subst h9 <;> omega))) (cwV 2 hts gX1_ballOf_X1_isStart rfl rfl rfl (by decide +kernel) ⟨Nat.le_of_ble_eq_true rfl, Nat.le_of_ble_eq_true rfl⟩) (pre_T hK hP hD (gm_15 hG) f_cat rfl) rfl rfl hl.1 rfl (lv_room (Nat.le_of_ble_eq_true rfl)) dX1_ballOf_128 ⟨Nat.le_of_ble_eq_true rfl, Nat.le_of_ble_eq_true rfl⟩) hS hA hP (fun r_11 H locs hw hP hS => ?_)
                      have h01_11 : (r_11.toInt = 0 ∨ r_11.toInt = 1) := hw
                      refine a_if_eq (u := r_11.toInt) (tgt := 137) hx hb dX1_ballOf_131 (by decide) (rfl) (fun c_12 => ?_) (fun c_12 => ?_)
                      · obtain ⟨z_13, q_13, e_13⟩ := i_inc (a := ot.toInt) (1) (rfl) (by decide) (by rcases j3 hj with h9 | h9 | h9 <;> subst h9 <;> omega) (by rcases j3 hj with h9 | h9 | h9 <;> subst h9 <;> omega)
                        refine lv_iinc (v := z_13) (lv' := [(9, .int z_13), (0, .ref (g 15)), (1, .int x), (2, .int y), (3, .int be), (4, .int at_), (5, .int bb), (6, .int ea), (7, .int z_6), (8, .int at_)]) hx hb dX1_ballOf_137 hl (k := 9) rfl q_13 (by decide) rfl (fun ls hl => ?_)
                        refine lv_goto (tgt := 116) hx hb dX1_ballOf_140 (by decide) ?_
                        exact ih116 bb z_13 _ _ _ (by rcases j3 hj with h9 | h9 | h9 <;> subst h9 <;> omega) (by first | assumption | omega | (rcases j3 hj with h9 | h9 | h9 <;> subst h9 <;> omega)) hP hS (lv_sub hl [1, 2, 3, 4, 5, 6, 7, 8, 9, 0] rfl)
                      · obtain ⟨z_14, q_14, e_14⟩ := i_inc (a := bb.toInt) (1) (rfl) (by decide) (by rcases j3 hj with h9 | h9 | h9 <;> subst h9 <;> omega) (by rcases j3 hj with h9 | h9 | h9 <;> subst h9 <;> omega)
                        refine lv_iinc (v := z_14) (lv' := [(5, .int z_14), (0, .ref (g 15)), (1, .int x), (2, .int y), (3, .int be), (4, .int at_), (6, .int ea), (7, .int z_6), (8, .int at_), (9, .int ot)]) hx hb dX1_ballOf_134 hl (k := 5) rfl q_14 (by decide) rfl (fun ls hl => ?_)
                        obtain ⟨z_15, q_15, e_15⟩ := i_inc (a := ot.toInt) (1) (rfl) (by decide) (by rcases j3 hj with h9 | h9 | h9 <;> subst h9 <;> omega) (by rcases j3 hj with h9 | h9 | h9 <;> subst h9 <;> omega)
                        refine lv_iinc (v := z_15) (lv' := [(9, .int z_15), (5, .int z_14), (0, .ref (g 15)), (1, .int x), (2, .int y), (3, .int be), (4, .int at_), (6, .int ea), (7, .int z_6), (8, .int at_)]) hx hb dX1_ballOf_137 hl (k := 9) rfl q_15 (by decide) rfl (fun ls hl => ?_)
                        refine lv_goto (tgt := 116) hx hb dX1_ballOf_140 (by decide) ?_
                        exact ih116 z_14 z_15 _ _ _ (by rcases j3 hj with h9 | h9 | h9 <;> subst h9 <;> omega) (by first | assumption | omega | (rcases j3 hj with h9 | h9 | h9 <;> subst h9 <;> omega)) hP hS (lv_sub hl [2, 3, 4, 5, 6, 1, 7, 8, 9, 0] rfl)
                exact loop116 ((2000 - z_6.toInt).toNat + 1) ba z_6 _ _ _ (by rcases j3 hj with h9 | h9 | h9 <;> subst h9 <;> omega) (by first | assumption | omega | (rcases j3 hj with h9 | h9 | h9 <;> subst h9 <;> omega)) hP hS (lv_sub hl [3, 4, 5, 6, 7, 8, 9, 2, 1, 0] rfl)
              · refine lv_iload hx hb dX1_ballOf_95 (lv_at hl 0 rfl) ?_
                refine lv_aload_n hx hb dX1_ballOf_97 rfl (lv_at hl 1 rfl) ?_
                refine t_get (D := D) (L := L) (f := f) (ci := 1) (v := .ref b) (C := RX1) (T := TX1) (N := 8) hx hb hts (by decide +kernel) hown hK.1 hP (gm_15 hG) f_cat rfl 7 (by decide) (hts (.fieldLink RX1 60 "JugglingHall$Catches" "row" "LJugglingHall$Row;") (by decide +kernel)) (fun _ h9 => h9) rfl dX1_ballOf_98 ?_
                refine t_getN (D := D) (L := L) (f := f) (ci := 5) (v := .int (nI (2 * jn))) (C := RX5) (T := TX5) (N := 4) (host := "JugglingHall") hx hb hts (by decide +kernel) hown hK.1 hP m_b f_b rfl 1 (by decide) (hK.nw (.fieldLinkNest RX1 82 "JugglingHall$Row" "width" "I" "JugglingHall") (by decide +kernel) rfl) (fun _ h9 => h9) rfl dX1_ballOf_101 ?_
                refine a_iadd (u := (r_5.toInt * (2 * (jn : Int)))) (v := (2 * (jn : Int))) hx hb dX1_ballOf_104 (e_6) (w2 hj) (by rcases j3 hj with h9 | h9 | h9 <;> subst h9 <;> omega) (fun z_16 e_16 => ?_)
                refine lv_goto (tgt := 110) hx hb dX1_ballOf_105 (by decide) ?_
                refine lv_istore (lv' := [(8, .int z_16), (7, .int z_6), (0, .ref (g 15)), (1, .int x), (2, .int y), (3, .int be), (4, .int at_), (5, .int ba), (6, .int ea)]) hx hb dX1_ballOf_110 hl (by decide) rfl (fun ls hl => ?_)
                refine lv_iload hx hb dX1_ballOf_112 (lv_at hl 1 rfl) ?_
                refine lv_istore (lv' := [(9, .int z_6), (8, .int z_16), (7, .int z_6), (0, .ref (g 15)), (1, .int x), (2, .int y), (3, .int be), (4, .int at_), (5, .int ba), (6, .int ea)]) hx hb dX1_ballOf_114 hl (by decide) rfl (fun ls hl => ?_)
                have loop116 : ∀ (ddloop116 : Nat) (bb : Int32) (ot : Int32) (H : Heap) (locs : List Loc) (ls : Array Slot), (2000 - ot.toInt).toNat < ddloop116 → (0 ≤ ot.toInt ∧ ot.toInt ≤ 150 ∧ 0 ≤ bb.toInt ∧ bb.toInt ≤ 200 * ea.toInt + ot.toInt) → va_P D vwCl (va_pl L f) H → va_S (va_A [] s.heap.size) s.heap H locs → lv_has ls 10 [(0, .ref (g 15)), (1, .int x), (2, .int y), (3, .int be), (4, .int at_), (5, .int bb), (6, .int ea), (7, .int z_6), (8, .int z_16), (9, .int ot)] → W p l e ({ frames := 2, cells := 0, slots := 0, locals := 43 }) s m args below meth c H locs 0 0 Q (F0 m 116 ls []) := by
                  intro ddloop116
                  induction ddloop116 with
                  | zero =>
                    intro bb ot H locs ls hdd
                    exact absurd hdd (Nat.not_lt_zero _)
                  | succ ddloop116 ih116 =>
                    intro bb ot H locs ls hdd hi3 hP hS hl
                    refine lv_iload hx hb dX1_ballOf_116 (lv_at hl 9 rfl) ?_
                    refine lv_iload hx hb dX1_ballOf_118 (lv_at hl 8 rfl) ?_
                    refine a_icmp_ge (u := ot.toInt) (v := z_16.toInt) (tgt := 143) hx hb dX1_ballOf_120 (by decide) (rfl) (rfl) (fun c_18 => ?_) (fun c_18 => ?_)
                    · obtain ⟨z_19, q_19, e_19⟩ := i_inc (a := ea.toInt) (1) (rfl) (by decide) (by rcases j3 hj with h9 | h9 | h9 <;> subst h9 <;> omega) (by rcases j3 hj with h9 | h9 | h9 <;> subst h9 <;> omega)
                      refine lv_iinc (v := z_19) (lv' := [(6, .int z_19), (0, .ref (g 15)), (1, .int x), (2, .int y), (3, .int be), (4, .int at_), (5, .int bb), (7, .int z_6), (8, .int z_16), (9, .int ot)]) hx hb dX1_ballOf_143 hl (k := 6) rfl q_19 (by decide) rfl (fun ls hl => ?_)
                      refine lv_goto (tgt := 64) hx hb dX1_ballOf_146 (by decide) ?_
                      exact ih64 bb z_19 _ _ _ (by rcases j3 hj with h9 | h9 | h9 <;> subst h9 <;> omega) (by first | assumption | omega | (rcases j3 hj with h9 | h9 | h9 <;> subst h9 <;> omega)) hP hS (lv_sub hl [1, 2, 3, 4, 5, 6, 0] rfl)
                    · refine lv_aload_n hx hb dX1_ballOf_123 rfl (lv_at hl 0 rfl) ?_
                      refine lv_iload hx hb dX1_ballOf_124 (lv_at hl 6 rfl) ?_
                      refine lv_iload hx hb dX1_ballOf_126 (lv_at hl 9 rfl) ?_
                      refine roP (va_runV (As := [.int ea, .int ot]) (rest := []) ⟨hx, hb, hml, hown, hts⟩ (t_X1_isStart l D cI cR cM _  hj hG hI f_cat m_b s_b f_b f_b_p (by first | assumption | omega | (rcases j3 hj with h9 | h9 | h9 <;> subst h9 <;> omega))) (cwV 2 hts gX1_ballOf_X1_isStart rfl rfl rfl (by decide +kernel) ⟨Nat.le_of_ble_eq_true rfl, Nat.le_of_ble_eq_true rfl⟩) (pre_T hK hP hD (gm_15 hG) f_cat rfl) rfl rfl hl.1 rfl (lv_room (Nat.le_of_ble_eq_true rfl)) dX1_ballOf_128 ⟨Nat.le_of_ble_eq_true rfl, Nat.le_of_ble_eq_true rfl⟩) hS hA hP (fun r_20 H locs hw hP hS => ?_)
                      have h01_20 : (r_20.toInt = 0 ∨ r_20.toInt = 1) := hw
                      refine a_if_eq (u := r_20.toInt) (tgt := 137) hx hb dX1_ballOf_131 (by decide) (rfl) (fun c_21 => ?_) (fun c_21 => ?_)
                      · obtain ⟨z_22, q_22, e_22⟩ := i_inc (a := ot.toInt) (1) (rfl) (by decide) (by rcases j3 hj with h9 | h9 | h9 <;> subst h9 <;> omega) (by rcases j3 hj with h9 | h9 | h9 <;> subst h9 <;> omega)
                        refine lv_iinc (v := z_22) (lv' := [(9, .int z_22), (0, .ref (g 15)), (1, .int x), (2, .int y), (3, .int be), (4, .int at_), (5, .int bb), (6, .int ea), (7, .int z_6), (8, .int z_16)]) hx hb dX1_ballOf_137 hl (k := 9) rfl q_22 (by decide) rfl (fun ls hl => ?_)
                        refine lv_goto (tgt := 116) hx hb dX1_ballOf_140 (by decide) ?_
                        exact ih116 bb z_22 _ _ _ (by rcases j3 hj with h9 | h9 | h9 <;> subst h9 <;> omega) (by first | assumption | omega | (rcases j3 hj with h9 | h9 | h9 <;> subst h9 <;> omega)) hP hS (lv_sub hl [1, 2, 3, 4, 5, 6, 7, 8, 9, 0] rfl)
                      · obtain ⟨z_23, q_23, e_23⟩ := i_inc (a := bb.toInt) (1) (rfl) (by decide) (by rcases j3 hj with h9 | h9 | h9 <;> subst h9 <;> omega) (by rcases j3 hj with h9 | h9 | h9 <;> subst h9 <;> omega)
                        refine lv_iinc (v := z_23) (lv' := [(5, .int z_23), (0, .ref (g 15)), (1, .int x), (2, .int y), (3, .int be), (4, .int at_), (6, .int ea), (7, .int z_6), (8, .int z_16), (9, .int ot)]) hx hb dX1_ballOf_134 hl (k := 5) rfl q_23 (by decide) rfl (fun ls hl => ?_)
                        obtain ⟨z_24, q_24, e_24⟩ := i_inc (a := ot.toInt) (1) (rfl) (by decide) (by rcases j3 hj with h9 | h9 | h9 <;> subst h9 <;> omega) (by rcases j3 hj with h9 | h9 | h9 <;> subst h9 <;> omega)
                        refine lv_iinc (v := z_24) (lv' := [(9, .int z_24), (5, .int z_23), (0, .ref (g 15)), (1, .int x), (2, .int y), (3, .int be), (4, .int at_), (6, .int ea), (7, .int z_6), (8, .int z_16)]) hx hb dX1_ballOf_137 hl (k := 9) rfl q_24 (by decide) rfl (fun ls hl => ?_)
                        refine lv_goto (tgt := 116) hx hb dX1_ballOf_140 (by decide) ?_
                        exact ih116 z_23 z_24 _ _ _ (by rcases j3 hj with h9 | h9 | h9 <;> subst h9 <;> omega) (by first | assumption | omega | (rcases j3 hj with h9 | h9 | h9 <;> subst h9 <;> omega)) hP hS (lv_sub hl [2, 3, 4, 5, 6, 1, 7, 8, 9, 0] rfl)
                exact loop116 ((2000 - z_6.toInt).toNat + 1) ba z_6 _ _ _ (by rcases j3 hj with h9 | h9 | h9 <;> subst h9 <;> omega) (by first | assumption | omega | (rcases j3 hj with h9 | h9 | h9 <;> subst h9 <;> omega)) hP hS (lv_sub hl [3, 4, 5, 6, 7, 8, 9, 2, 1, 0] rfl)
        have hz_25 : (0 : Int32).toInt = 0 := by decide
        have hz_26 : (0 : Int32).toInt = 0 := by decide
        exact loop64 ((2000 - (0 : Int32).toInt).toNat + 1) (0 : Int32) (0 : Int32) _ _ _ (by rcases j3 hj with h9 | h9 | h9 <;> subst h9 <;> omega) (by first | assumption | omega | (rcases j3 hj with h9 | h9 | h9 <;> subst h9 <;> omega)) hP hS (lv_sub hl [2, 3, 4, 5, 6, 1, 0] rfl)
      · refine lv_iload hx hb dX1_ballOf_16 (lv_at hl 4 rfl) ?_
        refine a_if_lt (u := at_.toInt) (tgt := 58) hx hb dX1_ballOf_18 (by decide) (rfl) (fun c_27 => ?_) (fun c_27 => ?_)
        · refine lv_iconst (v := 0) hx hb dX1_ballOf_58 (by decide) ?_
          refine lv_istore (lv' := [(5, .int 0), (0, .ref (g 15)), (1, .int x), (2, .int y), (3, .int be), (4, .int at_)]) hx hb dX1_ballOf_59 hl (by decide) rfl (fun ls hl => ?_)
          refine lv_iconst (v := 0) hx hb dX1_ballOf_61 (by decide) ?_
          refine lv_istore (lv' := [(6, .int 0), (5, .int 0), (0, .ref (g 15)), (1, .int x), (2, .int y), (3, .int be), (4, .int at_)]) hx hb dX1_ballOf_62 hl (by decide) rfl (fun ls hl => ?_)
          have loop64 : ∀ (ddloop64 : Nat) (ba : Int32) (ea : Int32) (H : Heap) (locs : List Loc) (ls : Array Slot), (2000 - ea.toInt).toNat < ddloop64 → (0 ≤ ea.toInt ∧ ea.toInt ≤ 1000 ∧ 0 ≤ ba.toInt ∧ ba.toInt ≤ 200 * ea.toInt) → va_P D vwCl (va_pl L f) H → va_S (va_A [] s.heap.size) s.heap H locs → lv_has ls 10 [(0, .ref (g 15)), (1, .int x), (2, .int y), (3, .int be), (4, .int at_), (5, .int ba), (6, .int ea)] → W p l e ({ frames := 2, cells := 0, slots := 0, locals := 43 }) s m args below meth c H locs 0 0 Q (F0 m 64 ls []) := by
            intro ddloop64
            induction ddloop64 with
            | zero =>
              intro ba ea H locs ls hdd
              exact absurd hdd (Nat.not_lt_zero _)
            | succ ddloop64 ih64 =>
              intro ba ea H locs ls hdd hi2 hP hS hl
              refine lv_iload hx hb dX1_ballOf_64 (lv_at hl 6 rfl) ?_
              refine lv_iload_n hx hb dX1_ballOf_66 rfl (lv_at hl 3 rfl) ?_
              refine a_icmp_gt (u := ea.toInt) (v := be.toInt) (tgt := 149) hx hb dX1_ballOf_67 (by decide) (rfl) (rfl) (fun c_29 => ?_) (fun c_29 => ?_)
              · refine lv_iload hx hb dX1_ballOf_149 (lv_at hl 5 rfl) ?_
                exact rp_iret hx hb hr hlocks hS (trivial) hQ dX1_ballOf_151
              · refine lv_aload_n hx hb dX1_ballOf_70 rfl (lv_at hl 0 rfl) ?_
                refine t_get (D := D) (L := L) (f := f) (ci := 1) (v := .ref b) (C := RX1) (T := TX1) (N := 8) hx hb hts (by decide +kernel) hown hK.1 hP (gm_15 hG) f_cat rfl 7 (by decide) (hts (.fieldLink RX1 60 "JugglingHall$Catches" "row" "LJugglingHall$Row;") (by decide +kernel)) (fun _ h9 => h9) rfl dX1_ballOf_71 ?_
                refine lv_iload hx hb dX1_ballOf_74 (lv_at hl 6 rfl) ?_
                refine roP (va_runV (As := [.int ea]) (rest := []) ⟨hx, hb, hml, hown, hts⟩ (t_X5_beatInRound l D cI cR cM _  hj hG hI m_b s_b f_b f_b_p ) (cwV 1 hts gX1_ballOf_X5_beatInRound rfl rfl rfl (by decide +kernel) ⟨Nat.le_of_ble_eq_true rfl, Nat.le_of_ble_eq_true rfl⟩) (pre_T hK hP hD m_b f_b rfl) rfl rfl hl.1 rfl (lv_room (Nat.le_of_ble_eq_true rfl)) dX1_ballOf_76 ⟨Nat.le_of_ble_eq_true rfl, Nat.le_of_ble_eq_true rfl⟩) hS hA hP (fun r_30 H locs hw hP hS => ?_)
                have h_30 : (0 ≤ r_30.toInt ∧ (r_30.toInt < b_l.toInt ∨ r_30.toInt = 0)) := hw
                refine lv_aload_n hx hb dX1_ballOf_79 rfl (lv_at hl 0 rfl) ?_
                refine t_get (D := D) (L := L) (f := f) (ci := 1) (v := .ref b) (C := RX1) (T := TX1) (N := 8) hx hb hts (by decide +kernel) hown hK.1 hP (gm_15 hG) f_cat rfl 7 (by decide) (hts (.fieldLink RX1 60 "JugglingHall$Catches" "row" "LJugglingHall$Row;") (by decide +kernel)) (fun _ h9 => h9) rfl dX1_ballOf_80 ?_
                refine t_getN (D := D) (L := L) (f := f) (ci := 5) (v := .int (nI (2 * jn))) (C := RX5) (T := TX5) (N := 4) (host := "JugglingHall") hx hb hts (by decide +kernel) hown hK.1 hP m_b f_b rfl 1 (by decide) (hK.nw (.fieldLinkNest RX1 82 "JugglingHall$Row" "width" "I" "JugglingHall") (by decide +kernel) rfl) (fun _ h9 => h9) rfl dX1_ballOf_83 ?_
                refine a_imul (u := r_30.toInt) (v := (2 * (jn : Int))) hx hb dX1_ballOf_86 (rfl) (w2 hj) (by rcases j3 hj with h9 | h9 | h9 <;> subst h9 <;> omega) (fun z_31 e_31 => ?_)
                refine lv_istore (lv' := [(7, .int z_31), (0, .ref (g 15)), (1, .int x), (2, .int y), (3, .int be), (4, .int at_), (5, .int ba), (6, .int ea)]) hx hb dX1_ballOf_87 hl (by decide) rfl (fun ls hl => ?_)
                refine lv_iload hx hb dX1_ballOf_89 (lv_at hl 7 rfl) ?_
                refine lv_iload_n hx hb dX1_ballOf_91 rfl (lv_at hl 4 rfl) ?_
                refine a_icmp_ge (u := ea.toInt) (v := be.toInt) (tgt := 108) hx hb dX1_ballOf_92 (by decide) (rfl) (rfl) (fun c_32 => ?_) (fun c_32 => ?_)
                · refine lv_iload hx hb dX1_ballOf_108 (lv_at hl 5 rfl) ?_
                  refine lv_istore (lv' := [(8, .int at_), (7, .int z_31), (0, .ref (g 15)), (1, .int x), (2, .int y), (3, .int be), (4, .int at_), (5, .int ba), (6, .int ea)]) hx hb dX1_ballOf_110 hl (by decide) rfl (fun ls hl => ?_)
                  refine lv_iload hx hb dX1_ballOf_112 (lv_at hl 1 rfl) ?_
                  refine lv_istore (lv' := [(9, .int z_31), (8, .int at_), (7, .int z_31), (0, .ref (g 15)), (1, .int x), (2, .int y), (3, .int be), (4, .int at_), (5, .int ba), (6, .int ea)]) hx hb dX1_ballOf_114 hl (by decide) rfl (fun ls hl => ?_)
                  have loop116 : ∀ (ddloop116 : Nat) (bb : Int32) (ot : Int32) (H : Heap) (locs : List Loc) (ls : Array Slot), (2000 - ot.toInt).toNat < ddloop116 → (0 ≤ ot.toInt ∧ ot.toInt ≤ 150 ∧ 0 ≤ bb.toInt ∧ bb.toInt ≤ 200 * ea.toInt + ot.toInt) → va_P D vwCl (va_pl L f) H → va_S (va_A [] s.heap.size) s.heap H locs → lv_has ls 10 [(0, .ref (g 15)), (1, .int x), (2, .int y), (3, .int be), (4, .int at_), (5, .int bb), (6, .int ea), (7, .int z_31), (8, .int at_), (9, .int ot)] → W p l e ({ frames := 2, cells := 0, slots := 0, locals := 43 }) s m args below meth c H locs 0 0 Q (F0 m 116 ls []) := by
                    intro ddloop116
                    induction ddloop116 with
                    | zero =>
                      intro bb ot H locs ls hdd
                      exact absurd hdd (Nat.not_lt_zero _)
                    | succ ddloop116 ih116 =>
                      intro bb ot H locs ls hdd hi3 hP hS hl
                      refine lv_iload hx hb dX1_ballOf_116 (lv_at hl 9 rfl) ?_
                      refine lv_iload hx hb dX1_ballOf_118 (lv_at hl 8 rfl) ?_
                      refine a_icmp_ge (u := ot.toInt) (v := at_.toInt) (tgt := 143) hx hb dX1_ballOf_120 (by decide) (rfl) (rfl) (fun c_34 => ?_) (fun c_34 => ?_)
                      · obtain ⟨z_35, q_35, e_35⟩ := i_inc (a := ea.toInt) (1) (rfl) (by decide) (by rcases j3 hj with h9 | h9 | h9 <;> subst h9 <;> omega) (by rcases j3 hj with h9 | h9 | h9 <;> subst h9 <;> omega)
                        refine lv_iinc (v := z_35) (lv' := [(6, .int z_35), (0, .ref (g 15)), (1, .int x), (2, .int y), (3, .int be), (4, .int at_), (5, .int bb), (7, .int z_31), (8, .int at_), (9, .int ot)]) hx hb dX1_ballOf_143 hl (k := 6) rfl q_35 (by decide) rfl (fun ls hl => ?_)
                        refine lv_goto (tgt := 64) hx hb dX1_ballOf_146 (by decide) ?_
                        exact ih64 bb z_35 _ _ _ (by rcases j3 hj with h9 | h9 | h9 <;> subst h9 <;> omega) (by first | assumption | omega | (rcases j3 hj with h9 | h9 | h9 <;> subst h9 <;> omega)) hP hS (lv_sub hl [1, 2, 3, 4, 5, 6, 0] rfl)
                      · refine lv_aload_n hx hb dX1_ballOf_123 rfl (lv_at hl 0 rfl) ?_
                        refine lv_iload hx hb dX1_ballOf_124 (lv_at hl 6 rfl) ?_
                        refine lv_iload hx hb dX1_ballOf_126 (lv_at hl 9 rfl) ?_
                        refine roP (va_runV (As := [.int ea, .int ot]) (rest := []) ⟨hx, hb, hml, hown, hts⟩ (t_X1_isStart l D cI cR cM _  hj hG hI f_cat m_b s_b f_b f_b_p (by first | assumption | omega | (rcases j3 hj with h9 | h9 | h9 <;> subst h9 <;> omega))) (cwV 2 hts gX1_ballOf_X1_isStart rfl rfl rfl (by decide +kernel) ⟨Nat.le_of_ble_eq_true rfl, Nat.le_of_ble_eq_true rfl⟩) (pre_T hK hP hD (gm_15 hG) f_cat rfl) rfl rfl hl.1 rfl (lv_room (Nat.le_of_ble_eq_true rfl)) dX1_ballOf_128 ⟨Nat.le_of_ble_eq_true rfl, Nat.le_of_ble_eq_true rfl⟩) hS hA hP (fun r_36 H locs hw hP hS => ?_)
                        have h01_36 : (r_36.toInt = 0 ∨ r_36.toInt = 1) := hw
                        refine a_if_eq (u := r_36.toInt) (tgt := 137) hx hb dX1_ballOf_131 (by decide) (rfl) (fun c_37 => ?_) (fun c_37 => ?_)
                        · obtain ⟨z_38, q_38, e_38⟩ := i_inc (a := ot.toInt) (1) (rfl) (by decide) (by rcases j3 hj with h9 | h9 | h9 <;> subst h9 <;> omega) (by rcases j3 hj with h9 | h9 | h9 <;> subst h9 <;> omega)
                          refine lv_iinc (v := z_38) (lv' := [(9, .int z_38), (0, .ref (g 15)), (1, .int x), (2, .int y), (3, .int be), (4, .int at_), (5, .int bb), (6, .int ea), (7, .int z_31), (8, .int at_)]) hx hb dX1_ballOf_137 hl (k := 9) rfl q_38 (by decide) rfl (fun ls hl => ?_)
                          refine lv_goto (tgt := 116) hx hb dX1_ballOf_140 (by decide) ?_
                          exact ih116 bb z_38 _ _ _ (by rcases j3 hj with h9 | h9 | h9 <;> subst h9 <;> omega) (by first | assumption | omega | (rcases j3 hj with h9 | h9 | h9 <;> subst h9 <;> omega)) hP hS (lv_sub hl [1, 2, 3, 4, 5, 6, 7, 8, 9, 0] rfl)
                        · obtain ⟨z_39, q_39, e_39⟩ := i_inc (a := bb.toInt) (1) (rfl) (by decide) (by rcases j3 hj with h9 | h9 | h9 <;> subst h9 <;> omega) (by rcases j3 hj with h9 | h9 | h9 <;> subst h9 <;> omega)
                          refine lv_iinc (v := z_39) (lv' := [(5, .int z_39), (0, .ref (g 15)), (1, .int x), (2, .int y), (3, .int be), (4, .int at_), (6, .int ea), (7, .int z_31), (8, .int at_), (9, .int ot)]) hx hb dX1_ballOf_134 hl (k := 5) rfl q_39 (by decide) rfl (fun ls hl => ?_)
                          obtain ⟨z_40, q_40, e_40⟩ := i_inc (a := ot.toInt) (1) (rfl) (by decide) (by rcases j3 hj with h9 | h9 | h9 <;> subst h9 <;> omega) (by rcases j3 hj with h9 | h9 | h9 <;> subst h9 <;> omega)
                          refine lv_iinc (v := z_40) (lv' := [(9, .int z_40), (5, .int z_39), (0, .ref (g 15)), (1, .int x), (2, .int y), (3, .int be), (4, .int at_), (6, .int ea), (7, .int z_31), (8, .int at_)]) hx hb dX1_ballOf_137 hl (k := 9) rfl q_40 (by decide) rfl (fun ls hl => ?_)
                          refine lv_goto (tgt := 116) hx hb dX1_ballOf_140 (by decide) ?_
                          exact ih116 z_39 z_40 _ _ _ (by rcases j3 hj with h9 | h9 | h9 <;> subst h9 <;> omega) (by first | assumption | omega | (rcases j3 hj with h9 | h9 | h9 <;> subst h9 <;> omega)) hP hS (lv_sub hl [2, 3, 4, 5, 6, 1, 7, 8, 9, 0] rfl)
                  exact loop116 ((2000 - z_31.toInt).toNat + 1) ba z_31 _ _ _ (by rcases j3 hj with h9 | h9 | h9 <;> subst h9 <;> omega) (by first | assumption | omega | (rcases j3 hj with h9 | h9 | h9 <;> subst h9 <;> omega)) hP hS (lv_sub hl [3, 4, 5, 6, 7, 8, 9, 2, 1, 0] rfl)
                · refine lv_iload hx hb dX1_ballOf_95 (lv_at hl 0 rfl) ?_
                  refine lv_aload_n hx hb dX1_ballOf_97 rfl (lv_at hl 1 rfl) ?_
                  refine t_get (D := D) (L := L) (f := f) (ci := 1) (v := .ref b) (C := RX1) (T := TX1) (N := 8) hx hb hts (by decide +kernel) hown hK.1 hP (gm_15 hG) f_cat rfl 7 (by decide) (hts (.fieldLink RX1 60 "JugglingHall$Catches" "row" "LJugglingHall$Row;") (by decide +kernel)) (fun _ h9 => h9) rfl dX1_ballOf_98 ?_
                  refine t_getN (D := D) (L := L) (f := f) (ci := 5) (v := .int (nI (2 * jn))) (C := RX5) (T := TX5) (N := 4) (host := "JugglingHall") hx hb hts (by decide +kernel) hown hK.1 hP m_b f_b rfl 1 (by decide) (hK.nw (.fieldLinkNest RX1 82 "JugglingHall$Row" "width" "I" "JugglingHall") (by decide +kernel) rfl) (fun _ h9 => h9) rfl dX1_ballOf_101 ?_
                  refine a_iadd (u := (r_30.toInt * (2 * (jn : Int)))) (v := (2 * (jn : Int))) hx hb dX1_ballOf_104 (e_31) (w2 hj) (by rcases j3 hj with h9 | h9 | h9 <;> subst h9 <;> omega) (fun z_41 e_41 => ?_)
                  refine lv_goto (tgt := 110) hx hb dX1_ballOf_105 (by decide) ?_
                  refine lv_istore (lv' := [(8, .int z_41), (7, .int z_31), (0, .ref (g 15)), (1, .int x), (2, .int y), (3, .int be), (4, .int at_), (5, .int ba), (6, .int ea)]) hx hb dX1_ballOf_110 hl (by decide) rfl (fun ls hl => ?_)
                  refine lv_iload hx hb dX1_ballOf_112 (lv_at hl 1 rfl) ?_
                  refine lv_istore (lv' := [(9, .int z_31), (8, .int z_41), (7, .int z_31), (0, .ref (g 15)), (1, .int x), (2, .int y), (3, .int be), (4, .int at_), (5, .int ba), (6, .int ea)]) hx hb dX1_ballOf_114 hl (by decide) rfl (fun ls hl => ?_)
                  have loop116 : ∀ (ddloop116 : Nat) (bb : Int32) (ot : Int32) (H : Heap) (locs : List Loc) (ls : Array Slot), (2000 - ot.toInt).toNat < ddloop116 → (0 ≤ ot.toInt ∧ ot.toInt ≤ 150 ∧ 0 ≤ bb.toInt ∧ bb.toInt ≤ 200 * ea.toInt + ot.toInt) → va_P D vwCl (va_pl L f) H → va_S (va_A [] s.heap.size) s.heap H locs → lv_has ls 10 [(0, .ref (g 15)), (1, .int x), (2, .int y), (3, .int be), (4, .int at_), (5, .int bb), (6, .int ea), (7, .int z_31), (8, .int z_41), (9, .int ot)] → W p l e ({ frames := 2, cells := 0, slots := 0, locals := 43 }) s m args below meth c H locs 0 0 Q (F0 m 116 ls []) := by
                    intro ddloop116
                    induction ddloop116 with
                    | zero =>
                      intro bb ot H locs ls hdd
                      exact absurd hdd (Nat.not_lt_zero _)
                    | succ ddloop116 ih116 =>
                      intro bb ot H locs ls hdd hi3 hP hS hl
                      refine lv_iload hx hb dX1_ballOf_116 (lv_at hl 9 rfl) ?_
                      refine lv_iload hx hb dX1_ballOf_118 (lv_at hl 8 rfl) ?_
                      refine a_icmp_ge (u := ot.toInt) (v := z_41.toInt) (tgt := 143) hx hb dX1_ballOf_120 (by decide) (rfl) (rfl) (fun c_43 => ?_) (fun c_43 => ?_)
                      · obtain ⟨z_44, q_44, e_44⟩ := i_inc (a := ea.toInt) (1) (rfl) (by decide) (by rcases j3 hj with h9 | h9 | h9 <;> subst h9 <;> omega) (by rcases j3 hj with h9 | h9 | h9 <;> subst h9 <;> omega)
                        refine lv_iinc (v := z_44) (lv' := [(6, .int z_44), (0, .ref (g 15)), (1, .int x), (2, .int y), (3, .int be), (4, .int at_), (5, .int bb), (7, .int z_31), (8, .int z_41), (9, .int ot)]) hx hb dX1_ballOf_143 hl (k := 6) rfl q_44 (by decide) rfl (fun ls hl => ?_)
                        refine lv_goto (tgt := 64) hx hb dX1_ballOf_146 (by decide) ?_
                        exact ih64 bb z_44 _ _ _ (by rcases j3 hj with h9 | h9 | h9 <;> subst h9 <;> omega) (by first | assumption | omega | (rcases j3 hj with h9 | h9 | h9 <;> subst h9 <;> omega)) hP hS (lv_sub hl [1, 2, 3, 4, 5, 6, 0] rfl)
                      · refine lv_aload_n hx hb dX1_ballOf_123 rfl (lv_at hl 0 rfl) ?_
                        refine lv_iload hx hb dX1_ballOf_124 (lv_at hl 6 rfl) ?_
                        refine lv_iload hx hb dX1_ballOf_126 (lv_at hl 9 rfl) ?_
                        refine roP (va_runV (As := [.int ea, .int ot]) (rest := []) ⟨hx, hb, hml, hown, hts⟩ (t_X1_isStart l D cI cR cM _  hj hG hI f_cat m_b s_b f_b f_b_p (by first | assumption | omega | (rcases j3 hj with h9 | h9 | h9 <;> subst h9 <;> omega))) (cwV 2 hts gX1_ballOf_X1_isStart rfl rfl rfl (by decide +kernel) ⟨Nat.le_of_ble_eq_true rfl, Nat.le_of_ble_eq_true rfl⟩) (pre_T hK hP hD (gm_15 hG) f_cat rfl) rfl rfl hl.1 rfl (lv_room (Nat.le_of_ble_eq_true rfl)) dX1_ballOf_128 ⟨Nat.le_of_ble_eq_true rfl, Nat.le_of_ble_eq_true rfl⟩) hS hA hP (fun r_45 H locs hw hP hS => ?_)
                        have h01_45 : (r_45.toInt = 0 ∨ r_45.toInt = 1) := hw
                        refine a_if_eq (u := r_45.toInt) (tgt := 137) hx hb dX1_ballOf_131 (by decide) (rfl) (fun c_46 => ?_) (fun c_46 => ?_)
                        · obtain ⟨z_47, q_47, e_47⟩ := i_inc (a := ot.toInt) (1) (rfl) (by decide) (by rcases j3 hj with h9 | h9 | h9 <;> subst h9 <;> omega) (by rcases j3 hj with h9 | h9 | h9 <;> subst h9 <;> omega)
                          refine lv_iinc (v := z_47) (lv' := [(9, .int z_47), (0, .ref (g 15)), (1, .int x), (2, .int y), (3, .int be), (4, .int at_), (5, .int bb), (6, .int ea), (7, .int z_31), (8, .int z_41)]) hx hb dX1_ballOf_137 hl (k := 9) rfl q_47 (by decide) rfl (fun ls hl => ?_)
                          refine lv_goto (tgt := 116) hx hb dX1_ballOf_140 (by decide) ?_
                          exact ih116 bb z_47 _ _ _ (by rcases j3 hj with h9 | h9 | h9 <;> subst h9 <;> omega) (by first | assumption | omega | (rcases j3 hj with h9 | h9 | h9 <;> subst h9 <;> omega)) hP hS (lv_sub hl [1, 2, 3, 4, 5, 6, 7, 8, 9, 0] rfl)
                        · obtain ⟨z_48, q_48, e_48⟩ := i_inc (a := bb.toInt) (1) (rfl) (by decide) (by rcases j3 hj with h9 | h9 | h9 <;> subst h9 <;> omega) (by rcases j3 hj with h9 | h9 | h9 <;> subst h9 <;> omega)
                          refine lv_iinc (v := z_48) (lv' := [(5, .int z_48), (0, .ref (g 15)), (1, .int x), (2, .int y), (3, .int be), (4, .int at_), (6, .int ea), (7, .int z_31), (8, .int z_41), (9, .int ot)]) hx hb dX1_ballOf_134 hl (k := 5) rfl q_48 (by decide) rfl (fun ls hl => ?_)
                          obtain ⟨z_49, q_49, e_49⟩ := i_inc (a := ot.toInt) (1) (rfl) (by decide) (by rcases j3 hj with h9 | h9 | h9 <;> subst h9 <;> omega) (by rcases j3 hj with h9 | h9 | h9 <;> subst h9 <;> omega)
                          refine lv_iinc (v := z_49) (lv' := [(9, .int z_49), (5, .int z_48), (0, .ref (g 15)), (1, .int x), (2, .int y), (3, .int be), (4, .int at_), (6, .int ea), (7, .int z_31), (8, .int z_41)]) hx hb dX1_ballOf_137 hl (k := 9) rfl q_49 (by decide) rfl (fun ls hl => ?_)
                          refine lv_goto (tgt := 116) hx hb dX1_ballOf_140 (by decide) ?_
                          exact ih116 z_48 z_49 _ _ _ (by rcases j3 hj with h9 | h9 | h9 <;> subst h9 <;> omega) (by first | assumption | omega | (rcases j3 hj with h9 | h9 | h9 <;> subst h9 <;> omega)) hP hS (lv_sub hl [2, 3, 4, 5, 6, 1, 7, 8, 9, 0] rfl)
                  exact loop116 ((2000 - z_31.toInt).toNat + 1) ba z_31 _ _ _ (by rcases j3 hj with h9 | h9 | h9 <;> subst h9 <;> omega) (by first | assumption | omega | (rcases j3 hj with h9 | h9 | h9 <;> subst h9 <;> omega)) hP hS (lv_sub hl [3, 4, 5, 6, 7, 8, 9, 2, 1, 0] rfl)
          have hz_50 : (0 : Int32).toInt = 0 := by decide
          have hz_51 : (0 : Int32).toInt = 0 := by decide
          exact loop64 ((2000 - (0 : Int32).toInt).toNat + 1) (0 : Int32) (0 : Int32) _ _ _ (by rcases j3 hj with h9 | h9 | h9 <;> subst h9 <;> omega) (by first | assumption | omega | (rcases j3 hj with h9 | h9 | h9 <;> subst h9 <;> omega)) hP hS (lv_sub hl [2, 3, 4, 5, 6, 1, 0] rfl)
        · refine lv_aload_n hx hb dX1_ballOf_21 rfl (lv_at hl 0 rfl) ?_
          refine lv_iload_n hx hb dX1_ballOf_22 rfl (lv_at hl 3 rfl) ?_
          refine lv_iload hx hb dX1_ballOf_23 (lv_at hl 4 rfl) ?_
          refine roP (va_runV (As := [.int be, .int at_]) (rest := []) ⟨hx, hb, hml, hown, hts⟩ (t_X1_isStart l D cI cR cM _  hj hG hI f_cat m_b s_b f_b f_b_p (by first | assumption | omega | (rcases j3 hj with h9 | h9 | h9 <;> subst h9 <;> omega))) (cwV 2 hts gX1_ballOf_X1_isStart rfl rfl rfl (by decide +kernel) ⟨Nat.le_of_ble_eq_true rfl, Nat.le_of_ble_eq_true rfl⟩) (pre_T hK hP hD (gm_15 hG) f_cat rfl) rfl rfl hl.1 rfl (lv_room (Nat.le_of_ble_eq_true rfl)) dX1_ballOf_25 ⟨Nat.le_of_ble_eq_true rfl, Nat.le_of_ble_eq_true rfl⟩) hS hA hP (fun r_52 H locs hw hP hS => ?_)
          have h01_52 : (r_52.toInt = 0 ∨ r_52.toInt = 1) := hw
          refine a_if_ne (u := r_52.toInt) (tgt := 58) hx hb dX1_ballOf_28 (by decide) (rfl) (fun c_53 => ?_) (fun c_53 => ?_)
          · refine lv_iconst (v := 0) hx hb dX1_ballOf_58 (by decide) ?_
            refine lv_istore (lv' := [(5, .int 0), (0, .ref (g 15)), (1, .int x), (2, .int y), (3, .int be), (4, .int at_)]) hx hb dX1_ballOf_59 hl (by decide) rfl (fun ls hl => ?_)
            refine lv_iconst (v := 0) hx hb dX1_ballOf_61 (by decide) ?_
            refine lv_istore (lv' := [(6, .int 0), (5, .int 0), (0, .ref (g 15)), (1, .int x), (2, .int y), (3, .int be), (4, .int at_)]) hx hb dX1_ballOf_62 hl (by decide) rfl (fun ls hl => ?_)
            have loop64 : ∀ (ddloop64 : Nat) (ba : Int32) (ea : Int32) (H : Heap) (locs : List Loc) (ls : Array Slot), (2000 - ea.toInt).toNat < ddloop64 → (0 ≤ ea.toInt ∧ ea.toInt ≤ 1000 ∧ 0 ≤ ba.toInt ∧ ba.toInt ≤ 200 * ea.toInt) → va_P D vwCl (va_pl L f) H → va_S (va_A [] s.heap.size) s.heap H locs → lv_has ls 10 [(0, .ref (g 15)), (1, .int x), (2, .int y), (3, .int be), (4, .int at_), (5, .int ba), (6, .int ea)] → W p l e ({ frames := 2, cells := 0, slots := 0, locals := 43 }) s m args below meth c H locs 0 0 Q (F0 m 64 ls []) := by
              intro ddloop64
              induction ddloop64 with
              | zero =>
                intro ba ea H locs ls hdd
                exact absurd hdd (Nat.not_lt_zero _)
              | succ ddloop64 ih64 =>
                intro ba ea H locs ls hdd hi2 hP hS hl
                refine lv_iload hx hb dX1_ballOf_64 (lv_at hl 6 rfl) ?_
                refine lv_iload_n hx hb dX1_ballOf_66 rfl (lv_at hl 3 rfl) ?_
                refine a_icmp_gt (u := ea.toInt) (v := be.toInt) (tgt := 149) hx hb dX1_ballOf_67 (by decide) (rfl) (rfl) (fun c_55 => ?_) (fun c_55 => ?_)
                · refine lv_iload hx hb dX1_ballOf_149 (lv_at hl 5 rfl) ?_
                  exact rp_iret hx hb hr hlocks hS (trivial) hQ dX1_ballOf_151
                · refine lv_aload_n hx hb dX1_ballOf_70 rfl (lv_at hl 0 rfl) ?_
                  refine t_get (D := D) (L := L) (f := f) (ci := 1) (v := .ref b) (C := RX1) (T := TX1) (N := 8) hx hb hts (by decide +kernel) hown hK.1 hP (gm_15 hG) f_cat rfl 7 (by decide) (hts (.fieldLink RX1 60 "JugglingHall$Catches" "row" "LJugglingHall$Row;") (by decide +kernel)) (fun _ h9 => h9) rfl dX1_ballOf_71 ?_
                  refine lv_iload hx hb dX1_ballOf_74 (lv_at hl 6 rfl) ?_
                  refine roP (va_runV (As := [.int ea]) (rest := []) ⟨hx, hb, hml, hown, hts⟩ (t_X5_beatInRound l D cI cR cM _  hj hG hI m_b s_b f_b f_b_p ) (cwV 1 hts gX1_ballOf_X5_beatInRound rfl rfl rfl (by decide +kernel) ⟨Nat.le_of_ble_eq_true rfl, Nat.le_of_ble_eq_true rfl⟩) (pre_T hK hP hD m_b f_b rfl) rfl rfl hl.1 rfl (lv_room (Nat.le_of_ble_eq_true rfl)) dX1_ballOf_76 ⟨Nat.le_of_ble_eq_true rfl, Nat.le_of_ble_eq_true rfl⟩) hS hA hP (fun r_56 H locs hw hP hS => ?_)
                  have h_56 : (0 ≤ r_56.toInt ∧ (r_56.toInt < b_l.toInt ∨ r_56.toInt = 0)) := hw
                  refine lv_aload_n hx hb dX1_ballOf_79 rfl (lv_at hl 0 rfl) ?_
                  refine t_get (D := D) (L := L) (f := f) (ci := 1) (v := .ref b) (C := RX1) (T := TX1) (N := 8) hx hb hts (by decide +kernel) hown hK.1 hP (gm_15 hG) f_cat rfl 7 (by decide) (hts (.fieldLink RX1 60 "JugglingHall$Catches" "row" "LJugglingHall$Row;") (by decide +kernel)) (fun _ h9 => h9) rfl dX1_ballOf_80 ?_
                  refine t_getN (D := D) (L := L) (f := f) (ci := 5) (v := .int (nI (2 * jn))) (C := RX5) (T := TX5) (N := 4) (host := "JugglingHall") hx hb hts (by decide +kernel) hown hK.1 hP m_b f_b rfl 1 (by decide) (hK.nw (.fieldLinkNest RX1 82 "JugglingHall$Row" "width" "I" "JugglingHall") (by decide +kernel) rfl) (fun _ h9 => h9) rfl dX1_ballOf_83 ?_
                  refine a_imul (u := r_56.toInt) (v := (2 * (jn : Int))) hx hb dX1_ballOf_86 (rfl) (w2 hj) (by rcases j3 hj with h9 | h9 | h9 <;> subst h9 <;> omega) (fun z_57 e_57 => ?_)
                  refine lv_istore (lv' := [(7, .int z_57), (0, .ref (g 15)), (1, .int x), (2, .int y), (3, .int be), (4, .int at_), (5, .int ba), (6, .int ea)]) hx hb dX1_ballOf_87 hl (by decide) rfl (fun ls hl => ?_)
                  refine lv_iload hx hb dX1_ballOf_89 (lv_at hl 7 rfl) ?_
                  refine lv_iload_n hx hb dX1_ballOf_91 rfl (lv_at hl 4 rfl) ?_
                  refine a_icmp_ge (u := ea.toInt) (v := be.toInt) (tgt := 108) hx hb dX1_ballOf_92 (by decide) (rfl) (rfl) (fun c_58 => ?_) (fun c_58 => ?_)
                  · refine lv_iload hx hb dX1_ballOf_108 (lv_at hl 5 rfl) ?_
                    refine lv_istore (lv' := [(8, .int at_), (7, .int z_57), (0, .ref (g 15)), (1, .int x), (2, .int y), (3, .int be), (4, .int at_), (5, .int ba), (6, .int ea)]) hx hb dX1_ballOf_110 hl (by decide) rfl (fun ls hl => ?_)
                    refine lv_iload hx hb dX1_ballOf_112 (lv_at hl 1 rfl) ?_
                    refine lv_istore (lv' := [(9, .int z_57), (8, .int at_), (7, .int z_57), (0, .ref (g 15)), (1, .int x), (2, .int y), (3, .int be), (4, .int at_), (5, .int ba), (6, .int ea)]) hx hb dX1_ballOf_114 hl (by decide) rfl (fun ls hl => ?_)
                    have loop116 : ∀ (ddloop116 : Nat) (bb : Int32) (ot : Int32) (H : Heap) (locs : List Loc) (ls : Array Slot), (2000 - ot.toInt).toNat < ddloop116 → (0 ≤ ot.toInt ∧ ot.toInt ≤ 150 ∧ 0 ≤ bb.toInt ∧ bb.toInt ≤ 200 * ea.toInt + ot.toInt) → va_P D vwCl (va_pl L f) H → va_S (va_A [] s.heap.size) s.heap H locs → lv_has ls 10 [(0, .ref (g 15)), (1, .int x), (2, .int y), (3, .int be), (4, .int at_), (5, .int bb), (6, .int ea), (7, .int z_57), (8, .int at_), (9, .int ot)] → W p l e ({ frames := 2, cells := 0, slots := 0, locals := 43 }) s m args below meth c H locs 0 0 Q (F0 m 116 ls []) := by
                      intro ddloop116
                      induction ddloop116 with
                      | zero =>
                        intro bb ot H locs ls hdd
                        exact absurd hdd (Nat.not_lt_zero _)
                      | succ ddloop116 ih116 =>
                        intro bb ot H locs ls hdd hi3 hP hS hl
                        refine lv_iload hx hb dX1_ballOf_116 (lv_at hl 9 rfl) ?_
                        refine lv_iload hx hb dX1_ballOf_118 (lv_at hl 8 rfl) ?_
                        refine a_icmp_ge (u := ot.toInt) (v := at_.toInt) (tgt := 143) hx hb dX1_ballOf_120 (by decide) (rfl) (rfl) (fun c_60 => ?_) (fun c_60 => ?_)
                        · obtain ⟨z_61, q_61, e_61⟩ := i_inc (a := ea.toInt) (1) (rfl) (by decide) (by rcases j3 hj with h9 | h9 | h9 <;> subst h9 <;> omega) (by rcases j3 hj with h9 | h9 | h9 <;> subst h9 <;> omega)
                          refine lv_iinc (v := z_61) (lv' := [(6, .int z_61), (0, .ref (g 15)), (1, .int x), (2, .int y), (3, .int be), (4, .int at_), (5, .int bb), (7, .int z_57), (8, .int at_), (9, .int ot)]) hx hb dX1_ballOf_143 hl (k := 6) rfl q_61 (by decide) rfl (fun ls hl => ?_)
                          refine lv_goto (tgt := 64) hx hb dX1_ballOf_146 (by decide) ?_
                          exact ih64 bb z_61 _ _ _ (by rcases j3 hj with h9 | h9 | h9 <;> subst h9 <;> omega) (by first | assumption | omega | (rcases j3 hj with h9 | h9 | h9 <;> subst h9 <;> omega)) hP hS (lv_sub hl [1, 2, 3, 4, 5, 6, 0] rfl)
                        · refine lv_aload_n hx hb dX1_ballOf_123 rfl (lv_at hl 0 rfl) ?_
                          refine lv_iload hx hb dX1_ballOf_124 (lv_at hl 6 rfl) ?_
                          refine lv_iload hx hb dX1_ballOf_126 (lv_at hl 9 rfl) ?_
                          refine roP (va_runV (As := [.int ea, .int ot]) (rest := []) ⟨hx, hb, hml, hown, hts⟩ (t_X1_isStart l D cI cR cM _  hj hG hI f_cat m_b s_b f_b f_b_p (by first | assumption | omega | (rcases j3 hj with h9 | h9 | h9 <;> subst h9 <;> omega))) (cwV 2 hts gX1_ballOf_X1_isStart rfl rfl rfl (by decide +kernel) ⟨Nat.le_of_ble_eq_true rfl, Nat.le_of_ble_eq_true rfl⟩) (pre_T hK hP hD (gm_15 hG) f_cat rfl) rfl rfl hl.1 rfl (lv_room (Nat.le_of_ble_eq_true rfl)) dX1_ballOf_128 ⟨Nat.le_of_ble_eq_true rfl, Nat.le_of_ble_eq_true rfl⟩) hS hA hP (fun r_62 H locs hw hP hS => ?_)
                          have h01_62 : (r_62.toInt = 0 ∨ r_62.toInt = 1) := hw
                          refine a_if_eq (u := r_62.toInt) (tgt := 137) hx hb dX1_ballOf_131 (by decide) (rfl) (fun c_63 => ?_) (fun c_63 => ?_)
                          · obtain ⟨z_64, q_64, e_64⟩ := i_inc (a := ot.toInt) (1) (rfl) (by decide) (by rcases j3 hj with h9 | h9 | h9 <;> subst h9 <;> omega) (by rcases j3 hj with h9 | h9 | h9 <;> subst h9 <;> omega)
                            refine lv_iinc (v := z_64) (lv' := [(9, .int z_64), (0, .ref (g 15)), (1, .int x), (2, .int y), (3, .int be), (4, .int at_), (5, .int bb), (6, .int ea), (7, .int z_57), (8, .int at_)]) hx hb dX1_ballOf_137 hl (k := 9) rfl q_64 (by decide) rfl (fun ls hl => ?_)
                            refine lv_goto (tgt := 116) hx hb dX1_ballOf_140 (by decide) ?_
                            exact ih116 bb z_64 _ _ _ (by rcases j3 hj with h9 | h9 | h9 <;> subst h9 <;> omega) (by first | assumption | omega | (rcases j3 hj with h9 | h9 | h9 <;> subst h9 <;> omega)) hP hS (lv_sub hl [1, 2, 3, 4, 5, 6, 7, 8, 9, 0] rfl)
                          · obtain ⟨z_65, q_65, e_65⟩ := i_inc (a := bb.toInt) (1) (rfl) (by decide) (by rcases j3 hj with h9 | h9 | h9 <;> subst h9 <;> omega) (by rcases j3 hj with h9 | h9 | h9 <;> subst h9 <;> omega)
                            refine lv_iinc (v := z_65) (lv' := [(5, .int z_65), (0, .ref (g 15)), (1, .int x), (2, .int y), (3, .int be), (4, .int at_), (6, .int ea), (7, .int z_57), (8, .int at_), (9, .int ot)]) hx hb dX1_ballOf_134 hl (k := 5) rfl q_65 (by decide) rfl (fun ls hl => ?_)
                            obtain ⟨z_66, q_66, e_66⟩ := i_inc (a := ot.toInt) (1) (rfl) (by decide) (by rcases j3 hj with h9 | h9 | h9 <;> subst h9 <;> omega) (by rcases j3 hj with h9 | h9 | h9 <;> subst h9 <;> omega)
                            refine lv_iinc (v := z_66) (lv' := [(9, .int z_66), (5, .int z_65), (0, .ref (g 15)), (1, .int x), (2, .int y), (3, .int be), (4, .int at_), (6, .int ea), (7, .int z_57), (8, .int at_)]) hx hb dX1_ballOf_137 hl (k := 9) rfl q_66 (by decide) rfl (fun ls hl => ?_)
                            refine lv_goto (tgt := 116) hx hb dX1_ballOf_140 (by decide) ?_
                            exact ih116 z_65 z_66 _ _ _ (by rcases j3 hj with h9 | h9 | h9 <;> subst h9 <;> omega) (by first | assumption | omega | (rcases j3 hj with h9 | h9 | h9 <;> subst h9 <;> omega)) hP hS (lv_sub hl [2, 3, 4, 5, 6, 1, 7, 8, 9, 0] rfl)
                    exact loop116 ((2000 - z_57.toInt).toNat + 1) ba z_57 _ _ _ (by rcases j3 hj with h9 | h9 | h9 <;> subst h9 <;> omega) (by first | assumption | omega | (rcases j3 hj with h9 | h9 | h9 <;> subst h9 <;> omega)) hP hS (lv_sub hl [3, 4, 5, 6, 7, 8, 9, 2, 1, 0] rfl)
                  · refine lv_iload hx hb dX1_ballOf_95 (lv_at hl 0 rfl) ?_
                    refine lv_aload_n hx hb dX1_ballOf_97 rfl (lv_at hl 1 rfl) ?_
                    refine t_get (D := D) (L := L) (f := f) (ci := 1) (v := .ref b) (C := RX1) (T := TX1) (N := 8) hx hb hts (by decide +kernel) hown hK.1 hP (gm_15 hG) f_cat rfl 7 (by decide) (hts (.fieldLink RX1 60 "JugglingHall$Catches" "row" "LJugglingHall$Row;") (by decide +kernel)) (fun _ h9 => h9) rfl dX1_ballOf_98 ?_
                    refine t_getN (D := D) (L := L) (f := f) (ci := 5) (v := .int (nI (2 * jn))) (C := RX5) (T := TX5) (N := 4) (host := "JugglingHall") hx hb hts (by decide +kernel) hown hK.1 hP m_b f_b rfl 1 (by decide) (hK.nw (.fieldLinkNest RX1 82 "JugglingHall$Row" "width" "I" "JugglingHall") (by decide +kernel) rfl) (fun _ h9 => h9) rfl dX1_ballOf_101 ?_
                    refine a_iadd (u := (r_56.toInt * (2 * (jn : Int)))) (v := (2 * (jn : Int))) hx hb dX1_ballOf_104 (e_57) (w2 hj) (by rcases j3 hj with h9 | h9 | h9 <;> subst h9 <;> omega) (fun z_67 e_67 => ?_)
                    refine lv_goto (tgt := 110) hx hb dX1_ballOf_105 (by decide) ?_
                    refine lv_istore (lv' := [(8, .int z_67), (7, .int z_57), (0, .ref (g 15)), (1, .int x), (2, .int y), (3, .int be), (4, .int at_), (5, .int ba), (6, .int ea)]) hx hb dX1_ballOf_110 hl (by decide) rfl (fun ls hl => ?_)
                    refine lv_iload hx hb dX1_ballOf_112 (lv_at hl 1 rfl) ?_
                    refine lv_istore (lv' := [(9, .int z_57), (8, .int z_67), (7, .int z_57), (0, .ref (g 15)), (1, .int x), (2, .int y), (3, .int be), (4, .int at_), (5, .int ba), (6, .int ea)]) hx hb dX1_ballOf_114 hl (by decide) rfl (fun ls hl => ?_)
                    have loop116 : ∀ (ddloop116 : Nat) (bb : Int32) (ot : Int32) (H : Heap) (locs : List Loc) (ls : Array Slot), (2000 - ot.toInt).toNat < ddloop116 → (0 ≤ ot.toInt ∧ ot.toInt ≤ 150 ∧ 0 ≤ bb.toInt ∧ bb.toInt ≤ 200 * ea.toInt + ot.toInt) → va_P D vwCl (va_pl L f) H → va_S (va_A [] s.heap.size) s.heap H locs → lv_has ls 10 [(0, .ref (g 15)), (1, .int x), (2, .int y), (3, .int be), (4, .int at_), (5, .int bb), (6, .int ea), (7, .int z_57), (8, .int z_67), (9, .int ot)] → W p l e ({ frames := 2, cells := 0, slots := 0, locals := 43 }) s m args below meth c H locs 0 0 Q (F0 m 116 ls []) := by
                      intro ddloop116
                      induction ddloop116 with
                      | zero =>
                        intro bb ot H locs ls hdd
                        exact absurd hdd (Nat.not_lt_zero _)
                      | succ ddloop116 ih116 =>
                        intro bb ot H locs ls hdd hi3 hP hS hl
                        refine lv_iload hx hb dX1_ballOf_116 (lv_at hl 9 rfl) ?_
                        refine lv_iload hx hb dX1_ballOf_118 (lv_at hl 8 rfl) ?_
                        refine a_icmp_ge (u := ot.toInt) (v := z_67.toInt) (tgt := 143) hx hb dX1_ballOf_120 (by decide) (rfl) (rfl) (fun c_69 => ?_) (fun c_69 => ?_)
                        · obtain ⟨z_70, q_70, e_70⟩ := i_inc (a := ea.toInt) (1) (rfl) (by decide) (by rcases j3 hj with h9 | h9 | h9 <;> subst h9 <;> omega) (by rcases j3 hj with h9 | h9 | h9 <;> subst h9 <;> omega)
                          refine lv_iinc (v := z_70) (lv' := [(6, .int z_70), (0, .ref (g 15)), (1, .int x), (2, .int y), (3, .int be), (4, .int at_), (5, .int bb), (7, .int z_57), (8, .int z_67), (9, .int ot)]) hx hb dX1_ballOf_143 hl (k := 6) rfl q_70 (by decide) rfl (fun ls hl => ?_)
                          refine lv_goto (tgt := 64) hx hb dX1_ballOf_146 (by decide) ?_
                          exact ih64 bb z_70 _ _ _ (by rcases j3 hj with h9 | h9 | h9 <;> subst h9 <;> omega) (by first | assumption | omega | (rcases j3 hj with h9 | h9 | h9 <;> subst h9 <;> omega)) hP hS (lv_sub hl [1, 2, 3, 4, 5, 6, 0] rfl)
                        · refine lv_aload_n hx hb dX1_ballOf_123 rfl (lv_at hl 0 rfl) ?_
                          refine lv_iload hx hb dX1_ballOf_124 (lv_at hl 6 rfl) ?_
                          refine lv_iload hx hb dX1_ballOf_126 (lv_at hl 9 rfl) ?_
                          refine roP (va_runV (As := [.int ea, .int ot]) (rest := []) ⟨hx, hb, hml, hown, hts⟩ (t_X1_isStart l D cI cR cM _  hj hG hI f_cat m_b s_b f_b f_b_p (by first | assumption | omega | (rcases j3 hj with h9 | h9 | h9 <;> subst h9 <;> omega))) (cwV 2 hts gX1_ballOf_X1_isStart rfl rfl rfl (by decide +kernel) ⟨Nat.le_of_ble_eq_true rfl, Nat.le_of_ble_eq_true rfl⟩) (pre_T hK hP hD (gm_15 hG) f_cat rfl) rfl rfl hl.1 rfl (lv_room (Nat.le_of_ble_eq_true rfl)) dX1_ballOf_128 ⟨Nat.le_of_ble_eq_true rfl, Nat.le_of_ble_eq_true rfl⟩) hS hA hP (fun r_71 H locs hw hP hS => ?_)
                          have h01_71 : (r_71.toInt = 0 ∨ r_71.toInt = 1) := hw
                          refine a_if_eq (u := r_71.toInt) (tgt := 137) hx hb dX1_ballOf_131 (by decide) (rfl) (fun c_72 => ?_) (fun c_72 => ?_)
                          · obtain ⟨z_73, q_73, e_73⟩ := i_inc (a := ot.toInt) (1) (rfl) (by decide) (by rcases j3 hj with h9 | h9 | h9 <;> subst h9 <;> omega) (by rcases j3 hj with h9 | h9 | h9 <;> subst h9 <;> omega)
                            refine lv_iinc (v := z_73) (lv' := [(9, .int z_73), (0, .ref (g 15)), (1, .int x), (2, .int y), (3, .int be), (4, .int at_), (5, .int bb), (6, .int ea), (7, .int z_57), (8, .int z_67)]) hx hb dX1_ballOf_137 hl (k := 9) rfl q_73 (by decide) rfl (fun ls hl => ?_)
                            refine lv_goto (tgt := 116) hx hb dX1_ballOf_140 (by decide) ?_
                            exact ih116 bb z_73 _ _ _ (by rcases j3 hj with h9 | h9 | h9 <;> subst h9 <;> omega) (by first | assumption | omega | (rcases j3 hj with h9 | h9 | h9 <;> subst h9 <;> omega)) hP hS (lv_sub hl [1, 2, 3, 4, 5, 6, 7, 8, 9, 0] rfl)
                          · obtain ⟨z_74, q_74, e_74⟩ := i_inc (a := bb.toInt) (1) (rfl) (by decide) (by rcases j3 hj with h9 | h9 | h9 <;> subst h9 <;> omega) (by rcases j3 hj with h9 | h9 | h9 <;> subst h9 <;> omega)
                            refine lv_iinc (v := z_74) (lv' := [(5, .int z_74), (0, .ref (g 15)), (1, .int x), (2, .int y), (3, .int be), (4, .int at_), (6, .int ea), (7, .int z_57), (8, .int z_67), (9, .int ot)]) hx hb dX1_ballOf_134 hl (k := 5) rfl q_74 (by decide) rfl (fun ls hl => ?_)
                            obtain ⟨z_75, q_75, e_75⟩ := i_inc (a := ot.toInt) (1) (rfl) (by decide) (by rcases j3 hj with h9 | h9 | h9 <;> subst h9 <;> omega) (by rcases j3 hj with h9 | h9 | h9 <;> subst h9 <;> omega)
                            refine lv_iinc (v := z_75) (lv' := [(9, .int z_75), (5, .int z_74), (0, .ref (g 15)), (1, .int x), (2, .int y), (3, .int be), (4, .int at_), (6, .int ea), (7, .int z_57), (8, .int z_67)]) hx hb dX1_ballOf_137 hl (k := 9) rfl q_75 (by decide) rfl (fun ls hl => ?_)
                            refine lv_goto (tgt := 116) hx hb dX1_ballOf_140 (by decide) ?_
                            exact ih116 z_74 z_75 _ _ _ (by rcases j3 hj with h9 | h9 | h9 <;> subst h9 <;> omega) (by first | assumption | omega | (rcases j3 hj with h9 | h9 | h9 <;> subst h9 <;> omega)) hP hS (lv_sub hl [2, 3, 4, 5, 6, 1, 7, 8, 9, 0] rfl)
                    exact loop116 ((2000 - z_57.toInt).toNat + 1) ba z_57 _ _ _ (by rcases j3 hj with h9 | h9 | h9 <;> subst h9 <;> omega) (by first | assumption | omega | (rcases j3 hj with h9 | h9 | h9 <;> subst h9 <;> omega)) hP hS (lv_sub hl [3, 4, 5, 6, 7, 8, 9, 2, 1, 0] rfl)
            have hz_76 : (0 : Int32).toInt = 0 := by decide
            have hz_77 : (0 : Int32).toInt = 0 := by decide
            exact loop64 ((2000 - (0 : Int32).toInt).toNat + 1) (0 : Int32) (0 : Int32) _ _ _ (by rcases j3 hj with h9 | h9 | h9 <;> subst h9 <;> omega) (by first | assumption | omega | (rcases j3 hj with h9 | h9 | h9 <;> subst h9 <;> omega)) hP hS (lv_sub hl [2, 3, 4, 5, 6, 1, 0] rfl)
          · refine lv_aload_n hx hb dX1_ballOf_31 rfl (lv_at hl 0 rfl) ?_
            refine t_get (D := D) (L := L) (f := f) (ci := 1) (v := .ref (g 27)) (C := RX1) (T := TX1) (N := 8) hx hb hts (by decide +kernel) hown hK.1 hP (gm_15 hG) f_cat rfl 1 (by decide) (hts (.fieldLink RX1 15 "JugglingHall$Catches" "source" "[I") (by decide +kernel)) (fun _ h9 => h9) rfl dX1_ballOf_32 ?_
            refine lv_iload hx hb dX1_ballOf_35 (lv_at hl 4 rfl) ?_
            obtain ⟨c_78, fg_78, iv0_78⟩ := op_27 hI (gm_27 hG) (gs_27 hG)
            refine t_iald (L := L) (f := f) (y := c_78) (u := at_.toInt) hx hb hK.1 hP (gm_27 hG) 0 fg_78 rfl dX1_ballOf_37 (rfl) (by rcases j3 hj with h9 | h9 | h9 <;> subst h9 <;> omega) (fun z_79 q_79 e_79 => ?_)
            have a1_79 : -1 ≤ z_79.toInt ∧ z_79.toInt ≤ 143 := by rw [q_79]; exact iv0_78 at_.toInt (by rcases j3 hj with h9 | h9 | h9 <;> subst h9 <;> omega) (by rcases j3 hj with h9 | h9 | h9 <;> subst h9 <;> omega)
            refine lv_istore (lv' := [(4, .int z_79), (0, .ref (g 15)), (1, .int x), (2, .int y), (3, .int be), (5, .int ii)]) hx hb dX1_ballOf_38 hl (by decide) rfl (fun ls hl => ?_)
            refine lv_iload_n hx hb dX1_ballOf_40 rfl (lv_at hl 4 rfl) ?_
            refine lv_aload_n hx hb dX1_ballOf_41 rfl (lv_at hl 1 rfl) ?_
            refine t_get (D := D) (L := L) (f := f) (ci := 1) (v := .ref b) (C := RX1) (T := TX1) (N := 8) hx hb hts (by decide +kernel) hown hK.1 hP (gm_15 hG) f_cat rfl 7 (by decide) (hts (.fieldLink RX1 60 "JugglingHall$Catches" "row" "LJugglingHall$Row;") (by decide +kernel)) (fun _ h9 => h9) rfl dX1_ballOf_42 ?_
            refine lv_iload hx hb dX1_ballOf_45 (lv_at hl 0 rfl) ?_
            refine roP (va_runV (As := [.int z_79]) (rest := [.int be]) ⟨hx, hb, hml, hown, hts⟩ (t_X5_height l D cI cR cM _  hj hG hI m_b s_b f_b f_b_p ) (cwV 1 hts gX1_ballOf_X5_height rfl rfl rfl (by decide +kernel) ⟨Nat.le_of_ble_eq_true rfl, Nat.le_of_ble_eq_true rfl⟩) (pre_T hK hP hD m_b f_b rfl) rfl rfl hl.1 rfl (lv_room (Nat.le_of_ble_eq_true rfl)) dX1_ballOf_47 ⟨Nat.le_of_ble_eq_true rfl, Nat.le_of_ble_eq_true rfl⟩) hS hA hP (fun r_80 H locs hw hP hS => ?_)
            have h_80 : (0 ≤ r_80.toInt ∧ r_80.toInt ≤ 9) := hw
            refine a_isub (u := be.toInt) (v := r_80.toInt) hx hb dX1_ballOf_50 (rfl) (rfl) (by rcases j3 hj with h9 | h9 | h9 <;> subst h9 <;> omega) (fun z_81 e_81 => ?_)
            refine lv_istore_n (lv' := [(3, .int z_81), (4, .int z_79), (0, .ref (g 15)), (1, .int x), (2, .int y), (5, .int ii)]) hx hb dX1_ballOf_51 rfl hl (by decide) rfl (fun ls hl => ?_)
            obtain ⟨z_82, q_82, e_82⟩ := i_inc (a := ii.toInt) (1) (rfl) (by decide) (by rcases j3 hj with h9 | h9 | h9 <;> subst h9 <;> omega) (by rcases j3 hj with h9 | h9 | h9 <;> subst h9 <;> omega)
            refine lv_iinc (v := z_82) (lv' := [(5, .int z_82), (3, .int z_81), (4, .int z_79), (0, .ref (g 15)), (1, .int x), (2, .int y)]) hx hb dX1_ballOf_52 hl (k := 5) rfl q_82 (by decide) rfl (fun ls hl => ?_)
            refine lv_goto (tgt := 8) hx hb dX1_ballOf_55 (by decide) ?_
            exact ih8 z_81 z_79 z_82 _ _ _ (by rcases j3 hj with h9 | h9 | h9 <;> subst h9 <;> omega) (by first | assumption | omega | (rcases j3 hj with h9 | h9 | h9 <;> subst h9 <;> omega)) hP hS (lv_sub hl [3, 4, 5, 1, 2, 0] rfl)
  have hz_83 : (0 : Int32).toInt = 0 := by decide
  exact loop8 ((2000 - (0 : Int32).toInt).toNat + 1) x y (0 : Int32) _ _ _ (by rcases j3 hj with h9 | h9 | h9 <;> subst h9 <;> omega) (by first | assumption | omega | (rcases j3 hj with h9 | h9 | h9 <;> subst h9 <;> omega)) hP hS (lv_sub hl [3, 4, 5, 2, 1, 0] rfl)
set_option maxRecDepth 100000 in
set_option maxHeartbeats 4000000 in
theorem t_X2_landedAfter (l : Launch) (D : va_G) (cI cR cM : ClassId) (sz : Nat) {jn : Nat} {g : Nat → Nat} {L : List Nat} {S : Sg} {f : Nat → va_E} {k k_p : Nat} {k_l : Int32} {k_c : Nat → Int32} {x h y : Int32}  (hj : 1 ≤ jn ∧ jn ≤ 3) (hG : SG g L S) (hI : IN jn cI cR cM g L S f) (m_k : k ∈ L) (s_k : S k = (2, k_p, 0)) (f_k : f k = .inr (3, [.ref k_p, .int k_l])) (f_k_p : f k_p = .inl (cI, 7, .inl k_c)) (hx0 : 0 ≤ x.toInt ∧ x.toInt ≤ 6) (hh0 : 0 ≤ h.toInt ∧ h.toInt ≤ 9) (hy0 : 0 ≤ y.toInt ∧ y.toInt ≤ 127) (hk0 : 1 ≤ k_l.toInt) : Met l yX2_landedAfter wsX2_landedAfter ({ frames := 0, cells := 0, slots := 0, locals := 0 }) (P0 D cI cR cM [.ref k, .int x, .int h, .int y] sz (va_pl L f)) (QP (fun r => (r.toInt = -1 ∨ (0 ≤ r.toInt ∧ r.toInt ≤ 127))) sz) 0 0 (va_A [] sz) := by
  refine go (cc := cX2_landedAfter) (maxL := 6) (ret := (some .int)) (by decide +kernel) rfl (Nat.le_of_ble_eq_true rfl) ?_
  intro p e s m below meth c ls args Q hQ hsz hx hb hr hml hts hown hlocks hnm hP hK hD hl
  subst hsz
  have hS : va_S (va_A [] s.heap.size) s.heap s.heap [] := va_S.rf
  have hA : ∀ q, s.heap.size ≤ q → va_A [] s.heap.size q := fun q h => Or.inr h
  have hl : lv_has ls 6 [(0, .ref k), (1, .int x), (2, .int h), (3, .int y)] := hl
  obtain ⟨v1_k, v2_k, m_k_p, s_k_p⟩ := iv_2 hI m_k s_k f_k
  refine lv_aload_n hx hb dX2_landedAfter_0 rfl (lv_at hl 0 rfl) ?_
  refine t_getN (D := D) (L := L) (f := f) (ci := 3) (v := .ref k_p) (C := RX3) (T := TX3) (N := 2) (host := "JugglingHall") hx hb hts (by decide +kernel) hown hK.1 hP m_k f_k rfl 0 (by decide) (hK.nw (.fieldLinkNest RX2 57 "JugglingHall$Marks" "heights" "[I" "JugglingHall") (by decide +kernel) rfl) (fun _ h9 => h9) rfl dX2_landedAfter_1 ?_
  refine lv_iload_n hx hb dX2_landedAfter_4 rfl (lv_at hl 1 rfl) ?_
  refine t_iald (L := L) (f := f) (y := k_c) (u := x.toInt) hx hb hK.1 hP m_k_p 0 f_k_p rfl dX2_landedAfter_5 (rfl) (by omega) (fun z_1 q_1 e_1 => ?_)
  refine lv_istore (lv' := [(4, .int z_1), (0, .ref k), (1, .int x), (2, .int h), (3, .int y)]) hx hb dX2_landedAfter_6 hl (by decide) rfl (fun ls hl => ?_)
  refine lv_iconst (v := 1) hx hb dX2_landedAfter_8 (by decide) ?_
  refine lv_iload_n hx hb dX2_landedAfter_9 rfl (lv_at hl 2 rfl) ?_
  refine lv_iload_n hx hb dX2_landedAfter_10 rfl (lv_at hl 3 rfl) ?_
  refine a_iadd (u := x.toInt) (v := h.toInt) hx hb dX2_landedAfter_11 (rfl) (rfl) (by omega) (fun z_2 e_2 => ?_)
  refine lv_aload_n hx hb dX2_landedAfter_12 rfl (lv_at hl 1 rfl) ?_
  refine t_getN (D := D) (L := L) (f := f) (ci := 3) (v := .int k_l) (C := RX3) (T := TX3) (N := 2) (host := "JugglingHall") hx hb hts (by decide +kernel) hown hK.1 hP m_k f_k rfl 1 (by decide) (hK.nw (.fieldLinkNest RX2 18 "JugglingHall$Marks" "count" "I" "JugglingHall") (by decide +kernel) rfl) (fun _ h9 => h9) rfl dX2_landedAfter_13 ?_
  refine a_irem (u := (x.toInt + h.toInt)) (v := k_l.toInt) hx hb dX2_landedAfter_16 (e_2) (rfl) (by omega) (fun z_3 e_3 h_3 k_3 => ?_)
  refine lv_ishl hx hb dX2_landedAfter_17 ?_
  refine lv_topi (fun z_4 q_4 => ?_)
  refine lv_istore (lv' := [(5, .int z_4), (4, .int z_1), (0, .ref k), (1, .int x), (2, .int h), (3, .int y)]) hx hb dX2_landedAfter_18 hl (by decide) rfl (fun ls hl => ?_)
  refine lv_iload hx hb dX2_landedAfter_20 (lv_at hl 1 rfl) ?_
  refine lv_iconst (v := (-1)) hx hb dX2_landedAfter_22 (by decide) ?_
  refine a_icmp_eq (u := z_1.toInt) (v := (-1)) (tgt := 32) hx hb dX2_landedAfter_23 (by decide) (rfl) (by decide) (fun c_5 => ?_) (fun c_5 => ?_)
  · refine lv_iload_n hx hb dX2_landedAfter_32 rfl (lv_at hl 5 rfl) ?_
    refine lv_iload hx hb dX2_landedAfter_33 (lv_at hl 0 rfl) ?_
    refine lv_iand hx hb dX2_landedAfter_35 ?_
    refine lv_topi (fun z_6 q_6 => ?_)
    refine a_if_eq (u := z_6.toInt) (tgt := 43) hx hb dX2_landedAfter_36 (by decide) (rfl) (fun c_7 => ?_) (fun c_7 => ?_)
    · refine lv_iload_n hx hb dX2_landedAfter_43 rfl (lv_at hl 5 rfl) ?_
      refine lv_iload hx hb dX2_landedAfter_44 (lv_at hl 0 rfl) ?_
      refine lv_ior hx hb dX2_landedAfter_46 ?_
      refine lv_topi (fun z_8 q_8 => ?_)
      have e9 : 0 ≤ z_8.toInt ∧ z_8.toInt < 128 := by rw [q_8, q_4]; exact or127 (by omega) (by omega)
      exact rp_iret hx hb hr hlocks hS (show z_8.toInt = -1 ∨ (0 ≤ z_8.toInt ∧ z_8.toInt ≤ 127) from (by first | assumption | omega)) hQ dX2_landedAfter_47
    · refine lv_iconst (v := (-1)) hx hb dX2_landedAfter_39 (by decide) ?_
      refine lv_goto (tgt := 47) hx hb dX2_landedAfter_40 (by decide) ?_
      have hz_9 : (-1 : Int32).toInt = (-1) := by decide
      exact rp_iret hx hb hr hlocks hS (show (-1 : Int32).toInt = -1 ∨ (0 ≤ (-1 : Int32).toInt ∧ (-1 : Int32).toInt ≤ 127) from (by first | assumption | omega)) hQ dX2_landedAfter_47
  · refine lv_iload hx hb dX2_landedAfter_26 (lv_at hl 1 rfl) ?_
    refine lv_iload_n hx hb dX2_landedAfter_28 rfl (lv_at hl 4 rfl) ?_
    refine a_icmp_ne (u := z_1.toInt) (v := h.toInt) (tgt := 39) hx hb dX2_landedAfter_29 (by decide) (rfl) (rfl) (fun c_10 => ?_) (fun c_10 => ?_)
    · refine lv_iconst (v := (-1)) hx hb dX2_landedAfter_39 (by decide) ?_
      refine lv_goto (tgt := 47) hx hb dX2_landedAfter_40 (by decide) ?_
      have hz_11 : (-1 : Int32).toInt = (-1) := by decide
      exact rp_iret hx hb hr hlocks hS (show (-1 : Int32).toInt = -1 ∨ (0 ≤ (-1 : Int32).toInt ∧ (-1 : Int32).toInt ≤ 127) from (by first | assumption | omega)) hQ dX2_landedAfter_47
    · refine lv_iload_n hx hb dX2_landedAfter_32 rfl (lv_at hl 5 rfl) ?_
      refine lv_iload hx hb dX2_landedAfter_33 (lv_at hl 0 rfl) ?_
      refine lv_iand hx hb dX2_landedAfter_35 ?_
      refine lv_topi (fun z_12 q_12 => ?_)
      refine a_if_eq (u := z_12.toInt) (tgt := 43) hx hb dX2_landedAfter_36 (by decide) (rfl) (fun c_13 => ?_) (fun c_13 => ?_)
      · refine lv_iload_n hx hb dX2_landedAfter_43 rfl (lv_at hl 5 rfl) ?_
        refine lv_iload hx hb dX2_landedAfter_44 (lv_at hl 0 rfl) ?_
        refine lv_ior hx hb dX2_landedAfter_46 ?_
        refine lv_topi (fun z_14 q_14 => ?_)
        have e9 : 0 ≤ z_14.toInt ∧ z_14.toInt < 128 := by rw [q_14, q_4]; exact or127 (by omega) (by omega)
        exact rp_iret hx hb hr hlocks hS (show z_14.toInt = -1 ∨ (0 ≤ z_14.toInt ∧ z_14.toInt ≤ 127) from (by first | assumption | omega)) hQ dX2_landedAfter_47
      · refine lv_iconst (v := (-1)) hx hb dX2_landedAfter_39 (by decide) ?_
        refine lv_goto (tgt := 47) hx hb dX2_landedAfter_40 (by decide) ?_
        have hz_15 : (-1 : Int32).toInt = (-1) := by decide
        exact rp_iret hx hb hr hlocks hS (show (-1 : Int32).toInt = -1 ∨ (0 ≤ (-1 : Int32).toInt ∧ (-1 : Int32).toInt ≤ 127) from (by first | assumption | omega)) hQ dX2_landedAfter_47
set_option maxRecDepth 100000 in
set_option maxHeartbeats 4000000 in
theorem t_X2_countFrom (l : Launch) (D : va_G) (cI cR cM : ClassId) (sz : Nat) {jn : Nat} {g : Nat → Nat} {L : List Nat} {S : Sg} {f : Nat → va_E} {k k_p : Nat} {k_l : Int32} {k_c : Nat → Int32} {x y : Int32}  (hj : 1 ≤ jn ∧ jn ≤ 3) (hG : SG g L S) (hI : IN jn cI cR cM g L S f) (m_k : k ∈ L) (s_k : S k = (2, k_p, 0)) (f_k : f k = .inr (3, [.ref k_p, .int k_l])) (f_k_p : f k_p = .inl (cI, 7, .inl k_c)) (hx0 : 0 ≤ x.toInt ∧ x.toInt ≤ 126) (hy0 : 0 ≤ y.toInt ∧ y.toInt ≤ 63) (hk0 : 1 ≤ k_l.toInt) : Met l yX2_countFrom wsX2_countFrom ({ frames := 1, cells := 0, slots := 0, locals := 25 }) (P0 D cI cR cM [.ref (g 18), .ref k, .int x, .int y] sz (va_pl L f)) (QG (S := Nat → va_E) (fun u => none) (fun u => va_pl L u) (fun u => IN jn cI cR cM g L S u ∧ FR S [46] f u) D (va_A (va_pl L f) sz)) 0 0 (va_A (va_pl L f) sz) := by
  refine go (cc := cX2_countFrom) (maxL := 9) (ret := none) (by decide +kernel) rfl (Nat.le_of_ble_eq_true rfl) ?_
  intro p e s m below meth c ls args Q hQ hsz hx hb hr hml hts hown hlocks hnm hP hK hD hl
  subst hsz
  have hD := hD.self (sz := s.heap.size)
  generalize hAe : va_A (va_pl L f) s.heap.size = A at hD hQ
  have hA : ∀ q, s.heap.size ≤ q → A q := fun q h => by rw [← hAe]; exact Or.inr h
  have hS : va_S A s.heap s.heap [] := va_S.rf
  have hF : FR S [46] f f := FR_rf
  have hl : lv_has ls 9 [(0, .ref (g 18)), (1, .ref k), (2, .int x), (3, .int y)] := hl
  obtain ⟨v1_k, v2_k, m_k_p, s_k_p⟩ := iv_2 hI m_k s_k f_k
  refine lv_iload_n hx hb dX2_countFrom_0 rfl (lv_at hl 2 rfl) ?_
  obtain ⟨k_1, hk_1, ek_1⟩ := nI_ex (x := x) (N := 127) (by omega) (by decide)
  refine lv_eqi (y := nI k_1) ek_1 ?_
  refine ro (va_runS (As := [.int (nI k_1)]) (rest := []) ⟨hx, hb, hml, hown, hts⟩ (c_bitCount l D cI cR cM _ (n0 := k_1) (by omega)) (va_cwS 1 hts gX2_countFrom_J6_bitCount_0f7a4 rfl rfl rfl (by decide +kernel) ⟨Nat.le_of_ble_eq_true rfl, Nat.le_of_ble_eq_true rfl⟩) (pre_S hK va_P_nil (va_D_nil (A := fun _ => True))) rfl rfl hl.1 rfl (lv_room (Nat.le_of_ble_eq_true rfl)) dX2_countFrom_1 ⟨Nat.le_of_ble_eq_true rfl, Nat.le_of_ble_eq_true rfl⟩) hS hA hP (fun H locs hP hS => ?_)
  refine lv_topi (fun z_1 q_1 => ?_)
  have b_1 : z_1.toInt ≤ 6 ∧ 0 ≤ z_1.toInt := by rw [q_1]; exact bc6 k_1 hk_1
  refine lv_istore (lv' := [(4, .int z_1), (0, .ref (g 18)), (1, .ref k), (2, .int x), (3, .int y)]) hx hb dX2_countFrom_4 hl (by decide) rfl (fun ls hl => ?_)
  refine lv_iload_n hx hb dX2_countFrom_6 rfl (lv_at hl 4 rfl) ?_
  refine lv_aload_n hx hb dX2_countFrom_7 rfl (lv_at hl 2 rfl) ?_
  refine t_getN (D := D) (L := L) (f := f) (ci := 3) (v := .int k_l) (C := RX3) (T := TX3) (N := 2) (host := "JugglingHall") hx hb hts (by decide +kernel) hown hK.1 hP m_k f_k rfl 1 (by decide) (hK.nw (.fieldLinkNest RX2 18 "JugglingHall$Marks" "count" "I" "JugglingHall") (by decide +kernel) rfl) (fun _ h9 => h9) rfl dX2_countFrom_8 ?_
  refine lv_iload hx hb dX2_countFrom_11 (lv_at hl 0 rfl) ?_
  refine a_isub (u := k_l.toInt) (v := z_1.toInt) hx hb dX2_countFrom_13 (rfl) (rfl) (by omega) (fun z_2 e_2 => ?_)
  refine lv_bipush (v := 9) hx hb dX2_countFrom_14 (by decide) ?_
  refine a_imul (u := (k_l.toInt - z_1.toInt)) (v := 9) hx hb dX2_countFrom_16 (e_2) (by decide) (by omega) (fun z_3 e_3 => ?_)
  refine va_mmin hx hb (by rw [hml]; exact hl.1.symm) hown (hts (.methodLink RX2 44 Lib.Math.min.name) (by decide +kernel)) (hts (.static Lib.Math.min.name) (by decide +kernel)) (hts (.initialized "java/lang/Math") (by decide +kernel)) (hts (.code Lib.Math.min.name Lib.Math.min.code 2 (some .int)) (by decide +kernel)) (Nat.le_of_ble_eq_true rfl) (Nat.le_of_ble_eq_true rfl) (Nat.le_of_ble_eq_true rfl) (Nat.le_of_ble_eq_true rfl) dX2_countFrom_17 ?_
  refine lv_topi (fun z_4 q_4 => ?_)
  obtain ⟨e1_4, e2_4, e3_4⟩ := i_min (u := y.toInt) (v := ((k_l.toInt - z_1.toInt) * 9)) (rfl) (e_3) q_4
  refine lv_istore (lv' := [(5, .int z_4), (4, .int z_1), (0, .ref (g 18)), (1, .ref k), (2, .int x), (3, .int y)]) hx hb dX2_countFrom_20 hl (by decide) rfl (fun ls hl => ?_)
  refine lv_iconst (v := 0) hx hb dX2_countFrom_22 (by decide) ?_
  refine lv_istore (lv' := [(6, .int 0), (5, .int z_4), (4, .int z_1), (0, .ref (g 18)), (1, .ref k), (2, .int x), (3, .int y)]) hx hb dX2_countFrom_23 hl (by decide) rfl (fun ls hl => ?_)
  have loop25 : ∀ (ddloop25 : Nat) (he : Int32) (f_5 : Nat → va_E) (H : Heap) (locs : List Loc) (ls : Array Slot), (20 - he.toInt).toNat < ddloop25 → IN jn cI cR cM g L S f_5 → FR S [46] f f_5 → (0 ≤ he.toInt ∧ he.toInt ≤ 10) → va_P D vwCl (va_pl L f_5) H → va_D A (va_pl L f_5) → va_S A s.heap H locs → lv_has ls 9 [(0, .ref (g 18)), (1, .ref k), (2, .int x), (3, .int y), (4, .int z_1), (5, .int z_4), (6, .int he)] → W p l e ({ frames := 1, cells := 0, slots := 0, locals := 25 }) s m args below meth c H locs 0 0 Q (F0 m 25 ls []) := by
    intro ddloop25
    induction ddloop25 with
    | zero =>
      intro he f_5 H locs ls hdd
      exact absurd hdd (Nat.not_lt_zero _)
    | succ ddloop25 ih25 =>
      intro he f_5 H locs ls hdd hI hF hi hP hD hS hl
      have fb_6 : f_5 k = .inr (3, [.ref k_p, .int k_l]) := FR_at hF s_k (show (2 : Nat) ∉ ([46] : List Nat) by decide) f_k
      have fb_7 : f_5 k_p = .inl (cI, 7, .inl k_c) := FR_at hF s_k_p (show (3 : Nat) ∉ ([46] : List Nat) by decide) f_k_p
      refine lv_iload hx hb dX2_countFrom_25 (lv_at hl 6 rfl) ?_
      refine lv_bipush (v := 9) hx hb dX2_countFrom_27 (by decide) ?_
      refine a_icmp_gt (u := he.toInt) (v := 9) (tgt := 106) hx hb dX2_countFrom_29 (by decide) (rfl) (by decide) (fun c_8 => ?_) (fun c_8 => ?_)
      · exact g_vret f_5 hx hb hr hlocks hS rfl (⟨hI, hF⟩) hP hD hQ (Nat.le_of_ble_eq_true rfl) (Nat.le_of_ble_eq_true rfl) dX2_countFrom_106
      · refine lv_aload_n hx hb dX2_countFrom_32 rfl (lv_at hl 1 rfl) ?_
        refine lv_iload hx hb dX2_countFrom_33 (lv_at hl 4 rfl) ?_
        refine lv_iload hx hb dX2_countFrom_35 (lv_at hl 6 rfl) ?_
        refine lv_iload_n hx hb dX2_countFrom_37 rfl (lv_at hl 2 rfl) ?_
        refine roP (va_runS (As := [.ref k, .int z_1, .int he, .int x]) (rest := []) ⟨hx, hb, hml, hown, hts⟩ (t_X2_landedAfter l D cI cR cM _  hj hG hI m_k s_k fb_6 fb_7 (by first | assumption | omega) (by first | assumption | omega) (by first | assumption | omega) (by first | assumption | omega)) (va_cwS 4 hts gX2_countFrom_X2_landedAfter rfl rfl rfl (by decide +kernel) ⟨Nat.le_of_ble_eq_true rfl, Nat.le_of_ble_eq_true rfl⟩) (pre_S hK hP hD) rfl rfl hl.1 rfl (lv_room (Nat.le_of_ble_eq_true rfl)) dX2_countFrom_38 ⟨Nat.le_of_ble_eq_true rfl, Nat.le_of_ble_eq_true rfl⟩) hS hA hP (fun r_9 H locs hw hP hS => ?_)
        have hr_9 : (r_9.toInt = -1 ∨ (0 ≤ r_9.toInt ∧ r_9.toInt ≤ 127)) := hw
        refine lv_istore (lv' := [(7, .int r_9), (0, .ref (g 18)), (1, .ref k), (2, .int x), (3, .int y), (4, .int z_1), (5, .int z_4), (6, .int he)]) hx hb dX2_countFrom_41 hl (by decide) rfl (fun ls hl => ?_)
        refine lv_iload hx hb dX2_countFrom_43 (lv_at hl 0 rfl) ?_
        refine lv_iconst (v := (-1)) hx hb dX2_countFrom_45 (by decide) ?_
        refine a_icmp_ne (u := r_9.toInt) (v := (-1)) (tgt := 52) hx hb dX2_countFrom_46 (by decide) (rfl) (by decide) (fun c_10 => ?_) (fun c_10 => ?_)
        · refine lv_iload hx hb dX2_countFrom_52 (lv_at hl 7 rfl) ?_
          refine lv_istore (lv' := [(8, .int he), (7, .int r_9), (0, .ref (g 18)), (1, .ref k), (2, .int x), (3, .int y), (4, .int z_1), (5, .int z_4), (6, .int he)]) hx hb dX2_countFrom_54 hl (by decide) rfl (fun ls hl => ?_)
          have loop56 : ∀ (ddloop56 : Nat) (re : Int32) (f_11 : Nat → va_E) (H : Heap) (locs : List Loc) (ls : Array Slot), (100 - re.toInt).toNat < ddloop56 → IN jn cI cR cM g L S f_11 → FR S [46] f f_11 → (he.toInt ≤ re.toInt ∧ re.toInt ≤ 64) → va_P D vwCl (va_pl L f_11) H → va_D A (va_pl L f_11) → va_S A s.heap H locs → lv_has ls 9 [(0, .ref (g 18)), (1, .ref k), (2, .int x), (3, .int y), (4, .int z_1), (5, .int z_4), (6, .int he), (7, .int r_9), (8, .int re)] → W p l e ({ frames := 1, cells := 0, slots := 0, locals := 25 }) s m args below meth c H locs 0 0 Q (F0 m 56 ls []) := by
            intro ddloop56
            induction ddloop56 with
            | zero =>
              intro re f_11 H locs ls hdd
              exact absurd hdd (Nat.not_lt_zero _)
            | succ ddloop56 ih56 =>
              intro re f_11 H locs ls hdd hI hF hi2 hP hD hS hl
              have fb_12 : f_11 k = .inr (3, [.ref k_p, .int k_l]) := FR_at hF s_k (show (2 : Nat) ∉ ([46] : List Nat) by decide) f_k
              have fb_13 : f_11 k_p = .inl (cI, 7, .inl k_c) := FR_at hF s_k_p (show (3 : Nat) ∉ ([46] : List Nat) by decide) f_k_p
              refine lv_iload hx hb dX2_countFrom_56 (lv_at hl 8 rfl) ?_
              refine lv_iload hx hb dX2_countFrom_58 (lv_at hl 5 rfl) ?_
              refine a_icmp_gt (u := re.toInt) (v := z_4.toInt) (tgt := 100) hx hb dX2_countFrom_60 (by decide) (rfl) (rfl) (fun c_14 => ?_) (fun c_14 => ?_)
              · obtain ⟨z_15, q_15, e_15⟩ := i_inc (a := he.toInt) (1) (rfl) (by decide) (by omega) (by omega)
                refine lv_iinc (v := z_15) (lv' := [(6, .int z_15), (0, .ref (g 18)), (1, .ref k), (2, .int x), (3, .int y), (4, .int z_1), (5, .int z_4), (7, .int r_9), (8, .int re)]) hx hb dX2_countFrom_100 hl (k := 6) rfl q_15 (by decide) rfl (fun ls hl => ?_)
                refine lv_goto (tgt := 25) hx hb dX2_countFrom_103 (by decide) ?_
                exact ih25 z_15 f_11 _ _ _ (by omega) hI hF (by first | assumption | omega) hP hD hS (lv_sub hl [1, 2, 3, 4, 5, 6, 0] rfl)
              · refine lv_aload_n hx hb dX2_countFrom_63 rfl (lv_at hl 0 rfl) ?_
                have fg_16 := op_18 hI (gm_18 hG) (gs_18 hG)
                refine t_get (D := D) (L := L) (f := f_11) (ci := 2) (v := .ref (g 46)) (C := RX2) (T := TX2) (N := 2) hx hb hts (by decide +kernel) hown hK.1 hP (gm_18 hG) fg_16 rfl 0 (by decide) (hts (.fieldLink RX2 11 "JugglingHall$Filling" "counts" "[I") (by decide +kernel)) (fun _ h9 => h9) rfl dX2_countFrom_64 ?_
                refine lv_iload_n hx hb dX2_countFrom_67 rfl (lv_at hl 2 rfl) ?_
                refine lv_bipush (v := 64) hx hb dX2_countFrom_68 (by decide) ?_
                refine a_imul (u := x.toInt) (v := 64) hx hb dX2_countFrom_70 (rfl) (by decide) (by omega) (fun z_17 e_17 => ?_)
                refine lv_iload hx hb dX2_countFrom_71 (lv_at hl 8 rfl) ?_
                refine a_iadd (u := (x.toInt * 64)) (v := re.toInt) hx hb dX2_countFrom_73 (e_17) (rfl) (by omega) (fun z_18 e_18 => ?_)
                refine lv_dup2_11 hx hb dX2_countFrom_74 rfl rfl ?_
                obtain ⟨c_19, fg_19⟩ := op_46 hI (gm_46 hG) (gs_46 hG)
                refine t_iald (L := L) (f := f_11) (y := c_19) (u := ((x.toInt * 64) + re.toInt)) hx hb hK.1 hP (gm_46 hG) 0 fg_19 rfl dX2_countFrom_75 (e_18) (by omega) (fun z_20 q_20 e_20 => ?_)
                refine lv_aload_n hx hb dX2_countFrom_76 rfl (lv_at hl 0 rfl) ?_
                refine t_get (D := D) (L := L) (f := f_11) (ci := 2) (v := .ref (g 46)) (C := RX2) (T := TX2) (N := 2) hx hb hts (by decide +kernel) hown hK.1 hP (gm_18 hG) fg_16 rfl 0 (by decide) (hts (.fieldLink RX2 11 "JugglingHall$Filling" "counts" "[I") (by decide +kernel)) (fun _ h9 => h9) rfl dX2_countFrom_77 ?_
                refine lv_iload hx hb dX2_countFrom_80 (lv_at hl 7 rfl) ?_
                refine lv_bipush (v := 64) hx hb dX2_countFrom_82 (by decide) ?_
                refine a_imul (u := r_9.toInt) (v := 64) hx hb dX2_countFrom_84 (rfl) (by decide) (by omega) (fun z_21 e_21 => ?_)
                refine lv_iload hx hb dX2_countFrom_85 (lv_at hl 8 rfl) ?_
                refine a_iadd (u := (r_9.toInt * 64)) (v := re.toInt) hx hb dX2_countFrom_87 (e_21) (rfl) (by omega) (fun z_22 e_22 => ?_)
                refine lv_iload hx hb dX2_countFrom_88 (lv_at hl 6 rfl) ?_
                refine a_isub (u := ((r_9.toInt * 64) + re.toInt)) (v := he.toInt) hx hb dX2_countFrom_90 (e_22) (rfl) (by omega) (fun z_23 e_23 => ?_)
                refine t_iald (L := L) (f := f_11) (y := c_19) (u := (((r_9.toInt * 64) + re.toInt) - he.toInt)) hx hb hK.1 hP (gm_46 hG) 0 fg_19 rfl dX2_countFrom_91 (e_23) (by omega) (fun z_24 q_24 e_24 => ?_)
                refine lv_iadd hx hb dX2_countFrom_92 ?_
                refine lv_topi (fun z_25 q_25 => ?_)
                refine t_iast (L := L) (f := f_11) (h := c_19) (u := ((x.toInt * 64) + re.toInt)) hx hb hK.1 hP hD hS (gm_46 hG) 0 fg_19 rfl dX2_countFrom_93 (e_18) (by omega) (fun g_26 f_26 H locs eg_26 e9_26 o_26 hP hD hS => ?_)
                have fa_26 : f_26 (g 46) = .inl (cI, 8192, .inl g_26) := e9_26
                have hI := IN_set (e := .inl (cI, 8192, .inl g_26)) hI (gs_46 hG) (mk_46) fa_26 o_26
                have hF := FR_set hF (gs_46 hG) (show (46 : Nat) ∈ ([46] : List Nat) by decide) o_26
                have fb_27 : f_26 k = .inr (3, [.ref k_p, .int k_l]) := f_at o_26 (S_ne s_k (gs_46 hG) (show (2 : Nat) ≠ 46 by decide)) fb_12
                have fb_28 : f_26 k_p = .inl (cI, 7, .inl k_c) := f_at o_26 (S_ne s_k_p (gs_46 hG) (show (3 : Nat) ≠ 46 by decide)) fb_13
                have fb_29 : f_26 (g 18) = .inr (2, [.ref (g 46), .ref (g 47)]) := f_at o_26 (S_ne (gs_18 hG) (gs_46 hG) (show (18 : Nat) ≠ 46 by decide)) fg_16
                obtain ⟨z_30, q_30, e_30⟩ := i_inc (a := re.toInt) (1) (rfl) (by decide) (by omega) (by omega)
                refine lv_iinc (v := z_30) (lv' := [(8, .int z_30), (0, .ref (g 18)), (1, .ref k), (2, .int x), (3, .int y), (4, .int z_1), (5, .int z_4), (6, .int he), (7, .int r_9)]) hx hb dX2_countFrom_94 hl (k := 8) rfl q_30 (by decide) rfl (fun ls hl => ?_)
                refine lv_goto (tgt := 56) hx hb dX2_countFrom_97 (by decide) ?_
                exact ih56 z_30 f_26 _ _ _ (by omega) hI hF (by first | assumption | omega) hP hD hS (lv_sub hl [1, 2, 3, 4, 5, 6, 7, 8, 0] rfl)
          exact loop56 ((100 - he.toInt).toNat + 1) he f_5 _ _ _ (by omega) hI hF (by first | assumption | omega) hP hD hS (lv_sub hl [2, 3, 4, 5, 6, 7, 8, 1, 0] rfl)
        · refine lv_goto (tgt := 100) hx hb dX2_countFrom_49 (by decide) ?_
          obtain ⟨z_31, q_31, e_31⟩ := i_inc (a := he.toInt) (1) (rfl) (by decide) (by omega) (by omega)
          refine lv_iinc (v := z_31) (lv' := [(6, .int z_31), (7, .int r_9), (0, .ref (g 18)), (1, .ref k), (2, .int x), (3, .int y), (4, .int z_1), (5, .int z_4)]) hx hb dX2_countFrom_100 hl (k := 7) rfl q_31 (by decide) rfl (fun ls hl => ?_)
          refine lv_goto (tgt := 25) hx hb dX2_countFrom_103 (by decide) ?_
          exact ih25 z_31 f_5 _ _ _ (by omega) hI hF (by first | assumption | omega) hP hD hS (lv_sub hl [2, 3, 4, 5, 6, 7, 0] rfl)
  have hz_32 : (0 : Int32).toInt = 0 := by decide
  exact loop25 ((20 - (0 : Int32).toInt).toNat + 1) (0 : Int32) f _ _ _ (by omega) hI hF (by first | assumption | omega) hP hD hS (lv_sub hl [3, 4, 5, 6, 2, 1, 0] rfl)
set_option maxRecDepth 100000 in
set_option maxHeartbeats 4000000 in
theorem t_X2_leastThatFits (l : Launch) (D : va_G) (cI cR cM : ClassId) (sz : Nat) {jn : Nat} {g : Nat → Nat} {L : List Nat} {S : Sg} {f : Nat → va_E} {k k_p : Nat} {k_l : Int32} {k_c : Nat → Int32} {x y rs : Int32}  (hj : 1 ≤ jn ∧ jn ≤ 3) (hG : SG g L S) (hI : IN jn cI cR cM g L S f) (m_k : k ∈ L) (s_k : S k = (2, k_p, 0)) (f_k : f k = .inr (3, [.ref k_p, .int k_l])) (f_k_p : f k_p = .inl (cI, 7, .inl k_c)) (hx0 : 0 ≤ x.toInt ∧ x.toInt ≤ 6) (hy0 : 0 ≤ y.toInt ∧ y.toInt ≤ 127) (hz0 : -1000 ≤ rs.toInt ∧ rs.toInt ≤ 63) (hk0 : 1 ≤ k_l.toInt) : Met l yX2_leastThatFits wsX2_leastThatFits ({ frames := 1, cells := 0, slots := 0, locals := 25 }) (P0 D cI cR cM [.ref (g 18), .ref k, .int x, .int y, .int rs] sz (va_pl L f)) (QP (fun r => (0 ≤ r.toInt ∧ r.toInt ≤ 9)) sz) 0 0 (va_A [] sz) := by
  refine go (cc := cX2_leastThatFits) (maxL := 7) (ret := (some .int)) (by decide +kernel) rfl (Nat.le_of_ble_eq_true rfl) ?_
  intro p e s m below meth c ls args Q hQ hsz hx hb hr hml hts hown hlocks hnm hP hK hD hl
  subst hsz
  have hS : va_S (va_A [] s.heap.size) s.heap s.heap [] := va_S.rf
  have hA : ∀ q, s.heap.size ≤ q → va_A [] s.heap.size q := fun q h => Or.inr h
  have hl : lv_has ls 7 [(0, .ref (g 18)), (1, .ref k), (2, .int x), (3, .int y), (4, .int rs)] := hl
  obtain ⟨v1_k, v2_k, m_k_p, s_k_p⟩ := iv_2 hI m_k s_k f_k
  refine lv_iconst (v := 0) hx hb dX2_leastThatFits_0 (by decide) ?_
  refine lv_istore (lv' := [(5, .int 0), (0, .ref (g 18)), (1, .ref k), (2, .int x), (3, .int y), (4, .int rs)]) hx hb dX2_leastThatFits_1 hl (by decide) rfl (fun ls hl => ?_)
  have loop3 : ∀ (ddloop3 : Nat) (he : Int32) (H : Heap) (locs : List Loc) (ls : Array Slot), (20 - he.toInt).toNat < ddloop3 → (0 ≤ he.toInt ∧ he.toInt ≤ 10) → va_P D vwCl (va_pl L f) H → va_S (va_A [] s.heap.size) s.heap H locs → lv_has ls 7 [(0, .ref (g 18)), (1, .ref k), (2, .int x), (3, .int y), (4, .int rs), (5, .int he)] → W p l e ({ frames := 1, cells := 0, slots := 0, locals := 25 }) s m args below meth c H locs 0 0 Q (F0 m 3 ls []) := by
    intro ddloop3
    induction ddloop3 with
    | zero =>
      intro he H locs ls hdd
      exact absurd hdd (Nat.not_lt_zero _)
    | succ ddloop3 ih3 =>
      intro he H locs ls hdd hi hP hS hl
      refine lv_iload hx hb dX2_leastThatFits_3 (lv_at hl 5 rfl) ?_
      refine lv_bipush (v := 9) hx hb dX2_leastThatFits_5 (by decide) ?_
      refine a_icmp_gt (u := he.toInt) (v := 9) (tgt := 61) hx hb dX2_leastThatFits_7 (by decide) (rfl) (by decide) (fun c_2 => ?_) (fun c_2 => ?_)
      · refine lv_iconst (v := 0) hx hb dX2_leastThatFits_61 (by decide) ?_
        have hz_3 : (0 : Int32).toInt = 0 := by decide
        exact rp_iret hx hb hr hlocks hS (show 0 ≤ (0 : Int32).toInt ∧ (0 : Int32).toInt ≤ 9 from (by first | assumption | omega)) hQ dX2_leastThatFits_62
      · refine lv_iload hx hb dX2_leastThatFits_10 (lv_at hl 5 rfl) ?_
        refine lv_iload hx hb dX2_leastThatFits_12 (lv_at hl 4 rfl) ?_
        refine a_icmp_gt (u := he.toInt) (v := rs.toInt) (tgt := 61) hx hb dX2_leastThatFits_14 (by decide) (rfl) (rfl) (fun c_4 => ?_) (fun c_4 => ?_)
        · refine lv_iconst (v := 0) hx hb dX2_leastThatFits_61 (by decide) ?_
          have hz_5 : (0 : Int32).toInt = 0 := by decide
          exact rp_iret hx hb hr hlocks hS (show 0 ≤ (0 : Int32).toInt ∧ (0 : Int32).toInt ≤ 9 from (by first | assumption | omega)) hQ dX2_leastThatFits_62
        · refine lv_aload_n hx hb dX2_leastThatFits_17 rfl (lv_at hl 1 rfl) ?_
          refine lv_iload_n hx hb dX2_leastThatFits_18 rfl (lv_at hl 2 rfl) ?_
          refine lv_iload hx hb dX2_leastThatFits_19 (lv_at hl 5 rfl) ?_
          refine lv_iload_n hx hb dX2_leastThatFits_21 rfl (lv_at hl 3 rfl) ?_
          refine roP (va_runS (As := [.ref k, .int x, .int he, .int y]) (rest := []) ⟨hx, hb, hml, hown, hts⟩ (t_X2_landedAfter l D cI cR cM _  hj hG hI m_k s_k f_k f_k_p (by first | assumption | omega) (by first | assumption | omega) (by first | assumption | omega) (by first | assumption | omega)) (va_cwS 4 hts gX2_leastThatFits_X2_landedAfter rfl rfl rfl (by decide +kernel) ⟨Nat.le_of_ble_eq_true rfl, Nat.le_of_ble_eq_true rfl⟩) (pre_S hK hP hD) rfl rfl hl.1 rfl (lv_room (Nat.le_of_ble_eq_true rfl)) dX2_leastThatFits_22 ⟨Nat.le_of_ble_eq_true rfl, Nat.le_of_ble_eq_true rfl⟩) hS hA hP (fun r_6 H locs hw hP hS => ?_)
          have hr_6 : (r_6.toInt = -1 ∨ (0 ≤ r_6.toInt ∧ r_6.toInt ≤ 127)) := hw
          refine lv_istore (lv' := [(6, .int r_6), (0, .ref (g 18)), (1, .ref k), (2, .int x), (3, .int y), (4, .int rs), (5, .int he)]) hx hb dX2_leastThatFits_25 hl (by decide) rfl (fun ls hl => ?_)
          refine lv_iload hx hb dX2_leastThatFits_27 (lv_at hl 0 rfl) ?_
          refine lv_iconst (v := (-1)) hx hb dX2_leastThatFits_29 (by decide) ?_
          refine a_icmp_eq (u := r_6.toInt) (v := (-1)) (tgt := 55) hx hb dX2_leastThatFits_30 (by decide) (rfl) (by decide) (fun c_7 => ?_) (fun c_7 => ?_)
          · obtain ⟨z_8, q_8, e_8⟩ := i_inc (a := he.toInt) (1) (rfl) (by decide) (by omega) (by omega)
            refine lv_iinc (v := z_8) (lv' := [(5, .int z_8), (6, .int r_6), (0, .ref (g 18)), (1, .ref k), (2, .int x), (3, .int y), (4, .int rs)]) hx hb dX2_leastThatFits_55 hl (k := 6) rfl q_8 (by decide) rfl (fun ls hl => ?_)
            refine lv_goto (tgt := 3) hx hb dX2_leastThatFits_58 (by decide) ?_
            exact ih3 z_8 _ _ _ (by omega) (by first | assumption | omega) hP hS (lv_sub hl [2, 3, 4, 5, 6, 0] rfl)
          · refine lv_aload_n hx hb dX2_leastThatFits_33 rfl (lv_at hl 1 rfl) ?_
            have fg_9 := op_18 hI (gm_18 hG) (gs_18 hG)
            refine t_get (D := D) (L := L) (f := f) (ci := 2) (v := .ref (g 46)) (C := RX2) (T := TX2) (N := 2) hx hb hts (by decide +kernel) hown hK.1 hP (gm_18 hG) fg_9 rfl 0 (by decide) (hts (.fieldLink RX2 11 "JugglingHall$Filling" "counts" "[I") (by decide +kernel)) (fun _ h9 => h9) rfl dX2_leastThatFits_34 ?_
            refine lv_iload hx hb dX2_leastThatFits_37 (lv_at hl 0 rfl) ?_
            refine lv_bipush (v := 64) hx hb dX2_leastThatFits_39 (by decide) ?_
            refine a_imul (u := r_6.toInt) (v := 64) hx hb dX2_leastThatFits_41 (rfl) (by decide) (by omega) (fun z_10 e_10 => ?_)
            refine lv_iload hx hb dX2_leastThatFits_42 (lv_at hl 5 rfl) ?_
            refine a_iadd (u := (r_6.toInt * 64)) (v := rs.toInt) hx hb dX2_leastThatFits_44 (e_10) (rfl) (by omega) (fun z_11 e_11 => ?_)
            refine lv_iload hx hb dX2_leastThatFits_45 (lv_at hl 6 rfl) ?_
            refine a_isub (u := ((r_6.toInt * 64) + rs.toInt)) (v := he.toInt) hx hb dX2_leastThatFits_47 (e_11) (rfl) (by omega) (fun z_12 e_12 => ?_)
            obtain ⟨c_13, fg_13⟩ := op_46 hI (gm_46 hG) (gs_46 hG)
            refine t_iald (L := L) (f := f) (y := c_13) (u := (((r_6.toInt * 64) + rs.toInt) - he.toInt)) hx hb hK.1 hP (gm_46 hG) 0 fg_13 rfl dX2_leastThatFits_48 (e_12) (by omega) (fun z_14 q_14 e_14 => ?_)
            refine a_if_le (u := z_14.toInt) (tgt := 55) hx hb dX2_leastThatFits_49 (by decide) (rfl) (fun c_15 => ?_) (fun c_15 => ?_)
            · obtain ⟨z_16, q_16, e_16⟩ := i_inc (a := he.toInt) (1) (rfl) (by decide) (by omega) (by omega)
              refine lv_iinc (v := z_16) (lv' := [(5, .int z_16), (6, .int r_6), (0, .ref (g 18)), (1, .ref k), (2, .int x), (3, .int y), (4, .int rs)]) hx hb dX2_leastThatFits_55 hl (k := 6) rfl q_16 (by decide) rfl (fun ls hl => ?_)
              refine lv_goto (tgt := 3) hx hb dX2_leastThatFits_58 (by decide) ?_
              exact ih3 z_16 _ _ _ (by omega) (by first | assumption | omega) hP hS (lv_sub hl [2, 3, 4, 5, 6, 0] rfl)
            · refine lv_iload hx hb dX2_leastThatFits_52 (lv_at hl 6 rfl) ?_
              exact rp_iret hx hb hr hlocks hS (show 0 ≤ he.toInt ∧ he.toInt ≤ 9 from (by first | assumption | omega)) hQ dX2_leastThatFits_54
  have hz_17 : (0 : Int32).toInt = 0 := by decide
  exact loop3 ((20 - (0 : Int32).toInt).toNat + 1) (0 : Int32) _ _ _ (by omega) (by first | assumption | omega) hP hS (lv_sub hl [1, 2, 3, 4, 5, 0] rfl)
set_option maxRecDepth 100000 in
set_option maxHeartbeats 4000000 in
theorem t_X2_choose (l : Launch) (D : va_G) (cI cR cM : ClassId) (sz : Nat) {jn : Nat} {g : Nat → Nat} {L : List Nat} {S : Sg} {f : Nat → va_E} {k k_p : Nat} {k_l : Int32} {k_c : Nat → Int32} {y : Int32}  (hj : 1 ≤ jn ∧ jn ≤ 3) (hG : SG g L S) (hI : IN jn cI cR cM g L S f) (m_k : k ∈ L) (s_k : S k = (2, k_p, 0)) (f_k : f k = .inr (3, [.ref k_p, .int k_l])) (f_k_p : f k_p = .inl (cI, 7, .inl k_c)) (hy0 : 0 ≤ y.toInt ∧ y.toInt ≤ 63) (hk0 : 1 ≤ k_l.toInt) : Met l yX2_choose wsX2_choose ({ frames := 2, cells := 0, slots := 0, locals := 51 }) (P0 D cI cR cM [.ref (g 18), .ref k, .int y] sz (va_pl L f)) (QG (S := Nat → va_E) (fun u => none) (fun u => va_pl L u) (fun u => IN jn cI cR cM g L S u ∧ FR S [47] f u) D (va_A (va_pl L f) sz)) 0 0 (va_A (va_pl L f) sz) := by
  refine go (cc := cX2_choose) (maxL := 6) (ret := none) (by decide +kernel) rfl (Nat.le_of_ble_eq_true rfl) ?_
  intro p e s m below meth c ls args Q hQ hsz hx hb hr hml hts hown hlocks hnm hP hK hD hl
  subst hsz
  have hD := hD.self (sz := s.heap.size)
  generalize hAe : va_A (va_pl L f) s.heap.size = A at hD hQ
  have hA : ∀ q, s.heap.size ≤ q → A q := fun q h => by rw [← hAe]; exact Or.inr h
  have hS : va_S A s.heap s.heap [] := va_S.rf
  have hF : FR S [47] f f := FR_rf
  have hl : lv_has ls 6 [(0, .ref (g 18)), (1, .ref k), (2, .int y)] := hl
  obtain ⟨v1_k, v2_k, m_k_p, s_k_p⟩ := iv_2 hI m_k s_k f_k
  refine lv_iconst (v := 0) hx hb dX2_choose_0 (by decide) ?_
  refine lv_istore_n (lv' := [(3, .int 0), (0, .ref (g 18)), (1, .ref k), (2, .int y)]) hx hb dX2_choose_1 rfl hl (by decide) rfl (fun ls hl => ?_)
  refine lv_iload_n hx hb dX2_choose_2 rfl (lv_at hl 3 rfl) ?_
  refine lv_istore (lv' := [(4, .int y), (3, .int 0), (0, .ref (g 18)), (1, .ref k), (2, .int y)]) hx hb dX2_choose_3 hl (by decide) rfl (fun ls hl => ?_)
  refine lv_iconst (v := 0) hx hb dX2_choose_5 (by decide) ?_
  refine lv_istore (lv' := [(5, .int 0), (4, .int y), (3, .int 0), (0, .ref (g 18)), (1, .ref k), (2, .int y)]) hx hb dX2_choose_6 hl (by decide) rfl (fun ls hl => ?_)
  have loop8 : ∀ (ddloop8 : Nat) (la : Int32) (rs : Int32) (mi : Int32) (f_1 : Nat → va_E) (H : Heap) (locs : List Loc) (ls : Array Slot), (20 - mi.toInt).toNat < ddloop8 → IN jn cI cR cM g L S f_1 → FR S [47] f f_1 → (-1 ≤ la.toInt ∧ la.toInt ≤ 127 ∧ 0 ≤ mi.toInt ∧ mi.toInt ≤ 7 ∧ -9 * mi.toInt ≤ rs.toInt ∧ rs.toInt ≤ 63) → va_P D vwCl (va_pl L f_1) H → va_D A (va_pl L f_1) → va_S A s.heap H locs → lv_has ls 6 [(0, .ref (g 18)), (1, .ref k), (2, .int y), (3, .int la), (4, .int rs), (5, .int mi)] → W p l e ({ frames := 2, cells := 0, slots := 0, locals := 51 }) s m args below meth c H locs 0 0 Q (F0 m 8 ls []) := by
    intro ddloop8
    induction ddloop8 with
    | zero =>
      intro la rs mi f_1 H locs ls hdd
      exact absurd hdd (Nat.not_lt_zero _)
    | succ ddloop8 ih8 =>
      intro la rs mi f_1 H locs ls hdd hI hF hi hP hD hS hl
      have fb_2 : f_1 k = .inr (3, [.ref k_p, .int k_l]) := FR_at hF s_k (show (2 : Nat) ∉ ([47] : List Nat) by decide) f_k
      have fb_3 : f_1 k_p = .inl (cI, 7, .inl k_c) := FR_at hF s_k_p (show (3 : Nat) ∉ ([47] : List Nat) by decide) f_k_p
      refine lv_iload hx hb dX2_choose_8 (lv_at hl 5 rfl) ?_
      refine lv_aload_n hx hb dX2_choose_10 rfl (lv_at hl 1 rfl) ?_
      refine t_getN (D := D) (L := L) (f := f_1) (ci := 3) (v := .int k_l) (C := RX3) (T := TX3) (N := 2) (host := "JugglingHall") hx hb hts (by decide +kernel) hown hK.1 hP m_k fb_2 rfl 1 (by decide) (hK.nw (.fieldLinkNest RX2 18 "JugglingHall$Marks" "count" "I" "JugglingHall") (by decide +kernel) rfl) (fun _ h9 => h9) rfl dX2_choose_11 ?_
      refine a_icmp_ge (u := mi.toInt) (v := k_l.toInt) (tgt := 72) hx hb dX2_choose_14 (by decide) (rfl) (rfl) (fun c_4 => ?_) (fun c_4 => ?_)
      · exact g_vret f_1 hx hb hr hlocks hS rfl (⟨hI, hF⟩) hP hD hQ (Nat.le_of_ble_eq_true rfl) (Nat.le_of_ble_eq_true rfl) dX2_choose_72
      · refine lv_iload_n hx hb dX2_choose_17 rfl (lv_at hl 3 rfl) ?_
        refine lv_iconst (v := (-1)) hx hb dX2_choose_18 (by decide) ?_
        refine a_icmp_eq (u := la.toInt) (v := (-1)) (tgt := 72) hx hb dX2_choose_19 (by decide) (rfl) (by decide) (fun c_5 => ?_) (fun c_5 => ?_)
        · exact g_vret f_1 hx hb hr hlocks hS rfl (⟨hI, hF⟩) hP hD hQ (Nat.le_of_ble_eq_true rfl) (Nat.le_of_ble_eq_true rfl) dX2_choose_72
        · refine lv_aload_n hx hb dX2_choose_22 rfl (lv_at hl 0 rfl) ?_
          have fg_6 := op_18 hI (gm_18 hG) (gs_18 hG)
          refine t_get (D := D) (L := L) (f := f_1) (ci := 2) (v := .ref (g 47)) (C := RX2) (T := TX2) (N := 2) hx hb hts (by decide +kernel) hown hK.1 hP (gm_18 hG) fg_6 rfl 1 (by decide) (hts (.fieldLink RX2 15 "JugglingHall$Filling" "first" "[I") (by decide +kernel)) (fun _ h9 => h9) rfl dX2_choose_23 ?_
          refine lv_iload hx hb dX2_choose_26 (lv_at hl 5 rfl) ?_
          refine lv_aload_n hx hb dX2_choose_28 rfl (lv_at hl 0 rfl) ?_
          refine lv_aload_n hx hb dX2_choose_29 rfl (lv_at hl 1 rfl) ?_
          refine lv_iload hx hb dX2_choose_30 (lv_at hl 5 rfl) ?_
          refine lv_iload_n hx hb dX2_choose_32 rfl (lv_at hl 3 rfl) ?_
          refine lv_iload hx hb dX2_choose_33 (lv_at hl 4 rfl) ?_
          refine roP (va_runV (As := [.ref k, .int mi, .int la, .int rs]) (rest := [.int mi, .ref (g 47)]) ⟨hx, hb, hml, hown, hts⟩ (t_X2_leastThatFits l D cI cR cM _  hj hG hI m_k s_k fb_2 fb_3 (by first | assumption | omega) (by first | assumption | omega) (by first | assumption | omega) (by first | assumption | omega)) (cwV 4 hts gX2_choose_X2_leastThatFits rfl rfl rfl (by decide +kernel) ⟨Nat.le_of_ble_eq_true rfl, Nat.le_of_ble_eq_true rfl⟩) (pre_T hK hP hD (gm_18 hG) fg_6 rfl) rfl rfl hl.1 rfl (lv_room (Nat.le_of_ble_eq_true rfl)) dX2_choose_35 ⟨Nat.le_of_ble_eq_true rfl, Nat.le_of_ble_eq_true rfl⟩) hS hA hP (fun r_7 H locs hw hP hS => ?_)
          have hr_7 : (0 ≤ r_7.toInt ∧ r_7.toInt ≤ 9) := hw
          obtain ⟨c_8, fg_8⟩ := op_47 hI (gm_47 hG) (gs_47 hG)
          refine t_iast (L := L) (f := f_1) (h := c_8) (u := mi.toInt) hx hb hK.1 hP hD hS (gm_47 hG) 0 fg_8 rfl dX2_choose_38 (rfl) (by omega) (fun g_9 f_9 H locs eg_9 e9_9 o_9 hP hD hS => ?_)
          have fa_9 : f_9 (g 47) = .inl (cI, 7, .inl g_9) := e9_9
          have hI := IN_set (e := .inl (cI, 7, .inl g_9)) hI (gs_47 hG) (mk_47) fa_9 o_9
          have hF := FR_set hF (gs_47 hG) (show (47 : Nat) ∈ ([47] : List Nat) by decide) o_9
          have fb_10 : f_9 k = .inr (3, [.ref k_p, .int k_l]) := f_at o_9 (S_ne s_k (gs_47 hG) (show (2 : Nat) ≠ 47 by decide)) fb_2
          have fb_11 : f_9 k_p = .inl (cI, 7, .inl k_c) := f_at o_9 (S_ne s_k_p (gs_47 hG) (show (3 : Nat) ≠ 47 by decide)) fb_3
          have fb_12 : f_9 (g 18) = .inr (2, [.ref (g 46), .ref (g 47)]) := f_at o_9 (S_ne (gs_18 hG) (gs_47 hG) (show (18 : Nat) ≠ 47 by decide)) fg_6
          refine lv_iload hx hb dX2_choose_39 (lv_at hl 4 rfl) ?_
          refine lv_aload_n hx hb dX2_choose_41 rfl (lv_at hl 0 rfl) ?_
          refine t_get (D := D) (L := L) (f := f_9) (ci := 2) (v := .ref (g 47)) (C := RX2) (T := TX2) (N := 2) hx hb hts (by decide +kernel) hown hK.1 hP (gm_18 hG) fb_12 rfl 1 (by decide) (hts (.fieldLink RX2 15 "JugglingHall$Filling" "first" "[I") (by decide +kernel)) (fun _ h9 => h9) rfl dX2_choose_42 ?_
          refine lv_iload hx hb dX2_choose_45 (lv_at hl 5 rfl) ?_
          refine t_iald (L := L) (f := f_9) (y := g_9) (u := mi.toInt) hx hb hK.1 hP (gm_47 hG) 0 fa_9 rfl dX2_choose_47 (rfl) (by omega) (fun z_13 q_13 e_13 => ?_)
          have ez_13 : z_13 = r_7 := by rw [q_13, eg_9, pk_us]
          have ez2_13 : z_13.toInt = r_7.toInt := by rw [ez_13]
          refine a_isub (u := rs.toInt) (v := z_13.toInt) hx hb dX2_choose_48 (rfl) (rfl) (by omega) (fun z_14 e_14 => ?_)
          refine lv_istore (lv' := [(4, .int z_14), (0, .ref (g 18)), (1, .ref k), (2, .int y), (3, .int la), (5, .int mi)]) hx hb dX2_choose_49 hl (by decide) rfl (fun ls hl => ?_)
          refine lv_aload_n hx hb dX2_choose_51 rfl (lv_at hl 2 rfl) ?_
          refine lv_iload hx hb dX2_choose_52 (lv_at hl 5 rfl) ?_
          refine lv_aload_n hx hb dX2_choose_54 rfl (lv_at hl 1 rfl) ?_
          refine t_get (D := D) (L := L) (f := f_9) (ci := 2) (v := .ref (g 47)) (C := RX2) (T := TX2) (N := 2) hx hb hts (by decide +kernel) hown hK.1 hP (gm_18 hG) fb_12 rfl 1 (by decide) (hts (.fieldLink RX2 15 "JugglingHall$Filling" "first" "[I") (by decide +kernel)) (fun _ h9 => h9) rfl dX2_choose_55 ?_
          refine lv_iload hx hb dX2_choose_58 (lv_at hl 5 rfl) ?_
          refine t_iald (L := L) (f := f_9) (y := g_9) (u := mi.toInt) hx hb hK.1 hP (gm_47 hG) 0 fa_9 rfl dX2_choose_60 (rfl) (by omega) (fun z_15 q_15 e_15 => ?_)
          have ez_15 : z_15 = r_7 := by rw [q_15, eg_9, pk_us]
          have ez2_15 : z_15.toInt = r_7.toInt := by rw [ez_15]
          refine lv_iload_n hx hb dX2_choose_61 rfl (lv_at hl 4 rfl) ?_
          refine roP (va_runS (As := [.ref k, .int mi, .int z_15, .int la]) (rest := []) ⟨hx, hb, hml, hown, hts⟩ (t_X2_landedAfter l D cI cR cM _  hj hG hI m_k s_k fb_10 fb_11 (by first | assumption | omega) (by first | assumption | omega) (by first | assumption | omega) (by first | assumption | omega)) (va_cwS 4 hts gX2_choose_X2_landedAfter rfl rfl rfl (by decide +kernel) ⟨Nat.le_of_ble_eq_true rfl, Nat.le_of_ble_eq_true rfl⟩) (pre_S hK hP hD) rfl rfl hl.1 rfl (lv_room (Nat.le_of_ble_eq_true rfl)) dX2_choose_62 ⟨Nat.le_of_ble_eq_true rfl, Nat.le_of_ble_eq_true rfl⟩) hS hA hP (fun r_16 H locs hw hP hS => ?_)
          have hr_16 : (r_16.toInt = -1 ∨ (0 ≤ r_16.toInt ∧ r_16.toInt ≤ 127)) := hw
          refine lv_istore_n (lv' := [(3, .int r_16), (4, .int z_14), (0, .ref (g 18)), (1, .ref k), (2, .int y), (5, .int mi)]) hx hb dX2_choose_65 rfl hl (by decide) rfl (fun ls hl => ?_)
          obtain ⟨z_17, q_17, e_17⟩ := i_inc (a := mi.toInt) (1) (rfl) (by decide) (by omega) (by omega)
          refine lv_iinc (v := z_17) (lv' := [(5, .int z_17), (3, .int r_16), (4, .int z_14), (0, .ref (g 18)), (1, .ref k), (2, .int y)]) hx hb dX2_choose_66 hl (k := 5) rfl q_17 (by decide) rfl (fun ls hl => ?_)
          refine lv_goto (tgt := 8) hx hb dX2_choose_69 (by decide) ?_
          exact ih8 r_16 z_14 z_17 f_9 _ _ _ (by omega) hI hF (by first | assumption | omega) hP hD hS (lv_sub hl [3, 4, 5, 1, 2, 0] rfl)
  have hz_18 : (0 : Int32).toInt = 0 := by decide
  have hz_19 : (0 : Int32).toInt = 0 := by decide
  exact loop8 ((20 - (0 : Int32).toInt).toNat + 1) (0 : Int32) y (0 : Int32) f _ _ _ (by omega) hI hF (by first | assumption | omega) hP hD hS (lv_sub hl [3, 4, 5, 2, 1, 0] rfl)
set_option maxRecDepth 100000 in
set_option maxHeartbeats 4000000 in
theorem t_J7_rangeCheck_23922 (l : Launch) (D : va_G) (cI cR cM : ClassId) (sz : Nat) {x y v : Int32}  (h0 : 0 ≤ y.toInt ∧ y.toInt ≤ v.toInt ∧ v.toInt ≤ x.toInt) : Met l yJ7_rangeCheck_23922 wsJ7_rangeCheck_23922 ({ frames := 0, cells := 0, slots := 0, locals := 0 }) (P0 D cI cR cM [.int x, .int y, .int v] sz []) (QE none sz) 0 0 (va_A [] sz) := by
  refine go (cc := cJ7_rangeCheck_23922) (maxL := 3) (ret := none) (by decide +kernel) rfl (Nat.le_of_ble_eq_true rfl) ?_
  intro p e s m below meth c ls args Q hQ hsz hx hb hr hml hts hown hlocks hnm hP hK hD hl
  subst hsz
  have hS : va_S (va_A [] s.heap.size) s.heap s.heap [] := va_S.rf
  have hA : ∀ q, s.heap.size ≤ q → va_A [] s.heap.size q := fun q h => Or.inr h
  have hl : lv_has ls 3 [(0, .int x), (1, .int y), (2, .int v)] := hl
  refine lv_iload_n hx hb dJ7_rangeCheck_23922_0 rfl (lv_at hl 1 rfl) ?_
  refine lv_iload_n hx hb dJ7_rangeCheck_23922_1 rfl (lv_at hl 2 rfl) ?_
  refine a_icmp_le (u := y.toInt) (v := v.toInt) (tgt := 46) hx hb dJ7_rangeCheck_23922_2 (by decide) (rfl) (rfl) (fun c_1 => ?_) (fun c_1 => absurd c_1 (by omega))
  refine lv_iload_n hx hb dJ7_rangeCheck_23922_46 rfl (lv_at hl 1 rfl) ?_
  refine a_if_ge (u := y.toInt) (tgt := 59) hx hb dJ7_rangeCheck_23922_47 (by decide) (rfl) (fun c_2 => ?_) (fun c_2 => absurd c_2 (by omega))
  refine lv_iload_n hx hb dJ7_rangeCheck_23922_59 rfl (lv_at hl 2 rfl) ?_
  refine lv_iload_n hx hb dJ7_rangeCheck_23922_60 rfl (lv_at hl 0 rfl) ?_
  refine a_icmp_le (u := v.toInt) (v := x.toInt) (tgt := 73) hx hb dJ7_rangeCheck_23922_61 (by decide) (rfl) (rfl) (fun c_3 => ?_) (fun c_3 => absurd c_3 (by omega))
  exact ro_vret hx hb hr hlocks hS hQ dJ7_rangeCheck_23922_73
set_option maxRecDepth 100000 in
set_option maxHeartbeats 4000000 in
theorem t_J7_fill_fda19 (l : Launch) (D : va_G) (cI cR cM : ClassId) (sz : Nat) {jn : Nat} {g : Nat → Nat} {L : List Nat} {S : Sg} {f : Nat → va_E} {x y v : Int32}  (hj : 1 ≤ jn ∧ jn ≤ 3) (hG : SG g L S) (hI : IN jn cI cR cM g L S f) (h0 : 0 ≤ x.toInt ∧ x.toInt ≤ y.toInt ∧ y.toInt ≤ 8192) : Met l yJ7_fill_fda19 wsJ7_fill_fda19 ({ frames := 1, cells := 0, slots := 0, locals := 22 }) (P0 D cI cR cM [.ref (g 46), .int x, .int y, .int v] sz (va_pl L f)) (QG (S := Nat → va_E) (fun u => none) (fun u => va_pl L u) (fun u => IN jn cI cR cM g L S u ∧ FR S [46] f u) D (va_A (va_pl L f) sz)) 0 0 (va_A (va_pl L f) sz) := by
  refine go (cc := cJ7_fill_fda19) (maxL := 5) (ret := none) (by decide +kernel) rfl (Nat.le_of_ble_eq_true rfl) ?_
  intro p e s m below meth c ls args Q hQ hsz hx hb hr hml hts hown hlocks hnm hP hK hD hl
  subst hsz
  have hD := hD.self (sz := s.heap.size)
  generalize hAe : va_A (va_pl L f) s.heap.size = A at hD hQ
  have hA : ∀ q, s.heap.size ≤ q → A q := fun q h => by rw [← hAe]; exact Or.inr h
  have hS : va_S A s.heap s.heap [] := va_S.rf
  have hF : FR S [46] f f := FR_rf
  have hl : lv_has ls 5 [(0, .ref (g 46)), (1, .int x), (2, .int y), (3, .int v)] := hl
  refine lv_aload_n hx hb dJ7_fill_fda19_0 rfl (lv_at hl 0 rfl) ?_
  obtain ⟨c_1, fg_1⟩ := op_46 hI (gm_46 hG) (gs_46 hG)
  refine t_alen (L := L) (f := f) (v := 8192) hx hb hK.1 hP (gm_46 hG) 0 fg_1 rfl rfl dJ7_fill_fda19_1 ?_
  refine lv_iload_n hx hb dJ7_fill_fda19_2 rfl (lv_at hl 1 rfl) ?_
  refine lv_iload_n hx hb dJ7_fill_fda19_3 rfl (lv_at hl 2 rfl) ?_
  have hz_2 : (8192 : Int32).toInt = 8192 := by decide
  refine ro (va_runS (As := [.int 8192, .int x, .int y]) (rest := []) ⟨hx, hb, hml, hown, hts⟩ (t_J7_rangeCheck_23922 l D cI cR cM _    (by first | assumption | omega)) (va_cwS 3 hts gJ7_fill_fda19_J7_rangeCheck_23922 rfl rfl rfl (by decide +kernel) ⟨Nat.le_of_ble_eq_true rfl, Nat.le_of_ble_eq_true rfl⟩) (pre_S hK va_P_nil (va_D_nil (A := fun _ => True))) rfl rfl hl.1 rfl (lv_room (Nat.le_of_ble_eq_true rfl)) dJ7_fill_fda19_4 ⟨Nat.le_of_ble_eq_true rfl, Nat.le_of_ble_eq_true rfl⟩) hS hA hP (fun H locs hP hS => ?_)
  refine lv_iload_n hx hb dJ7_fill_fda19_7 rfl (lv_at hl 1 rfl) ?_
  refine lv_istore (lv' := [(4, .int x), (0, .ref (g 46)), (1, .int x), (2, .int y), (3, .int v)]) hx hb dJ7_fill_fda19_8 hl (by decide) rfl (fun ls hl => ?_)
  have loop10 : ∀ (ddloop10 : Nat) (ii : Int32) (f_4 : Nat → va_E) (H : Heap) (locs : List Loc) (ls : Array Slot), (10000 - ii.toInt).toNat < ddloop10 → IN jn cI cR cM g L S f_4 → FR S [46] f f_4 → (x.toInt ≤ ii.toInt ∧ ii.toInt ≤ y.toInt) → va_P D vwCl (va_pl L f_4) H → va_D A (va_pl L f_4) → va_S A s.heap H locs → lv_has ls 5 [(0, .ref (g 46)), (1, .int x), (2, .int y), (3, .int v), (4, .int ii)] → W p l e ({ frames := 1, cells := 0, slots := 0, locals := 22 }) s m args below meth c H locs 0 0 Q (F0 m 10 ls []) := by
    intro ddloop10
    induction ddloop10 with
    | zero =>
      intro ii f_4 H locs ls hdd
      exact absurd hdd (Nat.not_lt_zero _)
    | succ ddloop10 ih10 =>
      intro ii f_4 H locs ls hdd hI hF hi hP hD hS hl
      refine lv_iload hx hb dJ7_fill_fda19_10 (lv_at hl 4 rfl) ?_
      refine lv_iload_n hx hb dJ7_fill_fda19_12 rfl (lv_at hl 2 rfl) ?_
      refine a_icmp_ge (u := ii.toInt) (v := y.toInt) (tgt := 27) hx hb dJ7_fill_fda19_13 (by decide) (rfl) (rfl) (fun c_5 => ?_) (fun c_5 => ?_)
      · exact g_vret f_4 hx hb hr hlocks hS rfl (⟨hI, hF⟩) hP hD hQ (Nat.le_of_ble_eq_true rfl) (Nat.le_of_ble_eq_true rfl) dJ7_fill_fda19_27
      · refine lv_aload_n hx hb dJ7_fill_fda19_16 rfl (lv_at hl 0 rfl) ?_
        refine lv_iload hx hb dJ7_fill_fda19_17 (lv_at hl 4 rfl) ?_
        refine lv_iload_n hx hb dJ7_fill_fda19_19 rfl (lv_at hl 3 rfl) ?_
        obtain ⟨c_6, fg_6⟩ := op_46 hI (gm_46 hG) (gs_46 hG)
        refine t_iast (L := L) (f := f_4) (h := c_6) (u := ii.toInt) hx hb hK.1 hP hD hS (gm_46 hG) 0 fg_6 rfl dJ7_fill_fda19_20 (rfl) (by omega) (fun g_7 f_7 H locs eg_7 e9_7 o_7 hP hD hS => ?_)
        have fa_7 : f_7 (g 46) = .inl (cI, 8192, .inl g_7) := e9_7
        have hI := IN_set (e := .inl (cI, 8192, .inl g_7)) hI (gs_46 hG) (mk_46) fa_7 o_7
        have hF := FR_set hF (gs_46 hG) (show (46 : Nat) ∈ ([46] : List Nat) by decide) o_7
        obtain ⟨z_8, q_8, e_8⟩ := i_inc (a := ii.toInt) (1) (rfl) (by decide) (by omega) (by omega)
        refine lv_iinc (v := z_8) (lv' := [(4, .int z_8), (0, .ref (g 46)), (1, .int x), (2, .int y), (3, .int v)]) hx hb dJ7_fill_fda19_21 hl (k := 4) rfl q_8 (by decide) rfl (fun ls hl => ?_)
        refine lv_goto (tgt := 10) hx hb dJ7_fill_fda19_24 (by decide) ?_
        exact ih10 z_8 f_7 _ _ _ (by omega) hI hF (by first | assumption | omega) hP hD hS (lv_sub hl [1, 2, 3, 4, 0] rfl)
  exact loop10 ((10000 - x.toInt).toNat + 1) x f _ _ _ (by omega) hI hF (by first | assumption | omega) hP hD hS (lv_sub hl [1, 2, 3, 4, 0] rfl)
set_option maxRecDepth 100000 in
set_option maxHeartbeats 4000000 in
theorem t_X2_fill (l : Launch) (D : va_G) (cI cR cM : ClassId) (sz : Nat) {jn : Nat} {g : Nat → Nat} {L : List Nat} {S : Sg} {f : Nat → va_E} {k k_p : Nat} {k_l : Int32} {k_c : Nat → Int32} {x : Int32}  (hj : 1 ≤ jn ∧ jn ≤ 3) (hG : SG g L S) (hI : IN jn cI cR cM g L S f) (m_k : k ∈ L) (s_k : S k = (2, k_p, 0)) (f_k : f k = .inr (3, [.ref k_p, .int k_l])) (f_k_p : f k_p = .inl (cI, 7, .inl k_c))  : Met l yX2_fill wsX2_fill ({ frames := 3, cells := 0, slots := 0, locals := 76 }) (P0 D cI cR cM [.ref (g 18), .ref k, .int x] sz (va_pl L f)) (QG (S := Int32 × (Nat → va_E)) (fun u => some (.int u.1)) (fun u => va_pl L u.2) (fun u => IN jn cI cR cM g L S u.2 ∧ FR S [46, 47] f u.2) D (va_A (va_pl L f) sz)) 0 0 (va_A (va_pl L f) sz) := by
  refine go (cc := cX2_fill) (maxL := 6) (ret := (some .int)) (by decide +kernel) rfl (Nat.le_of_ble_eq_true rfl) ?_
  intro p e s m below meth c ls args Q hQ hsz hx hb hr hml hts hown hlocks hnm hP hK hD hl
  subst hsz
  have hD := hD.self (sz := s.heap.size)
  generalize hAe : va_A (va_pl L f) s.heap.size = A at hD hQ
  have hA : ∀ q, s.heap.size ≤ q → A q := fun q h => by rw [← hAe]; exact Or.inr h
  have hS : va_S A s.heap s.heap [] := va_S.rf
  have hF : FR S [46, 47] f f := FR_rf
  have hl : lv_has ls 6 [(0, .ref (g 18)), (1, .ref k), (2, .int x)] := hl
  obtain ⟨v1_k, v2_k, m_k_p, s_k_p⟩ := iv_2 hI m_k s_k f_k
  refine lv_aload_n hx hb dX2_fill_0 rfl (lv_at hl 1 rfl) ?_
  refine t_getN (D := D) (L := L) (f := f) (ci := 3) (v := .int k_l) (C := RX3) (T := TX3) (N := 2) (host := "JugglingHall") hx hb hts (by decide +kernel) hown hK.1 hP m_k f_k rfl 1 (by decide) (hK.nw (.fieldLinkNest RX2 18 "JugglingHall$Marks" "count" "I" "JugglingHall") (by decide +kernel) rfl) (fun _ h9 => h9) rfl dX2_fill_1 ?_
  refine lv_iconst (v := 1) hx hb dX2_fill_4 (by decide) ?_
  refine a_icmp_lt (u := k_l.toInt) (v := 1) (tgt := 27) hx hb dX2_fill_5 (by decide) (rfl) (by decide) (fun c_1 => ?_) (fun c_1 => ?_)
  · refine lv_iconst (v := 0) hx hb dX2_fill_27 (by decide) ?_
    have hz_2 : (0 : Int32).toInt = 0 := by decide
    exact g_iret ((0 : Int32), f) hx hb hr hlocks hS rfl (⟨hI, hF⟩) hP hD hQ (Nat.le_of_ble_eq_true rfl) (Nat.le_of_ble_eq_true rfl) dX2_fill_28
  · refine lv_aload_n hx hb dX2_fill_8 rfl (lv_at hl 1 rfl) ?_
    refine t_getN (D := D) (L := L) (f := f) (ci := 3) (v := .int k_l) (C := RX3) (T := TX3) (N := 2) (host := "JugglingHall") hx hb hts (by decide +kernel) hown hK.1 hP m_k f_k rfl 1 (by decide) (hK.nw (.fieldLinkNest RX2 18 "JugglingHall$Marks" "count" "I" "JugglingHall") (by decide +kernel) rfl) (fun _ h9 => h9) rfl dX2_fill_9 ?_
    refine lv_bipush (v := 7) hx hb dX2_fill_12 (by decide) ?_
    refine a_icmp_gt (u := k_l.toInt) (v := 7) (tgt := 27) hx hb dX2_fill_14 (by decide) (rfl) (by decide) (fun c_3 => ?_) (fun c_3 => ?_)
    · refine lv_iconst (v := 0) hx hb dX2_fill_27 (by decide) ?_
      have hz_4 : (0 : Int32).toInt = 0 := by decide
      exact g_iret ((0 : Int32), f) hx hb hr hlocks hS rfl (⟨hI, hF⟩) hP hD hQ (Nat.le_of_ble_eq_true rfl) (Nat.le_of_ble_eq_true rfl) dX2_fill_28
    · refine lv_iload_n hx hb dX2_fill_17 rfl (lv_at hl 2 rfl) ?_
      refine a_if_lt (u := x.toInt) (tgt := 27) hx hb dX2_fill_18 (by decide) (rfl) (fun c_5 => ?_) (fun c_5 => ?_)
      · refine lv_iconst (v := 0) hx hb dX2_fill_27 (by decide) ?_
        have hz_6 : (0 : Int32).toInt = 0 := by decide
        exact g_iret ((0 : Int32), f) hx hb hr hlocks hS rfl (⟨hI, hF⟩) hP hD hQ (Nat.le_of_ble_eq_true rfl) (Nat.le_of_ble_eq_true rfl) dX2_fill_28
      · refine lv_iload_n hx hb dX2_fill_21 rfl (lv_at hl 2 rfl) ?_
        refine lv_bipush (v := 9) hx hb dX2_fill_22 (by decide) ?_
        refine a_icmp_le (u := x.toInt) (v := 9) (tgt := 29) hx hb dX2_fill_24 (by decide) (rfl) (by decide) (fun c_7 => ?_) (fun c_7 => ?_)
        · refine lv_iload_n hx hb dX2_fill_29 rfl (lv_at hl 2 rfl) ?_
          refine lv_aload_n hx hb dX2_fill_30 rfl (lv_at hl 1 rfl) ?_
          refine t_getN (D := D) (L := L) (f := f) (ci := 3) (v := .int k_l) (C := RX3) (T := TX3) (N := 2) (host := "JugglingHall") hx hb hts (by decide +kernel) hown hK.1 hP m_k f_k rfl 1 (by decide) (hK.nw (.fieldLinkNest RX2 18 "JugglingHall$Marks" "count" "I" "JugglingHall") (by decide +kernel) rfl) (fun _ h9 => h9) rfl dX2_fill_31 ?_
          have hm63 := mul63 (a := x.toInt) (b := k_l.toInt) (by omega) (by omega)
          refine a_imul (u := x.toInt) (v := k_l.toInt) hx hb dX2_fill_34 (rfl) (rfl) (by omega) (fun z_8 e_8 => ?_)
          refine lv_istore_n (lv' := [(3, .int z_8), (0, .ref (g 18)), (1, .ref k), (2, .int x)]) hx hb dX2_fill_35 rfl hl (by decide) rfl (fun ls hl => ?_)
          refine lv_iconst (v := 1) hx hb dX2_fill_36 (by decide) ?_
          refine lv_aload_n hx hb dX2_fill_37 rfl (lv_at hl 2 rfl) ?_
          refine t_getN (D := D) (L := L) (f := f) (ci := 3) (v := .int k_l) (C := RX3) (T := TX3) (N := 2) (host := "JugglingHall") hx hb hts (by decide +kernel) hown hK.1 hP m_k f_k rfl 1 (by decide) (hK.nw (.fieldLinkNest RX2 18 "JugglingHall$Marks" "count" "I" "JugglingHall") (by decide +kernel) rfl) (fun _ h9 => h9) rfl dX2_fill_38 ?_
          refine lv_ishl hx hb dX2_fill_41 ?_
          refine lv_topi (fun z_9 q_9 => ?_)
          have e9 : 1 ≤ z_9.toInt ∧ z_9.toInt ≤ 128 := by rw [q_9]; exact shl7 (by omega)
          refine lv_iconst (v := 1) hx hb dX2_fill_42 (by decide) ?_
          refine a_isub (u := z_9.toInt) (v := 1) hx hb dX2_fill_43 (rfl) (by decide) (by omega) (fun z_10 e_10 => ?_)
          refine lv_istore (lv' := [(4, .int z_10), (3, .int z_8), (0, .ref (g 18)), (1, .ref k), (2, .int x)]) hx hb dX2_fill_44 hl (by decide) rfl (fun ls hl => ?_)
          refine lv_aload_n hx hb dX2_fill_46 rfl (lv_at hl 2 rfl) ?_
          have fg_11 := op_18 hI (gm_18 hG) (gs_18 hG)
          refine t_get (D := D) (L := L) (f := f) (ci := 2) (v := .ref (g 46)) (C := RX2) (T := TX2) (N := 2) hx hb hts (by decide +kernel) hown hK.1 hP (gm_18 hG) fg_11 rfl 0 (by decide) (hts (.fieldLink RX2 11 "JugglingHall$Filling" "counts" "[I") (by decide +kernel)) (fun _ h9 => h9) rfl dX2_fill_47 ?_
          refine lv_iconst (v := 0) hx hb dX2_fill_50 (by decide) ?_
          refine lv_iload hx hb dX2_fill_51 (lv_at hl 0 rfl) ?_
          refine lv_iconst (v := 1) hx hb dX2_fill_53 (by decide) ?_
          refine a_iadd (u := (z_9.toInt - 1)) (v := 1) hx hb dX2_fill_54 (e_10) (by decide) (by omega) (fun z_12 e_12 => ?_)
          refine lv_bipush (v := 64) hx hb dX2_fill_55 (by decide) ?_
          refine a_imul (u := ((z_9.toInt - 1) + 1)) (v := 64) hx hb dX2_fill_57 (e_12) (by decide) (by omega) (fun z_13 e_13 => ?_)
          refine lv_iconst (v := 0) hx hb dX2_fill_58 (by decide) ?_
          have hz_14 : (0 : Int32).toInt = 0 := by decide
          have hz_15 : (0 : Int32).toInt = 0 := by decide
          refine call_p (va_runS (As := [.ref (g 46), .int 0, .int z_13, .int 0]) (rest := []) ⟨hx, hb, hml, hown, hts⟩ (t_J7_fill_fda19 l D cI cR cM _  hj hG hI  (by first | assumption | omega)) (va_cwS 4 hts gX2_fill_J7_fill_fda19 rfl rfl rfl (by decide +kernel) ⟨Nat.le_of_ble_eq_true rfl, Nat.le_of_ble_eq_true rfl⟩) (pre_S hK hP hD) rfl rfl hl.1 rfl (lv_room (Nat.le_of_ble_eq_true rfl)) dX2_fill_59 ⟨Nat.le_of_ble_eq_true rfl, Nat.le_of_ble_eq_true rfl⟩) hD hS hA (fun u_16 H locs hw hP hD hS => ?_)
          obtain ⟨f_16, e0_16⟩ : ∃ x, x = u_16 := ⟨_, rfl⟩
          subst e0_16
          obtain ⟨hI, hF_16⟩ : IN jn cI cR cM g L S f_16 ∧ FR S [46] f f_16 := hw
          have hP : va_P D vwCl (va_pl L f_16) H := hP
          have hD : va_D A (va_pl L f_16) := hD
          have hF := FR_tr hF hF_16 (by decide)
          have fb_17 : f_16 k = .inr (3, [.ref k_p, .int k_l]) := FR_at hF_16 s_k (show (2 : Nat) ∉ ([46] : List Nat) by decide) f_k
          have fb_18 : f_16 k_p = .inl (cI, 7, .inl k_c) := FR_at hF_16 s_k_p (show (3 : Nat) ∉ ([46] : List Nat) by decide) f_k_p
          have fb_19 : f_16 (g 18) = .inr (2, [.ref (g 46), .ref (g 47)]) := FR_at hF_16 (gs_18 hG) (show (18 : Nat) ∉ ([46] : List Nat) by decide) fg_11
          refine lv_aload_n hx hb dX2_fill_62 rfl (lv_at hl 2 rfl) ?_
          refine t_get (D := D) (L := L) (f := f_16) (ci := 2) (v := .ref (g 46)) (C := RX2) (T := TX2) (N := 2) hx hb hts (by decide +kernel) hown hK.1 hP (gm_18 hG) fb_19 rfl 0 (by decide) (hts (.fieldLink RX2 11 "JugglingHall$Filling" "counts" "[I") (by decide +kernel)) (fun _ h9 => h9) rfl dX2_fill_63 ?_
          refine lv_iload hx hb dX2_fill_66 (lv_at hl 0 rfl) ?_
          refine lv_bipush (v := 64) hx hb dX2_fill_68 (by decide) ?_
          refine a_imul (u := (z_9.toInt - 1)) (v := 64) hx hb dX2_fill_70 (e_10) (by decide) (by omega) (fun z_20 e_20 => ?_)
          refine lv_iconst (v := 1) hx hb dX2_fill_71 (by decide) ?_
          obtain ⟨c_21, fg_21⟩ := op_46 hI (gm_46 hG) (gs_46 hG)
          have hz_23 : (1 : Int32).toInt = 1 := by decide
          refine t_iast (L := L) (f := f_16) (h := c_21) (u := ((z_9.toInt - 1) * 64)) hx hb hK.1 hP hD hS (gm_46 hG) 0 fg_21 rfl dX2_fill_72 (e_20) (by omega) (fun g_22 f_22 H locs eg_22 e9_22 o_22 hP hD hS => ?_)
          have fa_22 : f_22 (g 46) = .inl (cI, 8192, .inl g_22) := e9_22
          have hI := IN_set (e := .inl (cI, 8192, .inl g_22)) hI (gs_46 hG) (mk_46) fa_22 o_22
          have hF := FR_set hF (gs_46 hG) (show (46 : Nat) ∈ ([46, 47] : List Nat) by decide) o_22
          have fb_24 : f_22 k = .inr (3, [.ref k_p, .int k_l]) := f_at o_22 (S_ne s_k (gs_46 hG) (show (2 : Nat) ≠ 46 by decide)) fb_17
          have fb_25 : f_22 k_p = .inl (cI, 7, .inl k_c) := f_at o_22 (S_ne s_k_p (gs_46 hG) (show (3 : Nat) ≠ 46 by decide)) fb_18
          have fb_26 : f_22 (g 18) = .inr (2, [.ref (g 46), .ref (g 47)]) := f_at o_22 (S_ne (gs_18 hG) (gs_46 hG) (show (18 : Nat) ≠ 46 by decide)) fb_19
          refine lv_iload hx hb dX2_fill_73 (lv_at hl 0 rfl) ?_
          refine lv_iconst (v := 1) hx hb dX2_fill_75 (by decide) ?_
          refine a_isub (u := (z_9.toInt - 1)) (v := 1) hx hb dX2_fill_76 (e_10) (by decide) (by omega) (fun z_27 e_27 => ?_)
          refine lv_istore (lv' := [(5, .int z_27), (4, .int z_10), (3, .int z_8), (0, .ref (g 18)), (1, .ref k), (2, .int x)]) hx hb dX2_fill_77 hl (by decide) rfl (fun ls hl => ?_)
          have loop79 : ∀ (ddloop79 : Nat) (la : Int32) (f_28 : Nat → va_E) (H : Heap) (locs : List Loc) (ls : Array Slot), (la.toInt + 2).toNat < ddloop79 → IN jn cI cR cM g L S f_28 → FR S [46, 47] f f_28 → (-1 ≤ la.toInt ∧ la.toInt ≤ 126) → va_P D vwCl (va_pl L f_28) H → va_D A (va_pl L f_28) → va_S A s.heap H locs → lv_has ls 6 [(0, .ref (g 18)), (1, .ref k), (2, .int x), (3, .int z_8), (4, .int z_10), (5, .int la)] → W p l e ({ frames := 3, cells := 0, slots := 0, locals := 76 }) s m args below meth c H locs 0 0 Q (F0 m 79 ls []) := by
            intro ddloop79
            induction ddloop79 with
            | zero =>
              intro la f_28 H locs ls hdd
              exact absurd hdd (Nat.not_lt_zero _)
            | succ ddloop79 ih79 =>
              intro la f_28 H locs ls hdd hI hF hi hP hD hS hl
              have fb_29 : f_28 k = .inr (3, [.ref k_p, .int k_l]) := FR_at hF s_k (show (2 : Nat) ∉ ([46, 47] : List Nat) by decide) f_k
              have fb_30 : f_28 k_p = .inl (cI, 7, .inl k_c) := FR_at hF s_k_p (show (3 : Nat) ∉ ([46, 47] : List Nat) by decide) f_k_p
              refine lv_iload hx hb dX2_fill_79 (lv_at hl 5 rfl) ?_
              refine a_if_lt (u := la.toInt) (tgt := 98) hx hb dX2_fill_81 (by decide) (rfl) (fun c_31 => ?_) (fun c_31 => ?_)
              · refine lv_aload_n hx hb dX2_fill_98 rfl (lv_at hl 0 rfl) ?_
                have fg_32 := op_18 hI (gm_18 hG) (gs_18 hG)
                refine t_get (D := D) (L := L) (f := f_28) (ci := 2) (v := .ref (g 46)) (C := RX2) (T := TX2) (N := 2) hx hb hts (by decide +kernel) hown hK.1 hP (gm_18 hG) fg_32 rfl 0 (by decide) (hts (.fieldLink RX2 11 "JugglingHall$Filling" "counts" "[I") (by decide +kernel)) (fun _ h9 => h9) rfl dX2_fill_99 ?_
                refine lv_iload_n hx hb dX2_fill_102 rfl (lv_at hl 3 rfl) ?_
                obtain ⟨c_33, fg_33⟩ := op_46 hI (gm_46 hG) (gs_46 hG)
                refine t_iald (L := L) (f := f_28) (y := c_33) (u := (x.toInt * k_l.toInt)) hx hb hK.1 hP (gm_46 hG) 0 fg_33 rfl dX2_fill_103 (e_8) (by omega) (fun z_34 q_34 e_34 => ?_)
                refine a_if_le (u := z_34.toInt) (tgt := 113) hx hb dX2_fill_104 (by decide) (rfl) (fun c_35 => ?_) (fun c_35 => ?_)
                · refine lv_aload_n hx hb dX2_fill_113 rfl (lv_at hl 0 rfl) ?_
                  refine t_get (D := D) (L := L) (f := f_28) (ci := 2) (v := .ref (g 46)) (C := RX2) (T := TX2) (N := 2) hx hb hts (by decide +kernel) hown hK.1 hP (gm_18 hG) fg_32 rfl 0 (by decide) (hts (.fieldLink RX2 11 "JugglingHall$Filling" "counts" "[I") (by decide +kernel)) (fun _ h9 => h9) rfl dX2_fill_114 ?_
                  refine lv_iload_n hx hb dX2_fill_117 rfl (lv_at hl 3 rfl) ?_
                  refine t_iald (L := L) (f := f_28) (y := c_33) (u := (x.toInt * k_l.toInt)) hx hb hK.1 hP (gm_46 hG) 0 fg_33 rfl dX2_fill_118 (e_8) (by omega) (fun z_36 q_36 e_36 => ?_)
                  exact g_iret (z_36, f_28) hx hb hr hlocks hS rfl (⟨hI, hF⟩) hP hD hQ (Nat.le_of_ble_eq_true rfl) (Nat.le_of_ble_eq_true rfl) dX2_fill_119
                · refine lv_aload_n hx hb dX2_fill_107 rfl (lv_at hl 0 rfl) ?_
                  refine lv_aload_n hx hb dX2_fill_108 rfl (lv_at hl 1 rfl) ?_
                  refine lv_iload_n hx hb dX2_fill_109 rfl (lv_at hl 3 rfl) ?_
                  refine call_p (va_runV (As := [.ref k, .int z_8]) (rest := []) ⟨hx, hb, hml, hown, hts⟩ (t_X2_choose l D cI cR cM _  hj hG hI m_k s_k fb_29 fb_30 (by first | assumption | omega) (by first | assumption | omega)) (cwV 2 hts gX2_fill_X2_choose rfl rfl rfl (by decide +kernel) ⟨Nat.le_of_ble_eq_true rfl, Nat.le_of_ble_eq_true rfl⟩) (pre_T hK hP hD (gm_18 hG) fg_32 rfl) rfl rfl hl.1 rfl (lv_room (Nat.le_of_ble_eq_true rfl)) dX2_fill_110 ⟨Nat.le_of_ble_eq_true rfl, Nat.le_of_ble_eq_true rfl⟩) hD hS hA (fun u_37 H locs hw hP hD hS => ?_)
                  obtain ⟨f_37, e0_37⟩ : ∃ x, x = u_37 := ⟨_, rfl⟩
                  subst e0_37
                  obtain ⟨hI, hF_37⟩ : IN jn cI cR cM g L S f_37 ∧ FR S [47] f_28 f_37 := hw
                  have hP : va_P D vwCl (va_pl L f_37) H := hP
                  have hD : va_D A (va_pl L f_37) := hD
                  have hF := FR_tr hF hF_37 (by decide)
                  have fb_38 : f_37 k = .inr (3, [.ref k_p, .int k_l]) := FR_at hF_37 s_k (show (2 : Nat) ∉ ([47] : List Nat) by decide) fb_29
                  have fb_39 : f_37 k_p = .inl (cI, 7, .inl k_c) := FR_at hF_37 s_k_p (show (3 : Nat) ∉ ([47] : List Nat) by decide) fb_30
                  have fb_40 : f_37 (g 18) = .inr (2, [.ref (g 46), .ref (g 47)]) := FR_at hF_37 (gs_18 hG) (show (18 : Nat) ∉ ([47] : List Nat) by decide) fg_32
                  have fb_41 : f_37 (g 46) = .inl (cI, 8192, .inl c_33) := FR_at hF_37 (gs_46 hG) (show (46 : Nat) ∉ ([47] : List Nat) by decide) fg_33
                  refine lv_aload_n hx hb dX2_fill_113 rfl (lv_at hl 0 rfl) ?_
                  refine t_get (D := D) (L := L) (f := f_37) (ci := 2) (v := .ref (g 46)) (C := RX2) (T := TX2) (N := 2) hx hb hts (by decide +kernel) hown hK.1 hP (gm_18 hG) fb_40 rfl 0 (by decide) (hts (.fieldLink RX2 11 "JugglingHall$Filling" "counts" "[I") (by decide +kernel)) (fun _ h9 => h9) rfl dX2_fill_114 ?_
                  refine lv_iload_n hx hb dX2_fill_117 rfl (lv_at hl 3 rfl) ?_
                  refine t_iald (L := L) (f := f_37) (y := c_33) (u := (x.toInt * k_l.toInt)) hx hb hK.1 hP (gm_46 hG) 0 fb_41 rfl dX2_fill_118 (e_8) (by omega) (fun z_42 q_42 e_42 => ?_)
                  exact g_iret (z_42, f_37) hx hb hr hlocks hS rfl (⟨hI, hF⟩) hP hD hQ (Nat.le_of_ble_eq_true rfl) (Nat.le_of_ble_eq_true rfl) dX2_fill_119
              · refine lv_aload_n hx hb dX2_fill_84 rfl (lv_at hl 0 rfl) ?_
                refine lv_aload_n hx hb dX2_fill_85 rfl (lv_at hl 1 rfl) ?_
                refine lv_iload hx hb dX2_fill_86 (lv_at hl 5 rfl) ?_
                refine lv_iload_n hx hb dX2_fill_88 rfl (lv_at hl 3 rfl) ?_
                have fg_43 := op_18 hI (gm_18 hG) (gs_18 hG)
                refine call_p (va_runV (As := [.ref k, .int la, .int z_8]) (rest := []) ⟨hx, hb, hml, hown, hts⟩ (t_X2_countFrom l D cI cR cM _  hj hG hI m_k s_k fb_29 fb_30 (by first | assumption | omega) (by first | assumption | omega) (by first | assumption | omega)) (cwV 3 hts gX2_fill_X2_countFrom rfl rfl rfl (by decide +kernel) ⟨Nat.le_of_ble_eq_true rfl, Nat.le_of_ble_eq_true rfl⟩) (pre_T hK hP hD (gm_18 hG) fg_43 rfl) rfl rfl hl.1 rfl (lv_room (Nat.le_of_ble_eq_true rfl)) dX2_fill_89 ⟨Nat.le_of_ble_eq_true rfl, Nat.le_of_ble_eq_true rfl⟩) hD hS hA (fun u_44 H locs hw hP hD hS => ?_)
                obtain ⟨f_44, e0_44⟩ : ∃ x, x = u_44 := ⟨_, rfl⟩
                subst e0_44
                obtain ⟨hI, hF_44⟩ : IN jn cI cR cM g L S f_44 ∧ FR S [46] f_28 f_44 := hw
                have hP : va_P D vwCl (va_pl L f_44) H := hP
                have hD : va_D A (va_pl L f_44) := hD
                have hF := FR_tr hF hF_44 (by decide)
                have fb_45 : f_44 k = .inr (3, [.ref k_p, .int k_l]) := FR_at hF_44 s_k (show (2 : Nat) ∉ ([46] : List Nat) by decide) fb_29
                have fb_46 : f_44 k_p = .inl (cI, 7, .inl k_c) := FR_at hF_44 s_k_p (show (3 : Nat) ∉ ([46] : List Nat) by decide) fb_30
                have fb_47 : f_44 (g 18) = .inr (2, [.ref (g 46), .ref (g 47)]) := FR_at hF_44 (gs_18 hG) (show (18 : Nat) ∉ ([46] : List Nat) by decide) fg_43
                obtain ⟨z_48, q_48, e_48⟩ := i_inc (a := la.toInt) (-1) (rfl) (by decide) (by omega) (by omega)
                refine lv_iinc (v := z_48) (lv' := [(5, .int z_48), (0, .ref (g 18)), (1, .ref k), (2, .int x), (3, .int z_8), (4, .int z_10)]) hx hb dX2_fill_92 hl (k := 5) rfl q_48 (by decide) rfl (fun ls hl => ?_)
                refine lv_goto (tgt := 79) hx hb dX2_fill_95 (by decide) ?_
                exact ih79 z_48 f_44 _ _ _ (by omega) hI hF (by first | assumption | omega) hP hD hS (lv_sub hl [1, 2, 3, 4, 5, 0] rfl)
          exact loop79 ((z_27.toInt + 2).toNat + 1) z_27 f_22 _ _ _ (by omega) hI hF (by first | assumption | omega) hP hD hS (lv_sub hl [3, 4, 5, 2, 1, 0] rfl)
        · refine lv_iconst (v := 0) hx hb dX2_fill_27 (by decide) ?_
          have hz_49 : (0 : Int32).toInt = 0 := by decide
          exact g_iret ((0 : Int32), f) hx hb hr hlocks hS rfl (⟨hI, hF⟩) hP hD hQ (Nat.le_of_ble_eq_true rfl) (Nat.le_of_ble_eq_true rfl) dX2_fill_28
