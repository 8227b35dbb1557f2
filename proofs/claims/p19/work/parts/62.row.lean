theorem p_one {D : va_G} {cl : List vw_C} {L : List Nat} {f : Nat → va_E} {H : Heap} {a : Nat} {e : va_E} (hP : va_P D cl (va_pl L f) H) (hm : a ∈ L) (hf : f a = e) : va_P D cl [(a, e)] H := by
  obtain ⟨q0, e0⟩ := pl_at (f := f) hm
  rw [hf] at e0
  intro k q hq
  have hk : k < 1 := (List.getElem?_eq_some_iff.mp hq).1
  rw [show k = 0 by omega] at hq
  cases hq
  exact hP q0 _ e0
theorem d_one (a : Nat) (e : va_E) : va_D (fun _ => True) [(a, e)] := by
  refine ⟨fun i j p q hi hj _ => ?_, fun _ _ _ => trivial⟩
  have h1 : i < 1 := (List.getElem?_eq_some_iff.mp hi).1
  have h2 : j < 1 := (List.getElem?_eq_some_iff.mp hj).1
  omega
theorem dX5_cellCount_0 : decode cX5_cellCount 0 = .ok (.aload_n 0, 1) := by decide +kernel
theorem dX5_cellCount_1 : decode cX5_cellCount 1 = .ok (.getfield 28, 3) := by decide +kernel
theorem dX5_cellCount_4 : decode cX5_cellCount 4 = .ok (.aload_n 0, 1) := by decide +kernel
theorem dX5_cellCount_5 : decode cX5_cellCount 5 = .ok (.getfield 21, 3) := by decide +kernel
theorem dX5_cellCount_8 : decode cX5_cellCount 8 = .ok (.imul, 1) := by decide +kernel
theorem dX5_cellCount_9 : decode cX5_cellCount 9 = .ok (.ireturn, 1) := by decide +kernel
theorem dX5_cellAt_0 : decode cX5_cellAt 0 = .ok (.iload_n 1, 1) := by decide +kernel
theorem dX5_cellAt_1 : decode cX5_cellAt 1 = .ok (.ifCond .lt 32, 3) := by decide +kernel
theorem dX5_cellAt_4 : decode cX5_cellAt 4 = .ok (.iload_n 1, 1) := by decide +kernel
theorem dX5_cellAt_5 : decode cX5_cellAt 5 = .ok (.aload_n 0, 1) := by decide +kernel
theorem dX5_cellAt_6 : decode cX5_cellAt 6 = .ok (.getfield 28, 3) := by decide +kernel
theorem dX5_cellAt_9 : decode cX5_cellAt 9 = .ok (.if_icmp .ge 24, 3) := by decide +kernel
theorem dX5_cellAt_12 : decode cX5_cellAt 12 = .ok (.iload_n 2, 1) := by decide +kernel
theorem dX5_cellAt_13 : decode cX5_cellAt 13 = .ok (.ifCond .lt 20, 3) := by decide +kernel
theorem dX5_cellAt_16 : decode cX5_cellAt 16 = .ok (.iload_n 2, 1) := by decide +kernel
theorem dX5_cellAt_17 : decode cX5_cellAt 17 = .ok (.aload_n 0, 1) := by decide +kernel
theorem dX5_cellAt_18 : decode cX5_cellAt 18 = .ok (.getfield 15, 3) := by decide +kernel
theorem dX5_cellAt_21 : decode cX5_cellAt 21 = .ok (.if_icmp .ge 12, 3) := by decide +kernel
theorem dX5_cellAt_24 : decode cX5_cellAt 24 = .ok (.iload_n 3, 1) := by decide +kernel
theorem dX5_cellAt_25 : decode cX5_cellAt 25 = .ok (.ifCond .lt 8, 3) := by decide +kernel
theorem dX5_cellAt_28 : decode cX5_cellAt 28 = .ok (.iload_n 3, 1) := by decide +kernel
theorem dX5_cellAt_29 : decode cX5_cellAt 29 = .ok (.iconst 2, 1) := by decide +kernel
theorem dX5_cellAt_30 : decode cX5_cellAt 30 = .ok (.if_icmp .lt 5, 3) := by decide +kernel
theorem dX5_cellAt_33 : decode cX5_cellAt 33 = .ok (.iconst (-1), 1) := by decide +kernel
theorem dX5_cellAt_34 : decode cX5_cellAt 34 = .ok (.ireturn, 1) := by decide +kernel
theorem dX5_cellAt_35 : decode cX5_cellAt 35 = .ok (.iload_n 1, 1) := by decide +kernel
theorem dX5_cellAt_36 : decode cX5_cellAt 36 = .ok (.aload_n 0, 1) := by decide +kernel
theorem dX5_cellAt_37 : decode cX5_cellAt 37 = .ok (.getfield 21, 3) := by decide +kernel
theorem dX5_cellAt_40 : decode cX5_cellAt 40 = .ok (.imul, 1) := by decide +kernel
theorem dX5_cellAt_41 : decode cX5_cellAt 41 = .ok (.iload_n 2, 1) := by decide +kernel
theorem dX5_cellAt_42 : decode cX5_cellAt 42 = .ok (.iconst 2, 1) := by decide +kernel
theorem dX5_cellAt_43 : decode cX5_cellAt 43 = .ok (.imul, 1) := by decide +kernel
theorem dX5_cellAt_44 : decode cX5_cellAt 44 = .ok (.iadd, 1) := by decide +kernel
theorem dX5_cellAt_45 : decode cX5_cellAt 45 = .ok (.iload_n 3, 1) := by decide +kernel
theorem dX5_cellAt_46 : decode cX5_cellAt 46 = .ok (.iadd, 1) := by decide +kernel
theorem dX5_cellAt_47 : decode cX5_cellAt 47 = .ok (.ireturn, 1) := by decide +kernel
theorem dX5_code_0 : decode cX5_code 0 = .ok (.iload_n 1, 1) := by decide +kernel
theorem dX5_code_1 : decode cX5_code 1 = .ok (.ifCond .lt 12, 3) := by decide +kernel
theorem dX5_code_4 : decode cX5_code 4 = .ok (.iload_n 1, 1) := by decide +kernel
theorem dX5_code_5 : decode cX5_code 5 = .ok (.aload_n 0, 1) := by decide +kernel
theorem dX5_code_6 : decode cX5_code 6 = .ok (.getfield 24, 3) := by decide +kernel
theorem dX5_code_9 : decode cX5_code 9 = .ok (.arraylength, 1) := by decide +kernel
theorem dX5_code_10 : decode cX5_code 10 = .ok (.if_icmp .lt 7, 3) := by decide +kernel
theorem dX5_code_13 : decode cX5_code 13 = .ok (.iconst 0, 1) := by decide +kernel
theorem dX5_code_14 : decode cX5_code 14 = .ok (.goto 9, 3) := by decide +kernel
theorem dX5_code_17 : decode cX5_code 17 = .ok (.aload_n 0, 1) := by decide +kernel
theorem dX5_code_18 : decode cX5_code 18 = .ok (.getfield 24, 3) := by decide +kernel
theorem dX5_code_21 : decode cX5_code 21 = .ok (.iload_n 1, 1) := by decide +kernel
theorem dX5_code_22 : decode cX5_code 22 = .ok (.iaload, 1) := by decide +kernel
theorem dX5_code_23 : decode cX5_code 23 = .ok (.ireturn, 1) := by decide +kernel
theorem dX5_isThrow_0 : decode cX5_isThrow 0 = .ok (.iload_n 1, 1) := by decide +kernel
theorem dX5_isThrow_1 : decode cX5_isThrow 1 = .ok (.ifCond .lt 25, 3) := by decide +kernel
theorem dX5_isThrow_4 : decode cX5_isThrow 4 = .ok (.iload_n 1, 1) := by decide +kernel
theorem dX5_isThrow_5 : decode cX5_isThrow 5 = .ok (.aload_n 0, 1) := by decide +kernel
theorem dX5_isThrow_6 : decode cX5_isThrow 6 = .ok (.getfield 24, 3) := by decide +kernel
theorem dX5_isThrow_9 : decode cX5_isThrow 9 = .ok (.arraylength, 1) := by decide +kernel
theorem dX5_isThrow_10 : decode cX5_isThrow 10 = .ok (.if_icmp .ge 16, 3) := by decide +kernel
theorem dX5_isThrow_13 : decode cX5_isThrow 13 = .ok (.aload_n 0, 1) := by decide +kernel
theorem dX5_isThrow_14 : decode cX5_isThrow 14 = .ok (.getfield 24, 3) := by decide +kernel
theorem dX5_isThrow_17 : decode cX5_isThrow 17 = .ok (.iload_n 1, 1) := by decide +kernel
theorem dX5_isThrow_18 : decode cX5_isThrow 18 = .ok (.iaload, 1) := by decide +kernel
theorem dX5_isThrow_19 : decode cX5_isThrow 19 = .ok (.ifCond .eq 7, 3) := by decide +kernel
theorem dX5_isThrow_22 : decode cX5_isThrow 22 = .ok (.iconst 1, 1) := by decide +kernel
theorem dX5_isThrow_23 : decode cX5_isThrow 23 = .ok (.goto 4, 3) := by decide +kernel
theorem dX5_isThrow_26 : decode cX5_isThrow 26 = .ok (.iconst 0, 1) := by decide +kernel
theorem dX5_isThrow_27 : decode cX5_isThrow 27 = .ok (.ireturn, 1) := by decide +kernel
theorem dX5_height_0 : decode cX5_height 0 = .ok (.iload_n 1, 1) := by decide +kernel
theorem dX5_height_1 : decode cX5_height 1 = .ok (.ifCond .lt 12, 3) := by decide +kernel
theorem dX5_height_4 : decode cX5_height 4 = .ok (.iload_n 1, 1) := by decide +kernel
theorem dX5_height_5 : decode cX5_height 5 = .ok (.aload_n 0, 1) := by decide +kernel
theorem dX5_height_6 : decode cX5_height 6 = .ok (.getfield 24, 3) := by decide +kernel
theorem dX5_height_9 : decode cX5_height 9 = .ok (.arraylength, 1) := by decide +kernel
theorem dX5_height_10 : decode cX5_height 10 = .ok (.if_icmp .lt 7, 3) := by decide +kernel
theorem dX5_height_13 : decode cX5_height 13 = .ok (.iconst 0, 1) := by decide +kernel
theorem dX5_height_14 : decode cX5_height 14 = .ok (.goto 11, 3) := by decide +kernel
theorem dX5_height_17 : decode cX5_height 17 = .ok (.aload_n 0, 1) := by decide +kernel
theorem dX5_height_18 : decode cX5_height 18 = .ok (.getfield 24, 3) := by decide +kernel
theorem dX5_height_21 : decode cX5_height 21 = .ok (.iload_n 1, 1) := by decide +kernel
theorem dX5_height_22 : decode cX5_height 22 = .ok (.iaload, 1) := by decide +kernel
theorem dX5_height_23 : decode cX5_height 23 = .ok (.iconst 2, 1) := by decide +kernel
theorem dX5_height_24 : decode cX5_height 24 = .ok (.ishr, 1) := by decide +kernel
theorem dX5_height_25 : decode cX5_height 25 = .ok (.ireturn, 1) := by decide +kernel
theorem dX5_target_0 : decode cX5_target 0 = .ok (.iload_n 1, 1) := by decide +kernel
theorem dX5_target_1 : decode cX5_target 1 = .ok (.ifCond .lt 12, 3) := by decide +kernel
theorem dX5_target_4 : decode cX5_target 4 = .ok (.iload_n 1, 1) := by decide +kernel
theorem dX5_target_5 : decode cX5_target 5 = .ok (.aload_n 0, 1) := by decide +kernel
theorem dX5_target_6 : decode cX5_target 6 = .ok (.getfield 24, 3) := by decide +kernel
theorem dX5_target_9 : decode cX5_target 9 = .ok (.arraylength, 1) := by decide +kernel
theorem dX5_target_10 : decode cX5_target 10 = .ok (.if_icmp .lt 7, 3) := by decide +kernel
theorem dX5_target_13 : decode cX5_target 13 = .ok (.iconst 0, 1) := by decide +kernel
theorem dX5_target_14 : decode cX5_target 14 = .ok (.goto 13, 3) := by decide +kernel
theorem dX5_target_17 : decode cX5_target 17 = .ok (.iconst 3, 1) := by decide +kernel
theorem dX5_target_18 : decode cX5_target 18 = .ok (.aload_n 0, 1) := by decide +kernel
theorem dX5_target_19 : decode cX5_target 19 = .ok (.getfield 24, 3) := by decide +kernel
theorem dX5_target_22 : decode cX5_target 22 = .ok (.iload_n 1, 1) := by decide +kernel
theorem dX5_target_23 : decode cX5_target 23 = .ok (.iaload, 1) := by decide +kernel
theorem dX5_target_24 : decode cX5_target 24 = .ok (.iconst 3, 1) := by decide +kernel
theorem dX5_target_25 : decode cX5_target 25 = .ok (.iand, 1) := by decide +kernel
theorem dX5_target_26 : decode cX5_target 26 = .ok (.isub, 1) := by decide +kernel
theorem dX5_target_27 : decode cX5_target 27 = .ok (.ireturn, 1) := by decide +kernel
theorem dX5_beatOf_0 : decode cX5_beatOf 0 = .ok (.iload_n 1, 1) := by decide +kernel
theorem dX5_beatOf_1 : decode cX5_beatOf 1 = .ok (.aload_n 0, 1) := by decide +kernel
theorem dX5_beatOf_2 : decode cX5_beatOf 2 = .ok (.getfield 21, 3) := by decide +kernel
theorem dX5_beatOf_5 : decode cX5_beatOf 5 = .ok (.idiv, 1) := by decide +kernel
theorem dX5_beatOf_6 : decode cX5_beatOf 6 = .ok (.ireturn, 1) := by decide +kernel
theorem dX5_jugglerOf_0 : decode cX5_jugglerOf 0 = .ok (.iload_n 1, 1) := by decide +kernel
theorem dX5_jugglerOf_1 : decode cX5_jugglerOf 1 = .ok (.aload_n 0, 1) := by decide +kernel
theorem dX5_jugglerOf_2 : decode cX5_jugglerOf 2 = .ok (.getfield 21, 3) := by decide +kernel
theorem dX5_jugglerOf_5 : decode cX5_jugglerOf 5 = .ok (.irem, 1) := by decide +kernel
theorem dX5_jugglerOf_6 : decode cX5_jugglerOf 6 = .ok (.iconst 2, 1) := by decide +kernel
theorem dX5_jugglerOf_7 : decode cX5_jugglerOf 7 = .ok (.idiv, 1) := by decide +kernel
theorem dX5_jugglerOf_8 : decode cX5_jugglerOf 8 = .ok (.ireturn, 1) := by decide +kernel
theorem dX5_numberOf_0 : decode cX5_numberOf 0 = .ok (.iload_n 1, 1) := by decide +kernel
theorem dX5_numberOf_1 : decode cX5_numberOf 1 = .ok (.iconst 2, 1) := by decide +kernel
theorem dX5_numberOf_2 : decode cX5_numberOf 2 = .ok (.irem, 1) := by decide +kernel
theorem dX5_numberOf_3 : decode cX5_numberOf 3 = .ok (.ireturn, 1) := by decide +kernel
theorem dX5_beatInRound_0 : decode cX5_beatInRound 0 = .ok (.aload_n 0, 1) := by decide +kernel
theorem dX5_beatInRound_1 : decode cX5_beatInRound 1 = .ok (.getfield 28, 3) := by decide +kernel
theorem dX5_beatInRound_4 : decode cX5_beatInRound 4 = .ok (.iconst 1, 1) := by decide +kernel
theorem dX5_beatInRound_5 : decode cX5_beatInRound 5 = .ok (.if_icmp .ge 7, 3) := by decide +kernel
theorem dX5_beatInRound_8 : decode cX5_beatInRound 8 = .ok (.iconst 0, 1) := by decide +kernel
theorem dX5_beatInRound_9 : decode cX5_beatInRound 9 = .ok (.goto 11, 3) := by decide +kernel
theorem dX5_beatInRound_12 : decode cX5_beatInRound 12 = .ok (.iload_n 1, 1) := by decide +kernel
theorem dX5_beatInRound_13 : decode cX5_beatInRound 13 = .ok (.aload_n 0, 1) := by decide +kernel
theorem dX5_beatInRound_14 : decode cX5_beatInRound 14 = .ok (.getfield 28, 3) := by decide +kernel
theorem dX5_beatInRound_17 : decode cX5_beatInRound 17 = .ok (.invokestatic 31, 3) := by decide +kernel
theorem dX5_beatInRound_20 : decode cX5_beatInRound 20 = .ok (.ireturn, 1) := by decide +kernel
theorem dX5_perRound_0 : decode cX5_perRound 0 = .ok (.aload_n 0, 1) := by decide +kernel
theorem dX5_perRound_1 : decode cX5_perRound 1 = .ok (.getfield 28, 3) := by decide +kernel
theorem dX5_perRound_4 : decode cX5_perRound 4 = .ok (.iconst 1, 1) := by decide +kernel
theorem dX5_perRound_5 : decode cX5_perRound 5 = .ok (.if_icmp .ge 7, 3) := by decide +kernel
theorem dX5_perRound_8 : decode cX5_perRound 8 = .ok (.iconst 0, 1) := by decide +kernel
theorem dX5_perRound_9 : decode cX5_perRound 9 = .ok (.goto 9, 3) := by decide +kernel
theorem dX5_perRound_12 : decode cX5_perRound 12 = .ok (.iload_n 1, 1) := by decide +kernel
theorem dX5_perRound_13 : decode cX5_perRound 13 = .ok (.aload_n 0, 1) := by decide +kernel
theorem dX5_perRound_14 : decode cX5_perRound 14 = .ok (.getfield 28, 3) := by decide +kernel
theorem dX5_perRound_17 : decode cX5_perRound 17 = .ok (.idiv, 1) := by decide +kernel
theorem dX5_perRound_18 : decode cX5_perRound 18 = .ok (.ireturn, 1) := by decide +kernel
theorem dX5_landing_0 : decode cX5_landing 0 = .ok (.aload_n 0, 1) := by decide +kernel
theorem dX5_landing_1 : decode cX5_landing 1 = .ok (.aload_n 0, 1) := by decide +kernel
theorem dX5_landing_2 : decode cX5_landing 2 = .ok (.iload_n 1, 1) := by decide +kernel
theorem dX5_landing_3 : decode cX5_landing 3 = .ok (.invokevirtual 34, 3) := by decide +kernel
theorem dX5_landing_6 : decode cX5_landing 6 = .ok (.aload_n 0, 1) := by decide +kernel
theorem dX5_landing_7 : decode cX5_landing 7 = .ok (.iload_n 1, 1) := by decide +kernel
theorem dX5_landing_8 : decode cX5_landing 8 = .ok (.invokevirtual 38, 3) := by decide +kernel
theorem dX5_landing_11 : decode cX5_landing 11 = .ok (.iadd, 1) := by decide +kernel
theorem dX5_landing_12 : decode cX5_landing 12 = .ok (.invokevirtual 41, 3) := by decide +kernel
theorem dX5_landing_15 : decode cX5_landing 15 = .ok (.aload_n 0, 1) := by decide +kernel
theorem dX5_landing_16 : decode cX5_landing 16 = .ok (.getfield 15, 3) := by decide +kernel
theorem dX5_landing_19 : decode cX5_landing 19 = .ok (.imul, 1) := by decide +kernel
theorem dX5_landing_20 : decode cX5_landing 20 = .ok (.aload_n 0, 1) := by decide +kernel
theorem dX5_landing_21 : decode cX5_landing 21 = .ok (.iload_n 1, 1) := by decide +kernel
theorem dX5_landing_22 : decode cX5_landing 22 = .ok (.invokevirtual 44, 3) := by decide +kernel
theorem dX5_landing_25 : decode cX5_landing 25 = .ok (.iadd, 1) := by decide +kernel
theorem dX5_landing_26 : decode cX5_landing 26 = .ok (.ireturn, 1) := by decide +kernel
theorem dX5_balls_0 : decode cX5_balls 0 = .ok (.iconst 0, 1) := by decide +kernel
theorem dX5_balls_1 : decode cX5_balls 1 = .ok (.istore_n 1, 1) := by decide +kernel
theorem dX5_balls_2 : decode cX5_balls 2 = .ok (.iconst 0, 1) := by decide +kernel
theorem dX5_balls_3 : decode cX5_balls 3 = .ok (.istore_n 2, 1) := by decide +kernel
theorem dX5_balls_4 : decode cX5_balls 4 = .ok (.iload_n 2, 1) := by decide +kernel
theorem dX5_balls_5 : decode cX5_balls 5 = .ok (.aload_n 0, 1) := by decide +kernel
theorem dX5_balls_6 : decode cX5_balls 6 = .ok (.invokevirtual 47, 3) := by decide +kernel
theorem dX5_balls_9 : decode cX5_balls 9 = .ok (.if_icmp .ge 17, 3) := by decide +kernel
theorem dX5_balls_12 : decode cX5_balls 12 = .ok (.iload_n 1, 1) := by decide +kernel
theorem dX5_balls_13 : decode cX5_balls 13 = .ok (.aload_n 0, 1) := by decide +kernel
theorem dX5_balls_14 : decode cX5_balls 14 = .ok (.iload_n 2, 1) := by decide +kernel
theorem dX5_balls_15 : decode cX5_balls 15 = .ok (.invokevirtual 38, 3) := by decide +kernel
theorem dX5_balls_18 : decode cX5_balls 18 = .ok (.iadd, 1) := by decide +kernel
theorem dX5_balls_19 : decode cX5_balls 19 = .ok (.istore_n 1, 1) := by decide +kernel
theorem dX5_balls_20 : decode cX5_balls 20 = .ok (.iinc 2 1, 3) := by decide +kernel
theorem dX5_balls_23 : decode cX5_balls 23 = .ok (.goto (-19), 3) := by decide +kernel
theorem dX5_balls_26 : decode cX5_balls 26 = .ok (.aload_n 0, 1) := by decide +kernel
theorem dX5_balls_27 : decode cX5_balls 27 = .ok (.iload_n 1, 1) := by decide +kernel
theorem dX5_balls_28 : decode cX5_balls 28 = .ok (.invokevirtual 51, 3) := by decide +kernel
theorem dX5_balls_31 : decode cX5_balls 31 = .ok (.ireturn, 1) := by decide +kernel
theorem dX5_isPlain_0 : decode cX5_isPlain 0 = .ok (.aload_n 0, 1) := by decide +kernel
theorem dX5_isPlain_1 : decode cX5_isPlain 1 = .ok (.getfield 15, 3) := by decide +kernel
theorem dX5_isPlain_4 : decode cX5_isPlain 4 = .ok (.iconst 1, 1) := by decide +kernel
theorem dX5_isPlain_5 : decode cX5_isPlain 5 = .ok (.if_icmp .eq 5, 3) := by decide +kernel
theorem dX5_isPlain_8 : decode cX5_isPlain 8 = .ok (.iconst 0, 1) := by decide +kernel
theorem dX5_isPlain_9 : decode cX5_isPlain 9 = .ok (.ireturn, 1) := by decide +kernel
theorem dX5_isPlain_10 : decode cX5_isPlain 10 = .ok (.iconst 0, 1) := by decide +kernel
theorem dX5_isPlain_11 : decode cX5_isPlain 11 = .ok (.istore_n 1, 1) := by decide +kernel
theorem dX5_isPlain_12 : decode cX5_isPlain 12 = .ok (.iload_n 1, 1) := by decide +kernel
theorem dX5_isPlain_13 : decode cX5_isPlain 13 = .ok (.aload_n 0, 1) := by decide +kernel
theorem dX5_isPlain_14 : decode cX5_isPlain 14 = .ok (.getfield 28, 3) := by decide +kernel
theorem dX5_isPlain_17 : decode cX5_isPlain 17 = .ok (.if_icmp .ge 27, 3) := by decide +kernel
theorem dX5_isPlain_20 : decode cX5_isPlain 20 = .ok (.aload_n 0, 1) := by decide +kernel
theorem dX5_isPlain_21 : decode cX5_isPlain 21 = .ok (.getfield 24, 3) := by decide +kernel
theorem dX5_isPlain_24 : decode cX5_isPlain 24 = .ok (.iload_n 1, 1) := by decide +kernel
theorem dX5_isPlain_25 : decode cX5_isPlain 25 = .ok (.aload_n 0, 1) := by decide +kernel
theorem dX5_isPlain_26 : decode cX5_isPlain 26 = .ok (.getfield 21, 3) := by decide +kernel
theorem dX5_isPlain_29 : decode cX5_isPlain 29 = .ok (.imul, 1) := by decide +kernel
theorem dX5_isPlain_30 : decode cX5_isPlain 30 = .ok (.iconst 1, 1) := by decide +kernel
theorem dX5_isPlain_31 : decode cX5_isPlain 31 = .ok (.iadd, 1) := by decide +kernel
theorem dX5_isPlain_32 : decode cX5_isPlain 32 = .ok (.iaload, 1) := by decide +kernel
theorem dX5_isPlain_33 : decode cX5_isPlain 33 = .ok (.ifCond .eq 5, 3) := by decide +kernel
theorem dX5_isPlain_36 : decode cX5_isPlain 36 = .ok (.iconst 0, 1) := by decide +kernel
theorem dX5_isPlain_37 : decode cX5_isPlain 37 = .ok (.ireturn, 1) := by decide +kernel
theorem dX5_isPlain_38 : decode cX5_isPlain 38 = .ok (.iinc 1 1, 3) := by decide +kernel
theorem dX5_isPlain_41 : decode cX5_isPlain 41 = .ok (.goto (-29), 3) := by decide +kernel
theorem dX5_isPlain_44 : decode cX5_isPlain 44 = .ok (.iconst 1, 1) := by decide +kernel
theorem dX5_isPlain_45 : decode cX5_isPlain 45 = .ok (.ireturn, 1) := by decide +kernel
theorem dX5_isTurned_0 : decode cX5_isTurned 0 = .ok (.iconst 0, 1) := by decide +kernel
theorem dX5_isTurned_1 : decode cX5_isTurned 1 = .ok (.istore_n 3, 1) := by decide +kernel
theorem dX5_isTurned_2 : decode cX5_isTurned 2 = .ok (.iload_n 3, 1) := by decide +kernel
theorem dX5_isTurned_3 : decode cX5_isTurned 3 = .ok (.aload_n 0, 1) := by decide +kernel
theorem dX5_isTurned_4 : decode cX5_isTurned 4 = .ok (.invokevirtual 47, 3) := by decide +kernel
theorem dX5_isTurned_7 : decode cX5_isTurned 7 = .ok (.if_icmp .ge 50, 3) := by decide +kernel
theorem dX5_isTurned_10 : decode cX5_isTurned 10 = .ok (.aload_n 1, 1) := by decide +kernel
theorem dX5_isTurned_11 : decode cX5_isTurned 11 = .ok (.aload_n 0, 1) := by decide +kernel
theorem dX5_isTurned_12 : decode cX5_isTurned 12 = .ok (.iload_n 3, 1) := by decide +kernel
theorem dX5_isTurned_13 : decode cX5_isTurned 13 = .ok (.invokevirtual 34, 3) := by decide +kernel
theorem dX5_isTurned_16 : decode cX5_isTurned 16 = .ok (.iload_n 2, 1) := by decide +kernel
theorem dX5_isTurned_17 : decode cX5_isTurned 17 = .ok (.iadd, 1) := by decide +kernel
theorem dX5_isTurned_18 : decode cX5_isTurned 18 = .ok (.invokevirtual 41, 3) := by decide +kernel
theorem dX5_isTurned_21 : decode cX5_isTurned 21 = .ok (.aload_n 0, 1) := by decide +kernel
theorem dX5_isTurned_22 : decode cX5_isTurned 22 = .ok (.getfield 21, 3) := by decide +kernel
theorem dX5_isTurned_25 : decode cX5_isTurned 25 = .ok (.imul, 1) := by decide +kernel
theorem dX5_isTurned_26 : decode cX5_isTurned 26 = .ok (.iload_n 3, 1) := by decide +kernel
theorem dX5_isTurned_27 : decode cX5_isTurned 27 = .ok (.aload_n 0, 1) := by decide +kernel
theorem dX5_isTurned_28 : decode cX5_isTurned 28 = .ok (.getfield 21, 3) := by decide +kernel
theorem dX5_isTurned_31 : decode cX5_isTurned 31 = .ok (.irem, 1) := by decide +kernel
theorem dX5_isTurned_32 : decode cX5_isTurned 32 = .ok (.iadd, 1) := by decide +kernel
theorem dX5_isTurned_33 : decode cX5_isTurned 33 = .ok (.istore 4, 2) := by decide +kernel
theorem dX5_isTurned_35 : decode cX5_isTurned 35 = .ok (.aload_n 0, 1) := by decide +kernel
theorem dX5_isTurned_36 : decode cX5_isTurned 36 = .ok (.iload_n 3, 1) := by decide +kernel
theorem dX5_isTurned_37 : decode cX5_isTurned 37 = .ok (.invokevirtual 54, 3) := by decide +kernel
theorem dX5_isTurned_40 : decode cX5_isTurned 40 = .ok (.aload_n 1, 1) := by decide +kernel
theorem dX5_isTurned_41 : decode cX5_isTurned 41 = .ok (.iload 4, 2) := by decide +kernel
theorem dX5_isTurned_43 : decode cX5_isTurned 43 = .ok (.invokevirtual 54, 3) := by decide +kernel
theorem dX5_isTurned_46 : decode cX5_isTurned 46 = .ok (.if_icmp .eq 5, 3) := by decide +kernel
theorem dX5_isTurned_49 : decode cX5_isTurned 49 = .ok (.iconst 0, 1) := by decide +kernel
theorem dX5_isTurned_50 : decode cX5_isTurned 50 = .ok (.ireturn, 1) := by decide +kernel
theorem dX5_isTurned_51 : decode cX5_isTurned 51 = .ok (.iinc 3 1, 3) := by decide +kernel
theorem dX5_isTurned_54 : decode cX5_isTurned 54 = .ok (.goto (-52), 3) := by decide +kernel
theorem dX5_isTurned_57 : decode cX5_isTurned 57 = .ok (.iconst 1, 1) := by decide +kernel
theorem dX5_isTurned_58 : decode cX5_isTurned 58 = .ok (.ireturn, 1) := by decide +kernel
theorem dX5_reset_0 : decode cX5_reset 0 = .ok (.aload_n 0, 1) := by decide +kernel
theorem dX5_reset_1 : decode cX5_reset 1 = .ok (.iconst 0, 1) := by decide +kernel
theorem dX5_reset_2 : decode cX5_reset 2 = .ok (.iload_n 1, 1) := by decide +kernel
theorem dX5_reset_3 : decode cX5_reset 3 = .ok (.aload_n 0, 1) := by decide +kernel
theorem dX5_reset_4 : decode cX5_reset 4 = .ok (.getfield 24, 3) := by decide +kernel
theorem dX5_reset_7 : decode cX5_reset 7 = .ok (.arraylength, 1) := by decide +kernel
theorem dX5_reset_8 : decode cX5_reset 8 = .ok (.aload_n 0, 1) := by decide +kernel
theorem dX5_reset_9 : decode cX5_reset 9 = .ok (.getfield 21, 3) := by decide +kernel
theorem dX5_reset_12 : decode cX5_reset 12 = .ok (.idiv, 1) := by decide +kernel
theorem dX5_reset_13 : decode cX5_reset 13 = .ok (.invokestatic 57, 3) := by decide +kernel
theorem dX5_reset_16 : decode cX5_reset 16 = .ok (.invokestatic 9, 3) := by decide +kernel
theorem dX5_reset_19 : decode cX5_reset 19 = .ok (.putfield 28, 3) := by decide +kernel
theorem dX5_reset_22 : decode cX5_reset 22 = .ok (.aload_n 0, 1) := by decide +kernel
theorem dX5_reset_23 : decode cX5_reset 23 = .ok (.getfield 24, 3) := by decide +kernel
theorem dX5_reset_26 : decode cX5_reset 26 = .ok (.iconst 0, 1) := by decide +kernel
theorem dX5_reset_27 : decode cX5_reset 27 = .ok (.invokestatic 60, 3) := by decide +kernel
theorem dX5_reset_30 : decode cX5_reset 30 = .ok (.return_, 1) := by decide +kernel
theorem dX5_put_0 : decode cX5_put 0 = .ok (.iload_n 3, 1) := by decide +kernel
theorem dX5_put_1 : decode cX5_put 1 = .ok (.ifCond .ne 5, 3) := by decide +kernel
theorem dX5_put_4 : decode cX5_put 4 = .ok (.iconst 1, 1) := by decide +kernel
theorem dX5_put_5 : decode cX5_put 5 = .ok (.ireturn, 1) := by decide +kernel
theorem dX5_put_6 : decode cX5_put 6 = .ok (.iload_n 1, 1) := by decide +kernel
theorem dX5_put_7 : decode cX5_put 7 = .ok (.aload_n 0, 1) := by decide +kernel
theorem dX5_put_8 : decode cX5_put 8 = .ok (.getfield 21, 3) := by decide +kernel
theorem dX5_put_11 : decode cX5_put 11 = .ok (.imul, 1) := by decide +kernel
theorem dX5_put_12 : decode cX5_put 12 = .ok (.iload_n 2, 1) := by decide +kernel
theorem dX5_put_13 : decode cX5_put 13 = .ok (.iconst 2, 1) := by decide +kernel
theorem dX5_put_14 : decode cX5_put 14 = .ok (.imul, 1) := by decide +kernel
theorem dX5_put_15 : decode cX5_put 15 = .ok (.iadd, 1) := by decide +kernel
theorem dX5_put_16 : decode cX5_put 16 = .ok (.istore 5, 2) := by decide +kernel
theorem dX5_put_18 : decode cX5_put 18 = .ok (.iload 5, 2) := by decide +kernel
theorem dX5_put_20 : decode cX5_put 20 = .ok (.ifCond .lt 27, 3) := by decide +kernel
theorem dX5_put_23 : decode cX5_put 23 = .ok (.iload 5, 2) := by decide +kernel
theorem dX5_put_25 : decode cX5_put 25 = .ok (.iconst 1, 1) := by decide +kernel
theorem dX5_put_26 : decode cX5_put 26 = .ok (.iadd, 1) := by decide +kernel
theorem dX5_put_27 : decode cX5_put 27 = .ok (.aload_n 0, 1) := by decide +kernel
theorem dX5_put_28 : decode cX5_put 28 = .ok (.getfield 24, 3) := by decide +kernel
theorem dX5_put_31 : decode cX5_put 31 = .ok (.arraylength, 1) := by decide +kernel
theorem dX5_put_32 : decode cX5_put 32 = .ok (.if_icmp .ge 15, 3) := by decide +kernel
theorem dX5_put_35 : decode cX5_put 35 = .ok (.aload_n 0, 1) := by decide +kernel
theorem dX5_put_36 : decode cX5_put 36 = .ok (.getfield 24, 3) := by decide +kernel
theorem dX5_put_39 : decode cX5_put 39 = .ok (.iload 5, 2) := by decide +kernel
theorem dX5_put_41 : decode cX5_put 41 = .ok (.iconst 1, 1) := by decide +kernel
theorem dX5_put_42 : decode cX5_put 42 = .ok (.iadd, 1) := by decide +kernel
theorem dX5_put_43 : decode cX5_put 43 = .ok (.iaload, 1) := by decide +kernel
theorem dX5_put_44 : decode cX5_put 44 = .ok (.ifCond .eq 5, 3) := by decide +kernel
theorem dX5_put_47 : decode cX5_put 47 = .ok (.iconst 0, 1) := by decide +kernel
theorem dX5_put_48 : decode cX5_put 48 = .ok (.ireturn, 1) := by decide +kernel
theorem dX5_put_49 : decode cX5_put 49 = .ok (.iload_n 3, 1) := by decide +kernel
theorem dX5_put_50 : decode cX5_put 50 = .ok (.iconst 4, 1) := by decide +kernel
theorem dX5_put_51 : decode cX5_put 51 = .ok (.imul, 1) := by decide +kernel
theorem dX5_put_52 : decode cX5_put 52 = .ok (.iconst 3, 1) := by decide +kernel
theorem dX5_put_53 : decode cX5_put 53 = .ok (.iadd, 1) := by decide +kernel
theorem dX5_put_54 : decode cX5_put 54 = .ok (.iload 4, 2) := by decide +kernel
theorem dX5_put_56 : decode cX5_put 56 = .ok (.isub, 1) := by decide +kernel
theorem dX5_put_57 : decode cX5_put 57 = .ok (.istore 6, 2) := by decide +kernel
theorem dX5_put_59 : decode cX5_put 59 = .ok (.iload 6, 2) := by decide +kernel
theorem dX5_put_61 : decode cX5_put 61 = .ok (.aload_n 0, 1) := by decide +kernel
theorem dX5_put_62 : decode cX5_put 62 = .ok (.getfield 24, 3) := by decide +kernel
theorem dX5_put_65 : decode cX5_put 65 = .ok (.iload 5, 2) := by decide +kernel
theorem dX5_put_67 : decode cX5_put 67 = .ok (.iaload, 1) := by decide +kernel
theorem dX5_put_68 : decode cX5_put 68 = .ok (.if_icmp .le 31, 3) := by decide +kernel
theorem dX5_put_71 : decode cX5_put 71 = .ok (.aload_n 0, 1) := by decide +kernel
theorem dX5_put_72 : decode cX5_put 72 = .ok (.getfield 24, 3) := by decide +kernel
theorem dX5_put_75 : decode cX5_put 75 = .ok (.iload 5, 2) := by decide +kernel
theorem dX5_put_77 : decode cX5_put 77 = .ok (.iconst 1, 1) := by decide +kernel
theorem dX5_put_78 : decode cX5_put 78 = .ok (.iadd, 1) := by decide +kernel
theorem dX5_put_79 : decode cX5_put 79 = .ok (.aload_n 0, 1) := by decide +kernel
theorem dX5_put_80 : decode cX5_put 80 = .ok (.getfield 24, 3) := by decide +kernel
theorem dX5_put_83 : decode cX5_put 83 = .ok (.iload 5, 2) := by decide +kernel
theorem dX5_put_85 : decode cX5_put 85 = .ok (.iaload, 1) := by decide +kernel
theorem dX5_put_86 : decode cX5_put 86 = .ok (.iastore, 1) := by decide +kernel
theorem dX5_put_87 : decode cX5_put 87 = .ok (.aload_n 0, 1) := by decide +kernel
theorem dX5_put_88 : decode cX5_put 88 = .ok (.getfield 24, 3) := by decide +kernel
theorem dX5_put_91 : decode cX5_put 91 = .ok (.iload 5, 2) := by decide +kernel
theorem dX5_put_93 : decode cX5_put 93 = .ok (.iload 6, 2) := by decide +kernel
theorem dX5_put_95 : decode cX5_put 95 = .ok (.iastore, 1) := by decide +kernel
theorem dX5_put_96 : decode cX5_put 96 = .ok (.goto 14, 3) := by decide +kernel
theorem dX5_put_99 : decode cX5_put 99 = .ok (.aload_n 0, 1) := by decide +kernel
theorem dX5_put_100 : decode cX5_put 100 = .ok (.getfield 24, 3) := by decide +kernel
theorem dX5_put_103 : decode cX5_put 103 = .ok (.iload 5, 2) := by decide +kernel
theorem dX5_put_105 : decode cX5_put 105 = .ok (.iconst 1, 1) := by decide +kernel
theorem dX5_put_106 : decode cX5_put 106 = .ok (.iadd, 1) := by decide +kernel
theorem dX5_put_107 : decode cX5_put 107 = .ok (.iload 6, 2) := by decide +kernel
theorem dX5_put_109 : decode cX5_put 109 = .ok (.iastore, 1) := by decide +kernel
theorem dX5_put_110 : decode cX5_put 110 = .ok (.iconst 1, 1) := by decide +kernel
theorem dX5_put_111 : decode cX5_put 111 = .ok (.ireturn, 1) := by decide +kernel
theorem dX5_append_0 : decode cX5_append 0 = .ok (.iload_n 3, 1) := by decide +kernel
theorem dX5_append_1 : decode cX5_append 1 = .ok (.iload_n 2, 1) := by decide +kernel
theorem dX5_append_2 : decode cX5_append 2 = .ok (.isub, 1) := by decide +kernel
theorem dX5_append_3 : decode cX5_append 3 = .ok (.istore 4, 2) := by decide +kernel
theorem dX5_append_5 : decode cX5_append 5 = .ok (.iload_n 2, 1) := by decide +kernel
theorem dX5_append_6 : decode cX5_append 6 = .ok (.ifCond .lt 36, 3) := by decide +kernel
theorem dX5_append_9 : decode cX5_append 9 = .ok (.iload 4, 2) := by decide +kernel
theorem dX5_append_11 : decode cX5_append 11 = .ok (.ifCond .lt 31, 3) := by decide +kernel
theorem dX5_append_14 : decode cX5_append 14 = .ok (.iload_n 3, 1) := by decide +kernel
theorem dX5_append_15 : decode cX5_append 15 = .ok (.aload_n 1, 1) := by decide +kernel
theorem dX5_append_16 : decode cX5_append 16 = .ok (.getfield 28, 3) := by decide +kernel
theorem dX5_append_19 : decode cX5_append 19 = .ok (.if_icmp .gt 23, 3) := by decide +kernel
theorem dX5_append_22 : decode cX5_append 22 = .ok (.aload_n 0, 1) := by decide +kernel
theorem dX5_append_23 : decode cX5_append 23 = .ok (.getfield 28, 3) := by decide +kernel
theorem dX5_append_26 : decode cX5_append 26 = .ok (.iload 4, 2) := by decide +kernel
theorem dX5_append_28 : decode cX5_append 28 = .ok (.iadd, 1) := by decide +kernel
theorem dX5_append_29 : decode cX5_append 29 = .ok (.aload_n 0, 1) := by decide +kernel
theorem dX5_append_30 : decode cX5_append 30 = .ok (.getfield 21, 3) := by decide +kernel
theorem dX5_append_33 : decode cX5_append 33 = .ok (.imul, 1) := by decide +kernel
theorem dX5_append_34 : decode cX5_append 34 = .ok (.aload_n 0, 1) := by decide +kernel
theorem dX5_append_35 : decode cX5_append 35 = .ok (.getfield 24, 3) := by decide +kernel
theorem dX5_append_38 : decode cX5_append 38 = .ok (.arraylength, 1) := by decide +kernel
theorem dX5_append_39 : decode cX5_append 39 = .ok (.if_icmp .le 5, 3) := by decide +kernel
theorem dX5_append_42 : decode cX5_append 42 = .ok (.iconst 0, 1) := by decide +kernel
theorem dX5_append_43 : decode cX5_append 43 = .ok (.ireturn, 1) := by decide +kernel
theorem dX5_append_44 : decode cX5_append 44 = .ok (.aload_n 1, 1) := by decide +kernel
theorem dX5_append_45 : decode cX5_append 45 = .ok (.getfield 24, 3) := by decide +kernel
theorem dX5_append_48 : decode cX5_append 48 = .ok (.iload_n 2, 1) := by decide +kernel
theorem dX5_append_49 : decode cX5_append 49 = .ok (.aload_n 0, 1) := by decide +kernel
theorem dX5_append_50 : decode cX5_append 50 = .ok (.getfield 21, 3) := by decide +kernel
theorem dX5_append_53 : decode cX5_append 53 = .ok (.imul, 1) := by decide +kernel
theorem dX5_append_54 : decode cX5_append 54 = .ok (.aload_n 0, 1) := by decide +kernel
theorem dX5_append_55 : decode cX5_append 55 = .ok (.getfield 24, 3) := by decide +kernel
theorem dX5_append_58 : decode cX5_append 58 = .ok (.aload_n 0, 1) := by decide +kernel
theorem dX5_append_59 : decode cX5_append 59 = .ok (.getfield 28, 3) := by decide +kernel
theorem dX5_append_62 : decode cX5_append 62 = .ok (.aload_n 0, 1) := by decide +kernel
theorem dX5_append_63 : decode cX5_append 63 = .ok (.getfield 21, 3) := by decide +kernel
theorem dX5_append_66 : decode cX5_append 66 = .ok (.imul, 1) := by decide +kernel
theorem dX5_append_67 : decode cX5_append 67 = .ok (.iload 4, 2) := by decide +kernel
theorem dX5_append_69 : decode cX5_append 69 = .ok (.aload_n 0, 1) := by decide +kernel
theorem dX5_append_70 : decode cX5_append 70 = .ok (.getfield 21, 3) := by decide +kernel
theorem dX5_append_73 : decode cX5_append 73 = .ok (.imul, 1) := by decide +kernel
theorem dX5_append_74 : decode cX5_append 74 = .ok (.invokestatic 66, 3) := by decide +kernel
theorem dX5_append_77 : decode cX5_append 77 = .ok (.aload_n 0, 1) := by decide +kernel
theorem dX5_append_78 : decode cX5_append 78 = .ok (.dup, 1) := by decide +kernel
theorem dX5_append_79 : decode cX5_append 79 = .ok (.getfield 28, 3) := by decide +kernel
theorem dX5_append_82 : decode cX5_append 82 = .ok (.iload 4, 2) := by decide +kernel
theorem dX5_append_84 : decode cX5_append 84 = .ok (.iadd, 1) := by decide +kernel
theorem dX5_append_85 : decode cX5_append 85 = .ok (.putfield 28, 3) := by decide +kernel
theorem dX5_append_88 : decode cX5_append 88 = .ok (.iconst 1, 1) := by decide +kernel
theorem dX5_append_89 : decode cX5_append 89 = .ok (.ireturn, 1) := by decide +kernel
theorem dX5_takeFrom_0 : decode cX5_takeFrom 0 = .ok (.aload_n 0, 1) := by decide +kernel
theorem dX5_takeFrom_1 : decode cX5_takeFrom 1 = .ok (.iconst 0, 1) := by decide +kernel
theorem dX5_takeFrom_2 : decode cX5_takeFrom 2 = .ok (.putfield 28, 3) := by decide +kernel
theorem dX5_takeFrom_5 : decode cX5_takeFrom 5 = .ok (.aload_n 0, 1) := by decide +kernel
theorem dX5_takeFrom_6 : decode cX5_takeFrom 6 = .ok (.aload_n 1, 1) := by decide +kernel
theorem dX5_takeFrom_7 : decode cX5_takeFrom 7 = .ok (.iconst 0, 1) := by decide +kernel
theorem dX5_takeFrom_8 : decode cX5_takeFrom 8 = .ok (.aload_n 1, 1) := by decide +kernel
theorem dX5_takeFrom_9 : decode cX5_takeFrom 9 = .ok (.getfield 28, 3) := by decide +kernel
theorem dX5_takeFrom_12 : decode cX5_takeFrom 12 = .ok (.invokevirtual 72, 3) := by decide +kernel
theorem dX5_takeFrom_15 : decode cX5_takeFrom 15 = .ok (.ireturn, 1) := by decide +kernel
theorem dX5_takeBack_0 : decode cX5_takeBack 0 = .ok (.aload_n 0, 1) := by decide +kernel
theorem dX5_takeBack_1 : decode cX5_takeBack 1 = .ok (.aload_n 1, 1) := by decide +kernel
theorem dX5_takeBack_2 : decode cX5_takeBack 2 = .ok (.getfield 28, 3) := by decide +kernel
theorem dX5_takeBack_5 : decode cX5_takeBack 5 = .ok (.invokevirtual 83, 3) := by decide +kernel
theorem dX5_takeBack_8 : decode cX5_takeBack 8 = .ok (.iconst 0, 1) := by decide +kernel
theorem dX5_takeBack_9 : decode cX5_takeBack 9 = .ok (.istore_n 2, 1) := by decide +kernel
theorem dX5_takeBack_10 : decode cX5_takeBack 10 = .ok (.iload_n 2, 1) := by decide +kernel
theorem dX5_takeBack_11 : decode cX5_takeBack 11 = .ok (.aload_n 1, 1) := by decide +kernel
theorem dX5_takeBack_12 : decode cX5_takeBack 12 = .ok (.invokevirtual 47, 3) := by decide +kernel
theorem dX5_takeBack_15 : decode cX5_takeBack 15 = .ok (.if_icmp .ge 51, 3) := by decide +kernel
theorem dX5_takeBack_18 : decode cX5_takeBack 18 = .ok (.aload_n 1, 1) := by decide +kernel
theorem dX5_takeBack_19 : decode cX5_takeBack 19 = .ok (.iload_n 2, 1) := by decide +kernel
theorem dX5_takeBack_20 : decode cX5_takeBack 20 = .ok (.invokevirtual 38, 3) := by decide +kernel
theorem dX5_takeBack_23 : decode cX5_takeBack 23 = .ok (.istore_n 3, 1) := by decide +kernel
theorem dX5_takeBack_24 : decode cX5_takeBack 24 = .ok (.aload_n 0, 1) := by decide +kernel
theorem dX5_takeBack_25 : decode cX5_takeBack 25 = .ok (.aload_n 1, 1) := by decide +kernel
theorem dX5_takeBack_26 : decode cX5_takeBack 26 = .ok (.iload_n 2, 1) := by decide +kernel
theorem dX5_takeBack_27 : decode cX5_takeBack 27 = .ok (.invokevirtual 34, 3) := by decide +kernel
theorem dX5_takeBack_30 : decode cX5_takeBack 30 = .ok (.iload_n 3, 1) := by decide +kernel
theorem dX5_takeBack_31 : decode cX5_takeBack 31 = .ok (.iadd, 1) := by decide +kernel
theorem dX5_takeBack_32 : decode cX5_takeBack 32 = .ok (.ineg, 1) := by decide +kernel
theorem dX5_takeBack_33 : decode cX5_takeBack 33 = .ok (.invokevirtual 41, 3) := by decide +kernel
theorem dX5_takeBack_36 : decode cX5_takeBack 36 = .ok (.istore 4, 2) := by decide +kernel
theorem dX5_takeBack_38 : decode cX5_takeBack 38 = .ok (.aload_n 0, 1) := by decide +kernel
theorem dX5_takeBack_39 : decode cX5_takeBack 39 = .ok (.iload 4, 2) := by decide +kernel
theorem dX5_takeBack_41 : decode cX5_takeBack 41 = .ok (.aload_n 1, 1) := by decide +kernel
theorem dX5_takeBack_42 : decode cX5_takeBack 42 = .ok (.iload_n 2, 1) := by decide +kernel
theorem dX5_takeBack_43 : decode cX5_takeBack 43 = .ok (.invokevirtual 44, 3) := by decide +kernel
theorem dX5_takeBack_46 : decode cX5_takeBack 46 = .ok (.iload_n 3, 1) := by decide +kernel
theorem dX5_takeBack_47 : decode cX5_takeBack 47 = .ok (.aload_n 1, 1) := by decide +kernel
theorem dX5_takeBack_48 : decode cX5_takeBack 48 = .ok (.iload_n 2, 1) := by decide +kernel
theorem dX5_takeBack_49 : decode cX5_takeBack 49 = .ok (.invokevirtual 87, 3) := by decide +kernel
theorem dX5_takeBack_52 : decode cX5_takeBack 52 = .ok (.invokevirtual 90, 3) := by decide +kernel
theorem dX5_takeBack_55 : decode cX5_takeBack 55 = .ok (.ifCond .ne 5, 3) := by decide +kernel
theorem dX5_takeBack_58 : decode cX5_takeBack 58 = .ok (.iconst 0, 1) := by decide +kernel
theorem dX5_takeBack_59 : decode cX5_takeBack 59 = .ok (.ireturn, 1) := by decide +kernel
theorem dX5_takeBack_60 : decode cX5_takeBack 60 = .ok (.iinc 2 1, 3) := by decide +kernel
theorem dX5_takeBack_63 : decode cX5_takeBack 63 = .ok (.goto (-53), 3) := by decide +kernel
theorem dX5_takeBack_66 : decode cX5_takeBack 66 = .ok (.iconst 1, 1) := by decide +kernel
theorem dX5_takeBack_67 : decode cX5_takeBack 67 = .ok (.ireturn, 1) := by decide +kernel
theorem dX5_takeOver_0 : decode cX5_takeOver 0 = .ok (.aload_n 0, 1) := by decide +kernel
theorem dX5_takeOver_1 : decode cX5_takeOver 1 = .ok (.aload_n 1, 1) := by decide +kernel
theorem dX5_takeOver_2 : decode cX5_takeOver 2 = .ok (.getfield 28, 3) := by decide +kernel
theorem dX5_takeOver_5 : decode cX5_takeOver 5 = .ok (.invokevirtual 83, 3) := by decide +kernel
theorem dX5_takeOver_8 : decode cX5_takeOver 8 = .ok (.iconst 0, 1) := by decide +kernel
theorem dX5_takeOver_9 : decode cX5_takeOver 9 = .ok (.istore_n 2, 1) := by decide +kernel
theorem dX5_takeOver_10 : decode cX5_takeOver 10 = .ok (.iload_n 2, 1) := by decide +kernel
theorem dX5_takeOver_11 : decode cX5_takeOver 11 = .ok (.aload_n 1, 1) := by decide +kernel
theorem dX5_takeOver_12 : decode cX5_takeOver 12 = .ok (.invokevirtual 47, 3) := by decide +kernel
theorem dX5_takeOver_15 : decode cX5_takeOver 15 = .ok (.if_icmp .ge 54, 3) := by decide +kernel
theorem dX5_takeOver_18 : decode cX5_takeOver 18 = .ok (.aload_n 1, 1) := by decide +kernel
theorem dX5_takeOver_19 : decode cX5_takeOver 19 = .ok (.iload_n 2, 1) := by decide +kernel
theorem dX5_takeOver_20 : decode cX5_takeOver 20 = .ok (.invokevirtual 87, 3) := by decide +kernel
theorem dX5_takeOver_23 : decode cX5_takeOver 23 = .ok (.iconst 1, 1) := by decide +kernel
theorem dX5_takeOver_24 : decode cX5_takeOver 24 = .ok (.iadd, 1) := by decide +kernel
theorem dX5_takeOver_25 : decode cX5_takeOver 25 = .ok (.aload_n 0, 1) := by decide +kernel
theorem dX5_takeOver_26 : decode cX5_takeOver 26 = .ok (.getfield 15, 3) := by decide +kernel
theorem dX5_takeOver_29 : decode cX5_takeOver 29 = .ok (.irem, 1) := by decide +kernel
theorem dX5_takeOver_30 : decode cX5_takeOver 30 = .ok (.istore_n 3, 1) := by decide +kernel
theorem dX5_takeOver_31 : decode cX5_takeOver 31 = .ok (.aload_n 1, 1) := by decide +kernel
theorem dX5_takeOver_32 : decode cX5_takeOver 32 = .ok (.iload_n 2, 1) := by decide +kernel
theorem dX5_takeOver_33 : decode cX5_takeOver 33 = .ok (.invokevirtual 44, 3) := by decide +kernel
theorem dX5_takeOver_36 : decode cX5_takeOver 36 = .ok (.iconst 1, 1) := by decide +kernel
theorem dX5_takeOver_37 : decode cX5_takeOver 37 = .ok (.iadd, 1) := by decide +kernel
theorem dX5_takeOver_38 : decode cX5_takeOver 38 = .ok (.aload_n 0, 1) := by decide +kernel
theorem dX5_takeOver_39 : decode cX5_takeOver 39 = .ok (.getfield 15, 3) := by decide +kernel
theorem dX5_takeOver_42 : decode cX5_takeOver 42 = .ok (.irem, 1) := by decide +kernel
theorem dX5_takeOver_43 : decode cX5_takeOver 43 = .ok (.istore 4, 2) := by decide +kernel
theorem dX5_takeOver_45 : decode cX5_takeOver 45 = .ok (.aload_n 0, 1) := by decide +kernel
theorem dX5_takeOver_46 : decode cX5_takeOver 46 = .ok (.aload_n 1, 1) := by decide +kernel
theorem dX5_takeOver_47 : decode cX5_takeOver 47 = .ok (.iload_n 2, 1) := by decide +kernel
theorem dX5_takeOver_48 : decode cX5_takeOver 48 = .ok (.invokevirtual 34, 3) := by decide +kernel
theorem dX5_takeOver_51 : decode cX5_takeOver 51 = .ok (.iload_n 3, 1) := by decide +kernel
theorem dX5_takeOver_52 : decode cX5_takeOver 52 = .ok (.aload_n 1, 1) := by decide +kernel
theorem dX5_takeOver_53 : decode cX5_takeOver 53 = .ok (.iload_n 2, 1) := by decide +kernel
theorem dX5_takeOver_54 : decode cX5_takeOver 54 = .ok (.invokevirtual 38, 3) := by decide +kernel
theorem dX5_takeOver_57 : decode cX5_takeOver 57 = .ok (.iload 4, 2) := by decide +kernel
theorem dX5_takeOver_59 : decode cX5_takeOver 59 = .ok (.invokevirtual 90, 3) := by decide +kernel
theorem dX5_takeOver_62 : decode cX5_takeOver 62 = .ok (.pop, 1) := by decide +kernel
theorem dX5_takeOver_63 : decode cX5_takeOver 63 = .ok (.iinc 2 1, 3) := by decide +kernel
theorem dX5_takeOver_66 : decode cX5_takeOver 66 = .ok (.goto (-56), 3) := by decide +kernel
theorem dX5_takeOver_69 : decode cX5_takeOver 69 = .ok (.return_, 1) := by decide +kernel
theorem dX5_takeDual_0 : decode cX5_takeDual 0 = .ok (.aload_n 1, 1) := by decide +kernel
theorem dX5_takeDual_1 : decode cX5_takeDual 1 = .ok (.invokevirtual 94, 3) := by decide +kernel
theorem dX5_takeDual_4 : decode cX5_takeDual 4 = .ok (.ifCond .ne 5, 3) := by decide +kernel
theorem dX5_takeDual_7 : decode cX5_takeDual 7 = .ok (.iconst 0, 1) := by decide +kernel
theorem dX5_takeDual_8 : decode cX5_takeDual 8 = .ok (.ireturn, 1) := by decide +kernel
theorem dX5_takeDual_9 : decode cX5_takeDual 9 = .ok (.aload_n 0, 1) := by decide +kernel
theorem dX5_takeDual_10 : decode cX5_takeDual 10 = .ok (.aload_n 1, 1) := by decide +kernel
theorem dX5_takeDual_11 : decode cX5_takeDual 11 = .ok (.getfield 28, 3) := by decide +kernel
theorem dX5_takeDual_14 : decode cX5_takeDual 14 = .ok (.invokevirtual 83, 3) := by decide +kernel
theorem dX5_takeDual_17 : decode cX5_takeDual 17 = .ok (.iconst 0, 1) := by decide +kernel
theorem dX5_takeDual_18 : decode cX5_takeDual 18 = .ok (.istore_n 2, 1) := by decide +kernel
theorem dX5_takeDual_19 : decode cX5_takeDual 19 = .ok (.iload_n 2, 1) := by decide +kernel
theorem dX5_takeDual_20 : decode cX5_takeDual 20 = .ok (.aload_n 1, 1) := by decide +kernel
theorem dX5_takeDual_21 : decode cX5_takeDual 21 = .ok (.getfield 28, 3) := by decide +kernel
theorem dX5_takeDual_24 : decode cX5_takeDual 24 = .ok (.if_icmp .ge 32, 3) := by decide +kernel
theorem dX5_takeDual_27 : decode cX5_takeDual 27 = .ok (.aload_n 0, 1) := by decide +kernel
theorem dX5_takeDual_28 : decode cX5_takeDual 28 = .ok (.aload_n 0, 1) := by decide +kernel
theorem dX5_takeDual_29 : decode cX5_takeDual 29 = .ok (.iload_n 2, 1) := by decide +kernel
theorem dX5_takeDual_30 : decode cX5_takeDual 30 = .ok (.ineg, 1) := by decide +kernel
theorem dX5_takeDual_31 : decode cX5_takeDual 31 = .ok (.invokevirtual 41, 3) := by decide +kernel
theorem dX5_takeDual_34 : decode cX5_takeDual 34 = .ok (.iconst 0, 1) := by decide +kernel
theorem dX5_takeDual_35 : decode cX5_takeDual 35 = .ok (.bipush 9, 2) := by decide +kernel
theorem dX5_takeDual_37 : decode cX5_takeDual 37 = .ok (.aload_n 1, 1) := by decide +kernel
theorem dX5_takeDual_38 : decode cX5_takeDual 38 = .ok (.iload_n 2, 1) := by decide +kernel
theorem dX5_takeDual_39 : decode cX5_takeDual 39 = .ok (.iconst 2, 1) := by decide +kernel
theorem dX5_takeDual_40 : decode cX5_takeDual 40 = .ok (.imul, 1) := by decide +kernel
theorem dX5_takeDual_41 : decode cX5_takeDual 41 = .ok (.invokevirtual 38, 3) := by decide +kernel
theorem dX5_takeDual_44 : decode cX5_takeDual 44 = .ok (.isub, 1) := by decide +kernel
theorem dX5_takeDual_45 : decode cX5_takeDual 45 = .ok (.iconst 0, 1) := by decide +kernel
theorem dX5_takeDual_46 : decode cX5_takeDual 46 = .ok (.invokevirtual 90, 3) := by decide +kernel
theorem dX5_takeDual_49 : decode cX5_takeDual 49 = .ok (.pop, 1) := by decide +kernel
theorem dX5_takeDual_50 : decode cX5_takeDual 50 = .ok (.iinc 2 1, 3) := by decide +kernel
theorem dX5_takeDual_53 : decode cX5_takeDual 53 = .ok (.goto (-34), 3) := by decide +kernel
theorem dX5_takeDual_56 : decode cX5_takeDual 56 = .ok (.iconst 1, 1) := by decide +kernel
theorem dX5_takeDual_57 : decode cX5_takeDual 57 = .ok (.ireturn, 1) := by decide +kernel
theorem dX5_takeTurned_0 : decode cX5_takeTurned 0 = .ok (.aload_n 1, 1) := by decide +kernel
theorem dX5_takeTurned_1 : decode cX5_takeTurned 1 = .ok (.iload_n 2, 1) := by decide +kernel
theorem dX5_takeTurned_2 : decode cX5_takeTurned 2 = .ok (.invokevirtual 41, 3) := by decide +kernel
theorem dX5_takeTurned_5 : decode cX5_takeTurned 5 = .ok (.istore_n 3, 1) := by decide +kernel
theorem dX5_takeTurned_6 : decode cX5_takeTurned 6 = .ok (.aload_n 0, 1) := by decide +kernel
theorem dX5_takeTurned_7 : decode cX5_takeTurned 7 = .ok (.iconst 0, 1) := by decide +kernel
theorem dX5_takeTurned_8 : decode cX5_takeTurned 8 = .ok (.putfield 28, 3) := by decide +kernel
theorem dX5_takeTurned_11 : decode cX5_takeTurned 11 = .ok (.aload_n 0, 1) := by decide +kernel
theorem dX5_takeTurned_12 : decode cX5_takeTurned 12 = .ok (.aload_n 1, 1) := by decide +kernel
theorem dX5_takeTurned_13 : decode cX5_takeTurned 13 = .ok (.iload_n 3, 1) := by decide +kernel
theorem dX5_takeTurned_14 : decode cX5_takeTurned 14 = .ok (.aload_n 1, 1) := by decide +kernel
theorem dX5_takeTurned_15 : decode cX5_takeTurned 15 = .ok (.getfield 28, 3) := by decide +kernel
theorem dX5_takeTurned_18 : decode cX5_takeTurned 18 = .ok (.invokevirtual 72, 3) := by decide +kernel
theorem dX5_takeTurned_21 : decode cX5_takeTurned 21 = .ok (.pop, 1) := by decide +kernel
theorem dX5_takeTurned_22 : decode cX5_takeTurned 22 = .ok (.aload_n 0, 1) := by decide +kernel
theorem dX5_takeTurned_23 : decode cX5_takeTurned 23 = .ok (.aload_n 1, 1) := by decide +kernel
theorem dX5_takeTurned_24 : decode cX5_takeTurned 24 = .ok (.iconst 0, 1) := by decide +kernel
theorem dX5_takeTurned_25 : decode cX5_takeTurned 25 = .ok (.iload_n 3, 1) := by decide +kernel
theorem dX5_takeTurned_26 : decode cX5_takeTurned 26 = .ok (.invokevirtual 72, 3) := by decide +kernel
theorem dX5_takeTurned_29 : decode cX5_takeTurned 29 = .ok (.pop, 1) := by decide +kernel
theorem dX5_takeTurned_30 : decode cX5_takeTurned 30 = .ok (.return_, 1) := by decide +kernel
theorem dJ9_floorMod_7cf53_0 : decode cJ9_floorMod_7cf53 0 = .ok (.iload_n 0, 1) := by decide +kernel
theorem dJ9_floorMod_7cf53_1 : decode cJ9_floorMod_7cf53 1 = .ok (.iload_n 1, 1) := by decide +kernel
theorem dJ9_floorMod_7cf53_2 : decode cJ9_floorMod_7cf53 2 = .ok (.irem, 1) := by decide +kernel
theorem dJ9_floorMod_7cf53_3 : decode cJ9_floorMod_7cf53 3 = .ok (.istore_n 2, 1) := by decide +kernel
theorem dJ9_floorMod_7cf53_4 : decode cJ9_floorMod_7cf53 4 = .ok (.iload_n 0, 1) := by decide +kernel
theorem dJ9_floorMod_7cf53_5 : decode cJ9_floorMod_7cf53 5 = .ok (.iload_n 1, 1) := by decide +kernel
theorem dJ9_floorMod_7cf53_6 : decode cJ9_floorMod_7cf53 6 = .ok (.ixor, 1) := by decide +kernel
theorem dJ9_floorMod_7cf53_7 : decode cJ9_floorMod_7cf53 7 = .ok (.ifCond .ge 11, 3) := by decide +kernel
theorem dJ9_floorMod_7cf53_10 : decode cJ9_floorMod_7cf53 10 = .ok (.iload_n 2, 1) := by decide +kernel
theorem dJ9_floorMod_7cf53_11 : decode cJ9_floorMod_7cf53 11 = .ok (.ifCond .eq 7, 3) := by decide +kernel
theorem dJ9_floorMod_7cf53_14 : decode cJ9_floorMod_7cf53 14 = .ok (.iload_n 2, 1) := by decide +kernel
theorem dJ9_floorMod_7cf53_15 : decode cJ9_floorMod_7cf53 15 = .ok (.iload_n 1, 1) := by decide +kernel
theorem dJ9_floorMod_7cf53_16 : decode cJ9_floorMod_7cf53 16 = .ok (.iadd, 1) := by decide +kernel
theorem dJ9_floorMod_7cf53_17 : decode cJ9_floorMod_7cf53 17 = .ok (.ireturn, 1) := by decide +kernel
theorem dJ9_floorMod_7cf53_18 : decode cJ9_floorMod_7cf53 18 = .ok (.iload_n 2, 1) := by decide +kernel
theorem dJ9_floorMod_7cf53_19 : decode cJ9_floorMod_7cf53 19 = .ok (.ireturn, 1) := by decide +kernel
set_option maxRecDepth 20000 in
theorem ggX5_beatInRound_J9_floorMod_7cf53 : GoodIn wsX5_beatInRound wsJ9_floorMod_7cf53 := goodIn_r _ [5] (by decide +kernel) (by decide +kernel)
set_option maxRecDepth 20000 in
theorem gX5_beatInRound_J9_floorMod_7cf53 : GoodIn wsX5_beatInRound (va_wsS RX5 31 yJ9_floorMod_7cf53 wsJ9_floorMod_7cf53) := goodIn_app (goodIn_of _ (by decide +kernel)) ggX5_beatInRound_J9_floorMod_7cf53
set_option maxRecDepth 20000 in
theorem ggX5_landing_X5_beatOf : GoodIn wsX5_landing wsX5_beatOf := goodIn_r _ [6, 7, 26, 27, 28, 29] (by decide +kernel) (by decide +kernel)
set_option maxRecDepth 20000 in
theorem gX5_landing_X5_beatOf : GoodIn wsX5_landing (wsV RX5 34 RX5 yX5_beatOf wsX5_beatOf) := goodIn_app (goodIn_of _ (by decide +kernel)) ggX5_landing_X5_beatOf
set_option maxRecDepth 20000 in
theorem ggX5_landing_X5_height : GoodIn wsX5_landing wsX5_height := goodIn_r _ [11, 12, 26, 27, 28, 29] (by decide +kernel) (by decide +kernel)
set_option maxRecDepth 20000 in
theorem gX5_landing_X5_height : GoodIn wsX5_landing (wsV RX5 38 RX5 yX5_height wsX5_height) := goodIn_app (goodIn_of _ (by decide +kernel)) ggX5_landing_X5_height
set_option maxRecDepth 20000 in
theorem ggX5_landing_X5_beatInRound : GoodIn wsX5_landing wsX5_beatInRound := goodIn_r _ [16, 17, 18, 19, 20, 21, 26, 27, 28, 29] (by decide +kernel) (by decide +kernel)
set_option maxRecDepth 20000 in
theorem gX5_landing_X5_beatInRound : GoodIn wsX5_landing (wsV RX5 41 RX5 yX5_beatInRound wsX5_beatInRound) := goodIn_app (goodIn_of _ (by decide +kernel)) ggX5_landing_X5_beatInRound
set_option maxRecDepth 20000 in
theorem ggX5_landing_X5_target : GoodIn wsX5_landing wsX5_target := goodIn_r _ [25, 12, 26, 27, 28, 29] (by decide +kernel) (by decide +kernel)
set_option maxRecDepth 20000 in
theorem gX5_landing_X5_target : GoodIn wsX5_landing (wsV RX5 44 RX5 yX5_target wsX5_target) := goodIn_app (goodIn_of _ (by decide +kernel)) ggX5_landing_X5_target
set_option maxRecDepth 20000 in
theorem ggX5_balls_X5_cellCount : GoodIn wsX5_balls wsX5_cellCount := goodIn_r _ [5, 6, 7, 17, 18, 19, 20] (by decide +kernel) (by decide +kernel)
set_option maxRecDepth 20000 in
theorem gX5_balls_X5_cellCount : GoodIn wsX5_balls (wsV RX5 47 RX5 yX5_cellCount wsX5_cellCount) := goodIn_app (goodIn_of _ (by decide +kernel)) ggX5_balls_X5_cellCount
set_option maxRecDepth 20000 in
theorem ggX5_balls_X5_height : GoodIn wsX5_balls wsX5_height := goodIn_r _ [11, 12, 17, 18, 19, 20] (by decide +kernel) (by decide +kernel)
set_option maxRecDepth 20000 in
theorem gX5_balls_X5_height : GoodIn wsX5_balls (wsV RX5 38 RX5 yX5_height wsX5_height) := goodIn_app (goodIn_of _ (by decide +kernel)) ggX5_balls_X5_height
set_option maxRecDepth 20000 in
theorem ggX5_balls_X5_perRound : GoodIn wsX5_balls wsX5_perRound := goodIn_r _ [16, 6, 17, 18, 19, 20] (by decide +kernel) (by decide +kernel)
set_option maxRecDepth 20000 in
theorem gX5_balls_X5_perRound : GoodIn wsX5_balls (wsV RX5 51 RX5 yX5_perRound wsX5_perRound) := goodIn_app (goodIn_of _ (by decide +kernel)) ggX5_balls_X5_perRound
set_option maxRecDepth 20000 in
theorem ggX5_isTurned_X5_cellCount : GoodIn wsX5_isTurned wsX5_cellCount := goodIn_r _ [6, 7, 1, 25, 26, 27, 28] (by decide +kernel) (by decide +kernel)
set_option maxRecDepth 20000 in
theorem gX5_isTurned_X5_cellCount : GoodIn wsX5_isTurned (wsV RX5 47 RX5 yX5_cellCount wsX5_cellCount) := goodIn_app (goodIn_of _ (by decide +kernel)) ggX5_isTurned_X5_cellCount
set_option maxRecDepth 20000 in
theorem ggX5_isTurned_X5_beatOf : GoodIn wsX5_isTurned wsX5_beatOf := goodIn_r _ [11, 1, 25, 26, 27, 28] (by decide +kernel) (by decide +kernel)
set_option maxRecDepth 20000 in
theorem gX5_isTurned_X5_beatOf : GoodIn wsX5_isTurned (wsV RX5 34 RX5 yX5_beatOf wsX5_beatOf) := goodIn_app (goodIn_of _ (by decide +kernel)) ggX5_isTurned_X5_beatOf
set_option maxRecDepth 20000 in
theorem ggX5_isTurned_X5_beatInRound : GoodIn wsX5_isTurned wsX5_beatInRound := goodIn_r _ [15, 7, 16, 17, 18, 19, 25, 26, 27, 28] (by decide +kernel) (by decide +kernel)
set_option maxRecDepth 20000 in
theorem gX5_isTurned_X5_beatInRound : GoodIn wsX5_isTurned (wsV RX5 41 RX5 yX5_beatInRound wsX5_beatInRound) := goodIn_app (goodIn_of _ (by decide +kernel)) ggX5_isTurned_X5_beatInRound
set_option maxRecDepth 20000 in
theorem ggX5_isTurned_X5_code : GoodIn wsX5_isTurned wsX5_code := goodIn_r _ [23, 24, 25, 26, 27, 28] (by decide +kernel) (by decide +kernel)
set_option maxRecDepth 20000 in
theorem gX5_isTurned_X5_code : GoodIn wsX5_isTurned (wsV RX5 54 RX5 yX5_code wsX5_code) := goodIn_app (goodIn_of _ (by decide +kernel)) ggX5_isTurned_X5_code
set_option maxRecDepth 20000 in
theorem ggX5_reset_J7_fill_53178 : GoodIn wsX5_reset wsJ7_fill_53178 := goodIn_r _ [14] (by decide +kernel) (by decide +kernel)
set_option maxRecDepth 20000 in
theorem gX5_reset_J7_fill_53178 : GoodIn wsX5_reset (va_wsS RX5 60 yJ7_fill_53178 wsJ7_fill_53178) := goodIn_app (goodIn_of _ (by decide +kernel)) ggX5_reset_J7_fill_53178
set_option maxRecDepth 20000 in
theorem ggX5_takeFrom_X5_append : GoodIn wsX5_takeFrom wsX5_append := goodIn_r _ [6, 1, 7, 8, 9, 10, 11, 12, 13, 14, 15, 16] (by decide +kernel) (by decide +kernel)
set_option maxRecDepth 20000 in
theorem gX5_takeFrom_X5_append : GoodIn wsX5_takeFrom (wsV RX5 72 RX5 yX5_append wsX5_append) := goodIn_app (goodIn_of _ (by decide +kernel)) ggX5_takeFrom_X5_append
set_option maxRecDepth 20000 in
theorem ggX5_takeBack_X5_reset : GoodIn wsX5_takeBack wsX5_reset := goodIn_r _ [6, 7, 8, 9, 10, 11, 12, 13, 14, 15, 1, 16, 17, 18, 19, 52, 53, 54, 55] (by decide +kernel) (by decide +kernel)
set_option maxRecDepth 20000 in
theorem gX5_takeBack_X5_reset : GoodIn wsX5_takeBack (wsV RX5 83 RX5 yX5_reset wsX5_reset) := goodIn_app (goodIn_of _ (by decide +kernel)) ggX5_takeBack_X5_reset
set_option maxRecDepth 20000 in
theorem ggX5_takeBack_X5_cellCount : GoodIn wsX5_takeBack wsX5_cellCount := goodIn_r _ [23, 1, 8, 52, 53, 54, 55] (by decide +kernel) (by decide +kernel)
set_option maxRecDepth 20000 in
theorem gX5_takeBack_X5_cellCount : GoodIn wsX5_takeBack (wsV RX5 47 RX5 yX5_cellCount wsX5_cellCount) := goodIn_app (goodIn_of _ (by decide +kernel)) ggX5_takeBack_X5_cellCount
set_option maxRecDepth 20000 in
theorem ggX5_takeBack_X5_height : GoodIn wsX5_takeBack wsX5_height := goodIn_r _ [27, 7, 52, 53, 54, 55] (by decide +kernel) (by decide +kernel)
set_option maxRecDepth 20000 in
theorem gX5_takeBack_X5_height : GoodIn wsX5_takeBack (wsV RX5 38 RX5 yX5_height wsX5_height) := goodIn_app (goodIn_of _ (by decide +kernel)) ggX5_takeBack_X5_height
set_option maxRecDepth 20000 in
theorem ggX5_takeBack_X5_beatOf : GoodIn wsX5_takeBack wsX5_beatOf := goodIn_r _ [31, 8, 52, 53, 54, 55] (by decide +kernel) (by decide +kernel)
set_option maxRecDepth 20000 in
theorem gX5_takeBack_X5_beatOf : GoodIn wsX5_takeBack (wsV RX5 34 RX5 yX5_beatOf wsX5_beatOf) := goodIn_app (goodIn_of _ (by decide +kernel)) ggX5_takeBack_X5_beatOf
set_option maxRecDepth 20000 in
theorem ggX5_takeBack_X5_beatInRound : GoodIn wsX5_takeBack wsX5_beatInRound := goodIn_r _ [35, 1, 36, 37, 38, 39, 52, 53, 54, 55] (by decide +kernel) (by decide +kernel)
set_option maxRecDepth 20000 in
theorem gX5_takeBack_X5_beatInRound : GoodIn wsX5_takeBack (wsV RX5 41 RX5 yX5_beatInRound wsX5_beatInRound) := goodIn_app (goodIn_of _ (by decide +kernel)) ggX5_takeBack_X5_beatInRound
set_option maxRecDepth 20000 in
theorem ggX5_takeBack_X5_target : GoodIn wsX5_takeBack wsX5_target := goodIn_r _ [43, 7, 52, 53, 54, 55] (by decide +kernel) (by decide +kernel)
set_option maxRecDepth 20000 in
theorem gX5_takeBack_X5_target : GoodIn wsX5_takeBack (wsV RX5 44 RX5 yX5_target wsX5_target) := goodIn_app (goodIn_of _ (by decide +kernel)) ggX5_takeBack_X5_target
set_option maxRecDepth 20000 in
theorem ggX5_takeBack_X5_jugglerOf : GoodIn wsX5_takeBack wsX5_jugglerOf := goodIn_r _ [47, 8, 52, 53, 54, 55] (by decide +kernel) (by decide +kernel)
set_option maxRecDepth 20000 in
theorem gX5_takeBack_X5_jugglerOf : GoodIn wsX5_takeBack (wsV RX5 87 RX5 yX5_jugglerOf wsX5_jugglerOf) := goodIn_app (goodIn_of _ (by decide +kernel)) ggX5_takeBack_X5_jugglerOf
set_option maxRecDepth 20000 in
theorem ggX5_takeBack_X5_put : GoodIn wsX5_takeBack wsX5_put := goodIn_r _ [51, 8, 7, 52, 53, 54, 55] (by decide +kernel) (by decide +kernel)
set_option maxRecDepth 20000 in
theorem gX5_takeBack_X5_put : GoodIn wsX5_takeBack (wsV RX5 90 RX5 yX5_put wsX5_put) := goodIn_app (goodIn_of _ (by decide +kernel)) ggX5_takeBack_X5_put
set_option maxRecDepth 20000 in
theorem ggX5_takeOver_X5_reset : GoodIn wsX5_takeOver wsX5_reset := goodIn_r _ [7, 8, 9, 10, 11, 12, 13, 14, 15, 16, 1, 17, 18, 19, 20, 45, 46, 47, 48] (by decide +kernel) (by decide +kernel)
set_option maxRecDepth 20000 in
theorem gX5_takeOver_X5_reset : GoodIn wsX5_takeOver (wsV RX5 83 RX5 yX5_reset wsX5_reset) := goodIn_app (goodIn_of _ (by decide +kernel)) ggX5_takeOver_X5_reset
set_option maxRecDepth 20000 in
theorem ggX5_takeOver_X5_cellCount : GoodIn wsX5_takeOver wsX5_cellCount := goodIn_r _ [24, 1, 9, 45, 46, 47, 48] (by decide +kernel) (by decide +kernel)
set_option maxRecDepth 20000 in
theorem gX5_takeOver_X5_cellCount : GoodIn wsX5_takeOver (wsV RX5 47 RX5 yX5_cellCount wsX5_cellCount) := goodIn_app (goodIn_of _ (by decide +kernel)) ggX5_takeOver_X5_cellCount
set_option maxRecDepth 20000 in
theorem ggX5_takeOver_X5_jugglerOf : GoodIn wsX5_takeOver wsX5_jugglerOf := goodIn_r _ [28, 9, 45, 46, 47, 48] (by decide +kernel) (by decide +kernel)
set_option maxRecDepth 20000 in
theorem gX5_takeOver_X5_jugglerOf : GoodIn wsX5_takeOver (wsV RX5 87 RX5 yX5_jugglerOf wsX5_jugglerOf) := goodIn_app (goodIn_of _ (by decide +kernel)) ggX5_takeOver_X5_jugglerOf
set_option maxRecDepth 20000 in
theorem ggX5_takeOver_X5_target : GoodIn wsX5_takeOver wsX5_target := goodIn_r _ [32, 8, 45, 46, 47, 48] (by decide +kernel) (by decide +kernel)
set_option maxRecDepth 20000 in
theorem gX5_takeOver_X5_target : GoodIn wsX5_takeOver (wsV RX5 44 RX5 yX5_target wsX5_target) := goodIn_app (goodIn_of _ (by decide +kernel)) ggX5_takeOver_X5_target
set_option maxRecDepth 20000 in
theorem ggX5_takeOver_X5_beatOf : GoodIn wsX5_takeOver wsX5_beatOf := goodIn_r _ [36, 9, 45, 46, 47, 48] (by decide +kernel) (by decide +kernel)
set_option maxRecDepth 20000 in
theorem gX5_takeOver_X5_beatOf : GoodIn wsX5_takeOver (wsV RX5 34 RX5 yX5_beatOf wsX5_beatOf) := goodIn_app (goodIn_of _ (by decide +kernel)) ggX5_takeOver_X5_beatOf
set_option maxRecDepth 20000 in
theorem ggX5_takeOver_X5_height : GoodIn wsX5_takeOver wsX5_height := goodIn_r _ [40, 8, 45, 46, 47, 48] (by decide +kernel) (by decide +kernel)
set_option maxRecDepth 20000 in
theorem gX5_takeOver_X5_height : GoodIn wsX5_takeOver (wsV RX5 38 RX5 yX5_height wsX5_height) := goodIn_app (goodIn_of _ (by decide +kernel)) ggX5_takeOver_X5_height
set_option maxRecDepth 20000 in
theorem ggX5_takeOver_X5_put : GoodIn wsX5_takeOver wsX5_put := goodIn_r _ [44, 9, 8, 45, 46, 47, 48] (by decide +kernel) (by decide +kernel)
set_option maxRecDepth 20000 in
theorem gX5_takeOver_X5_put : GoodIn wsX5_takeOver (wsV RX5 90 RX5 yX5_put wsX5_put) := goodIn_app (goodIn_of _ (by decide +kernel)) ggX5_takeOver_X5_put
set_option maxRecDepth 20000 in
theorem ggX5_takeDual_X5_isPlain : GoodIn wsX5_takeDual wsX5_isPlain := goodIn_r _ [6, 7, 1, 8, 9, 41, 42, 43, 44] (by decide +kernel) (by decide +kernel)
set_option maxRecDepth 20000 in
theorem gX5_takeDual_X5_isPlain : GoodIn wsX5_takeDual (wsV RX5 94 RX5 yX5_isPlain wsX5_isPlain) := goodIn_app (goodIn_of _ (by decide +kernel)) ggX5_takeDual_X5_isPlain
set_option maxRecDepth 20000 in
theorem ggX5_takeDual_X5_reset : GoodIn wsX5_takeDual wsX5_reset := goodIn_r _ [13, 8, 9, 14, 15, 16, 17, 18, 19, 20, 1, 21, 22, 23, 24, 41, 42, 43, 44] (by decide +kernel) (by decide +kernel)
set_option maxRecDepth 20000 in
theorem gX5_takeDual_X5_reset : GoodIn wsX5_takeDual (wsV RX5 83 RX5 yX5_reset wsX5_reset) := goodIn_app (goodIn_of _ (by decide +kernel)) ggX5_takeDual_X5_reset
set_option maxRecDepth 20000 in
theorem ggX5_takeDual_X5_beatInRound : GoodIn wsX5_takeDual wsX5_beatInRound := goodIn_r _ [28, 1, 29, 30, 31, 32, 41, 42, 43, 44] (by decide +kernel) (by decide +kernel)
set_option maxRecDepth 20000 in
theorem gX5_takeDual_X5_beatInRound : GoodIn wsX5_takeDual (wsV RX5 41 RX5 yX5_beatInRound wsX5_beatInRound) := goodIn_app (goodIn_of _ (by decide +kernel)) ggX5_takeDual_X5_beatInRound
set_option maxRecDepth 20000 in
theorem ggX5_takeDual_X5_height : GoodIn wsX5_takeDual wsX5_height := goodIn_r _ [36, 8, 41, 42, 43, 44] (by decide +kernel) (by decide +kernel)
set_option maxRecDepth 20000 in
theorem gX5_takeDual_X5_height : GoodIn wsX5_takeDual (wsV RX5 38 RX5 yX5_height wsX5_height) := goodIn_app (goodIn_of _ (by decide +kernel)) ggX5_takeDual_X5_height
set_option maxRecDepth 20000 in
theorem ggX5_takeDual_X5_put : GoodIn wsX5_takeDual wsX5_put := goodIn_r _ [40, 9, 8, 41, 42, 43, 44] (by decide +kernel) (by decide +kernel)
set_option maxRecDepth 20000 in
theorem gX5_takeDual_X5_put : GoodIn wsX5_takeDual (wsV RX5 90 RX5 yX5_put wsX5_put) := goodIn_app (goodIn_of _ (by decide +kernel)) ggX5_takeDual_X5_put
set_option maxRecDepth 20000 in
theorem ggX5_takeTurned_X5_beatInRound : GoodIn wsX5_takeTurned wsX5_beatInRound := goodIn_r _ [6, 1, 7, 8, 9, 10, 21, 22, 23, 24] (by decide +kernel) (by decide +kernel)
set_option maxRecDepth 20000 in
theorem gX5_takeTurned_X5_beatInRound : GoodIn wsX5_takeTurned (wsV RX5 41 RX5 yX5_beatInRound wsX5_beatInRound) := goodIn_app (goodIn_of _ (by decide +kernel)) ggX5_takeTurned_X5_beatInRound
set_option maxRecDepth 20000 in
theorem ggX5_takeTurned_X5_append : GoodIn wsX5_takeTurned wsX5_append := goodIn_r _ [14, 1, 15, 16, 17, 18, 19, 20, 21, 22, 23, 24] (by decide +kernel) (by decide +kernel)
set_option maxRecDepth 20000 in
theorem gX5_takeTurned_X5_append : GoodIn wsX5_takeTurned (wsV RX5 72 RX5 yX5_append wsX5_append) := goodIn_app (goodIn_of _ (by decide +kernel)) ggX5_takeTurned_X5_append
set_option maxRecDepth 100000 in
set_option maxHeartbeats 4000000 in
theorem t_J9_floorMod_7cf53 (l : Launch) (D : va_G) (cI cR cM : ClassId) (sz : Nat) {x y : Int32}  (hy : 0 < y.toInt) : Met l yJ9_floorMod_7cf53 wsJ9_floorMod_7cf53 ({ frames := 0, cells := 0, slots := 0, locals := 0 }) (P0 D cI cR cM [.int x, .int y] sz []) (QP (fun r => (0 ≤ r.toInt ∧ r.toInt < y.toInt)) sz) 0 0 (va_A [] sz) := by
  refine goF (cc := cJ9_floorMod_7cf53) (maxL := 3) (ret := (some .int)) (by decide +kernel) rfl (Nat.le_of_ble_eq_true rfl) ?_
  intro p e s m below meth c ls args Q hQ hsz hx hb hr hml hts hown hlocks hnm hP hK hD hl
  subst hsz
  have hS : va_S (va_A [] s.heap.size) s.heap s.heap [] := va_S.rf
  have hA : ∀ q, s.heap.size ≤ q → va_A [] s.heap.size q := fun q h => Or.inr h
  have hl : lv_has ls 3 [(0, .int x), (1, .int y)] := hl
  have hy2 := i_lt y
  refine lv_iload_n hx hb dJ9_floorMod_7cf53_0 rfl (lv_at hl 0 rfl) ?_
  refine lv_iload_n hx hb dJ9_floorMod_7cf53_1 rfl (lv_at hl 1 rfl) ?_
  refine a_iremS (u := x.toInt) (v := y.toInt) hx hb dJ9_floorMod_7cf53_2 (rfl) (rfl) (by omega) (fun z_1 e_1 h_1 k_1 => ?_)
  obtain ⟨t1_1, t2_1⟩ := tm_sign x.toInt (v := y.toInt) (by omega)
  rw [← e_1] at t1_1 t2_1
  refine lv_istore_n (lv' := [(2, .int z_1), (0, .int x), (1, .int y)]) hx hb dJ9_floorMod_7cf53_3 rfl hl (by decide) rfl (fun ls hl => ?_)
  refine lv_iload_n hx hb dJ9_floorMod_7cf53_4 rfl (lv_at hl 1 rfl) ?_
  refine lv_iload_n hx hb dJ9_floorMod_7cf53_5 rfl (lv_at hl 2 rfl) ?_
  refine lv_ixor hx hb dJ9_floorMod_7cf53_6 ?_
  refine lv_topi (fun z_2 q_2 => ?_)
  have ex : (z_2.toInt < 0 ↔ x.toInt < 0) := by rw [q_2]; exact xor_neg hy
  refine a_if_ge (u := z_2.toInt) (tgt := 18) hx hb dJ9_floorMod_7cf53_7 (by decide) (rfl) (fun c_3 => ?_) (fun c_3 => ?_)
  · refine lv_iload_n hx hb dJ9_floorMod_7cf53_18 rfl (lv_at hl 0 rfl) ?_
    exact rp_iret hx hb hr hlocks hS (show 0 ≤ z_1.toInt ∧ z_1.toInt < y.toInt from (by first | assumption | omega)) hQ dJ9_floorMod_7cf53_19
  · refine lv_iload_n hx hb dJ9_floorMod_7cf53_10 rfl (lv_at hl 0 rfl) ?_
    refine a_if_eq (u := z_1.toInt) (tgt := 18) hx hb dJ9_floorMod_7cf53_11 (by decide) (rfl) (fun c_4 => ?_) (fun c_4 => ?_)
    · refine lv_iload_n hx hb dJ9_floorMod_7cf53_18 rfl (lv_at hl 0 rfl) ?_
      exact rp_iret hx hb hr hlocks hS (show 0 ≤ z_1.toInt ∧ z_1.toInt < y.toInt from (by first | assumption | omega)) hQ dJ9_floorMod_7cf53_19
    · refine lv_iload_n hx hb dJ9_floorMod_7cf53_14 rfl (lv_at hl 0 rfl) ?_
      refine lv_iload_n hx hb dJ9_floorMod_7cf53_15 rfl (lv_at hl 2 rfl) ?_
      refine a_iadd (u := z_1.toInt) (v := y.toInt) hx hb dJ9_floorMod_7cf53_16 (rfl) (rfl) (by omega) (fun z_5 e_5 => ?_)
      exact rp_iret hx hb hr hlocks hS (show 0 ≤ z_5.toInt ∧ z_5.toInt < y.toInt from (by first | assumption | omega)) hQ dJ9_floorMod_7cf53_17
set_option maxRecDepth 100000 in
set_option maxHeartbeats 4000000 in
theorem t_X5_cellCount (l : Launch) (D : va_G) (cI cR cM : ClassId) (sz : Nat) {jn : Nat} {g : Nat → Nat} {L : List Nat} {S : Sg} {f : Nat → va_E} {b b_p b_n : Nat} {b_l : Int32} {b_c : Nat → Int32}  (hj : 1 ≤ jn ∧ jn ≤ 3) (hG : SG g L S) (hI : IN jn cI cR cM g L S f) (m_b : b ∈ L) (s_b : S b = (0, b_p, b_n)) (f_b : f b = .inr (5, [.int (nI jn), .int (nI (2 * jn)), .ref b_p, .int b_l])) (f_b_p : f b_p = .inl (cI, b_n, .inl b_c))  : Met l yX5_cellCount wsX5_cellCount ({ frames := 0, cells := 0, slots := 0, locals := 0 }) (P0 D cI cR cM [.ref b] sz (va_pl L f)) (QP (fun r => (r.toInt = b_l.toInt * (2 * (jn : Int)))) sz) 0 0 (va_A [] sz) := by
  refine go (cc := cX5_cellCount) (maxL := 1) (ret := (some .int)) (by decide +kernel) rfl (Nat.le_of_ble_eq_true rfl) ?_
  intro p e s m below meth c ls args Q hQ hsz hx hb hr hml hts hown hlocks hnm hP hK hD hl
  subst hsz
  have hS : va_S (va_A [] s.heap.size) s.heap s.heap [] := va_S.rf
  have hA : ∀ q, s.heap.size ≤ q → va_A [] s.heap.size q := fun q h => Or.inr h
  have hl : lv_has ls 1 [(0, .ref b)] := hl
  obtain ⟨v1_b, v2_b, v3_b, m_b_p, s_b_p⟩ := iv_0 hI m_b s_b f_b
  obtain ⟨w1_b, w2_b, w3_b, w4_b, w5_b⟩ := lenw hj v1_b v2_b v3_b
  have k_b := iv_1 hI m_b_p s_b_p f_b_p
  refine lv_aload_n hx hb dX5_cellCount_0 rfl (lv_at hl 0 rfl) ?_
  refine t_get (D := D) (L := L) (f := f) (ci := 5) (v := .int b_l) (C := RX5) (T := TX5) (N := 4) hx hb hts (by decide +kernel) hown hK.1 hP m_b f_b rfl 3 (by decide) (hts (.fieldLink RX5 28 "JugglingHall$Row" "length" "I") (by decide +kernel)) (fun _ h9 => h9) rfl dX5_cellCount_1 ?_
  refine lv_aload_n hx hb dX5_cellCount_4 rfl (lv_at hl 0 rfl) ?_
  refine t_get (D := D) (L := L) (f := f) (ci := 5) (v := .int (nI (2 * jn))) (C := RX5) (T := TX5) (N := 4) hx hb hts (by decide +kernel) hown hK.1 hP m_b f_b rfl 1 (by decide) (hts (.fieldLink RX5 21 "JugglingHall$Row" "width" "I") (by decide +kernel)) (fun _ h9 => h9) rfl dX5_cellCount_5 ?_
  refine a_imul (u := b_l.toInt) (v := (2 * (jn : Int))) hx hb dX5_cellCount_8 (rfl) (w2 hj) (by omega) (fun z_1 e_1 => ?_)
  exact rp_iret hx hb hr hlocks hS (show z_1.toInt = b_l.toInt * (2 * (jn : Int)) from (by first | assumption | omega)) hQ dX5_cellCount_9
set_option maxRecDepth 100000 in
set_option maxHeartbeats 4000000 in
theorem t_X5_cellAt (l : Launch) (D : va_G) (cI cR cM : ClassId) (sz : Nat) {jn : Nat} {g : Nat → Nat} {L : List Nat} {S : Sg} {f : Nat → va_E} {b b_p b_n : Nat} {b_l : Int32} {b_c : Nat → Int32} {x y k : Int32}  (hj : 1 ≤ jn ∧ jn ≤ 3) (hG : SG g L S) (hI : IN jn cI cR cM g L S f) (m_b : b ∈ L) (s_b : S b = (0, b_p, b_n)) (f_b : f b = .inr (5, [.int (nI jn), .int (nI (2 * jn)), .ref b_p, .int b_l])) (f_b_p : f b_p = .inl (cI, b_n, .inl b_c))  : Met l yX5_cellAt wsX5_cellAt ({ frames := 0, cells := 0, slots := 0, locals := 0 }) (P0 D cI cR cM [.ref b, .int x, .int y, .int k] sz (va_pl L f)) (QP (fun r => (r.toInt = -1 ∨ (0 ≤ r.toInt ∧ r.toInt < b_l.toInt * (2 * (jn : Int))))) sz) 0 0 (va_A [] sz) := by
  refine go (cc := cX5_cellAt) (maxL := 4) (ret := (some .int)) (by decide +kernel) rfl (Nat.le_of_ble_eq_true rfl) ?_
  intro p e s m below meth c ls args Q hQ hsz hx hb hr hml hts hown hlocks hnm hP hK hD hl
  subst hsz
  have hS : va_S (va_A [] s.heap.size) s.heap s.heap [] := va_S.rf
  have hA : ∀ q, s.heap.size ≤ q → va_A [] s.heap.size q := fun q h => Or.inr h
  have hl : lv_has ls 4 [(0, .ref b), (1, .int x), (2, .int y), (3, .int k)] := hl
  obtain ⟨v1_b, v2_b, v3_b, m_b_p, s_b_p⟩ := iv_0 hI m_b s_b f_b
  obtain ⟨w1_b, w2_b, w3_b, w4_b, w5_b⟩ := lenw hj v1_b v2_b v3_b
  have k_b := iv_1 hI m_b_p s_b_p f_b_p
  refine lv_iload_n hx hb dX5_cellAt_0 rfl (lv_at hl 1 rfl) ?_
  refine a_if_lt (u := x.toInt) (tgt := 33) hx hb dX5_cellAt_1 (by decide) (rfl) (fun c_1 => ?_) (fun c_1 => ?_)
  · refine lv_iconst (v := (-1)) hx hb dX5_cellAt_33 (by decide) ?_
    have hz_2 : (-1 : Int32).toInt = (-1) := by decide
    exact rp_iret hx hb hr hlocks hS (show (-1 : Int32).toInt = -1 ∨ (0 ≤ (-1 : Int32).toInt ∧ (-1 : Int32).toInt < b_l.toInt * (2 * (jn : Int))) from (by first | assumption | omega | (rcases j3 hj with h9 | h9 | h9 <;> subst h9 <;> omega))) hQ dX5_cellAt_34
  · refine lv_iload_n hx hb dX5_cellAt_4 rfl (lv_at hl 1 rfl) ?_
    refine lv_aload_n hx hb dX5_cellAt_5 rfl (lv_at hl 0 rfl) ?_
    refine t_get (D := D) (L := L) (f := f) (ci := 5) (v := .int b_l) (C := RX5) (T := TX5) (N := 4) hx hb hts (by decide +kernel) hown hK.1 hP m_b f_b rfl 3 (by decide) (hts (.fieldLink RX5 28 "JugglingHall$Row" "length" "I") (by decide +kernel)) (fun _ h9 => h9) rfl dX5_cellAt_6 ?_
    refine a_icmp_ge (u := x.toInt) (v := b_l.toInt) (tgt := 33) hx hb dX5_cellAt_9 (by decide) (rfl) (rfl) (fun c_3 => ?_) (fun c_3 => ?_)
    · refine lv_iconst (v := (-1)) hx hb dX5_cellAt_33 (by decide) ?_
      have hz_4 : (-1 : Int32).toInt = (-1) := by decide
      exact rp_iret hx hb hr hlocks hS (show (-1 : Int32).toInt = -1 ∨ (0 ≤ (-1 : Int32).toInt ∧ (-1 : Int32).toInt < b_l.toInt * (2 * (jn : Int))) from (by first | assumption | omega | (rcases j3 hj with h9 | h9 | h9 <;> subst h9 <;> omega))) hQ dX5_cellAt_34
    · refine lv_iload_n hx hb dX5_cellAt_12 rfl (lv_at hl 2 rfl) ?_
      refine a_if_lt (u := y.toInt) (tgt := 33) hx hb dX5_cellAt_13 (by decide) (rfl) (fun c_5 => ?_) (fun c_5 => ?_)
      · refine lv_iconst (v := (-1)) hx hb dX5_cellAt_33 (by decide) ?_
        have hz_6 : (-1 : Int32).toInt = (-1) := by decide
        exact rp_iret hx hb hr hlocks hS (show (-1 : Int32).toInt = -1 ∨ (0 ≤ (-1 : Int32).toInt ∧ (-1 : Int32).toInt < b_l.toInt * (2 * (jn : Int))) from (by first | assumption | omega | (rcases j3 hj with h9 | h9 | h9 <;> subst h9 <;> omega))) hQ dX5_cellAt_34
      · refine lv_iload_n hx hb dX5_cellAt_16 rfl (lv_at hl 2 rfl) ?_
        refine lv_aload_n hx hb dX5_cellAt_17 rfl (lv_at hl 0 rfl) ?_
        refine t_get (D := D) (L := L) (f := f) (ci := 5) (v := .int (nI jn)) (C := RX5) (T := TX5) (N := 4) hx hb hts (by decide +kernel) hown hK.1 hP m_b f_b rfl 0 (by decide) (hts (.fieldLink RX5 15 "JugglingHall$Row" "jugglers" "I") (by decide +kernel)) (fun _ h9 => h9) rfl dX5_cellAt_18 ?_
        refine a_icmp_ge (u := y.toInt) (v := (jn : Int)) (tgt := 33) hx hb dX5_cellAt_21 (by decide) (rfl) (nI_toInt (by rcases j3 hj with h9 | h9 | h9 <;> subst h9 <;> omega)) (fun c_7 => ?_) (fun c_7 => ?_)
        · refine lv_iconst (v := (-1)) hx hb dX5_cellAt_33 (by decide) ?_
          have hz_8 : (-1 : Int32).toInt = (-1) := by decide
          exact rp_iret hx hb hr hlocks hS (show (-1 : Int32).toInt = -1 ∨ (0 ≤ (-1 : Int32).toInt ∧ (-1 : Int32).toInt < b_l.toInt * (2 * (jn : Int))) from (by first | assumption | omega | (rcases j3 hj with h9 | h9 | h9 <;> subst h9 <;> omega))) hQ dX5_cellAt_34
        · refine lv_iload_n hx hb dX5_cellAt_24 rfl (lv_at hl 3 rfl) ?_
          refine a_if_lt (u := k.toInt) (tgt := 33) hx hb dX5_cellAt_25 (by decide) (rfl) (fun c_9 => ?_) (fun c_9 => ?_)
          · refine lv_iconst (v := (-1)) hx hb dX5_cellAt_33 (by decide) ?_
            have hz_10 : (-1 : Int32).toInt = (-1) := by decide
            exact rp_iret hx hb hr hlocks hS (show (-1 : Int32).toInt = -1 ∨ (0 ≤ (-1 : Int32).toInt ∧ (-1 : Int32).toInt < b_l.toInt * (2 * (jn : Int))) from (by first | assumption | omega | (rcases j3 hj with h9 | h9 | h9 <;> subst h9 <;> omega))) hQ dX5_cellAt_34
          · refine lv_iload_n hx hb dX5_cellAt_28 rfl (lv_at hl 3 rfl) ?_
            refine lv_iconst (v := 2) hx hb dX5_cellAt_29 (by decide) ?_
            refine a_icmp_lt (u := k.toInt) (v := 2) (tgt := 35) hx hb dX5_cellAt_30 (by decide) (rfl) (by decide) (fun c_11 => ?_) (fun c_11 => ?_)
            · refine lv_iload_n hx hb dX5_cellAt_35 rfl (lv_at hl 1 rfl) ?_
              refine lv_aload_n hx hb dX5_cellAt_36 rfl (lv_at hl 0 rfl) ?_
              refine t_get (D := D) (L := L) (f := f) (ci := 5) (v := .int (nI (2 * jn))) (C := RX5) (T := TX5) (N := 4) hx hb hts (by decide +kernel) hown hK.1 hP m_b f_b rfl 1 (by decide) (hts (.fieldLink RX5 21 "JugglingHall$Row" "width" "I") (by decide +kernel)) (fun _ h9 => h9) rfl dX5_cellAt_37 ?_
              refine a_imul (u := x.toInt) (v := (2 * (jn : Int))) hx hb dX5_cellAt_40 (rfl) (w2 hj) (by rcases j3 hj with h9 | h9 | h9 <;> subst h9 <;> omega) (fun z_12 e_12 => ?_)
              refine lv_iload_n hx hb dX5_cellAt_41 rfl (lv_at hl 2 rfl) ?_
              refine lv_iconst (v := 2) hx hb dX5_cellAt_42 (by decide) ?_
              refine a_imul (u := y.toInt) (v := 2) hx hb dX5_cellAt_43 (rfl) (by decide) (by rcases j3 hj with h9 | h9 | h9 <;> subst h9 <;> omega) (fun z_13 e_13 => ?_)
              refine a_iadd (u := (x.toInt * (2 * (jn : Int)))) (v := (y.toInt * 2)) hx hb dX5_cellAt_44 (e_12) (e_13) (by rcases j3 hj with h9 | h9 | h9 <;> subst h9 <;> omega) (fun z_14 e_14 => ?_)
              refine lv_iload_n hx hb dX5_cellAt_45 rfl (lv_at hl 3 rfl) ?_
              refine a_iadd (u := ((x.toInt * (2 * (jn : Int))) + (y.toInt * 2))) (v := k.toInt) hx hb dX5_cellAt_46 (e_14) (rfl) (by rcases j3 hj with h9 | h9 | h9 <;> subst h9 <;> omega) (fun z_15 e_15 => ?_)
              exact rp_iret hx hb hr hlocks hS (show z_15.toInt = -1 ∨ (0 ≤ z_15.toInt ∧ z_15.toInt < b_l.toInt * (2 * (jn : Int))) from (by first | assumption | omega | (rcases j3 hj with h9 | h9 | h9 <;> subst h9 <;> omega))) hQ dX5_cellAt_47
            · refine lv_iconst (v := (-1)) hx hb dX5_cellAt_33 (by decide) ?_
              have hz_16 : (-1 : Int32).toInt = (-1) := by decide
              exact rp_iret hx hb hr hlocks hS (show (-1 : Int32).toInt = -1 ∨ (0 ≤ (-1 : Int32).toInt ∧ (-1 : Int32).toInt < b_l.toInt * (2 * (jn : Int))) from (by first | assumption | omega | (rcases j3 hj with h9 | h9 | h9 <;> subst h9 <;> omega))) hQ dX5_cellAt_34
set_option maxRecDepth 100000 in
set_option maxHeartbeats 4000000 in
theorem t_X5_code (l : Launch) (D : va_G) (cI cR cM : ClassId) (sz : Nat) {jn : Nat} {g : Nat → Nat} {L : List Nat} {S : Sg} {f : Nat → va_E} {b b_p b_n : Nat} {b_l : Int32} {b_c : Nat → Int32} {x : Int32}  (hj : 1 ≤ jn ∧ jn ≤ 3) (hG : SG g L S) (hI : IN jn cI cR cM g L S f) (m_b : b ∈ L) (s_b : S b = (0, b_p, b_n)) (f_b : f b = .inr (5, [.int (nI jn), .int (nI (2 * jn)), .ref b_p, .int b_l])) (f_b_p : f b_p = .inl (cI, b_n, .inl b_c))  : Met l yX5_code wsX5_code ({ frames := 0, cells := 0, slots := 0, locals := 0 }) (P0 D cI cR cM [.ref b, .int x] sz (va_pl L f)) (QP (fun r => (0 ≤ r.toInt ∧ r.toInt < 40)) sz) 0 0 (va_A [] sz) := by
  refine go (cc := cX5_code) (maxL := 2) (ret := (some .int)) (by decide +kernel) rfl (Nat.le_of_ble_eq_true rfl) ?_
  intro p e s m below meth c ls args Q hQ hsz hx hb hr hml hts hown hlocks hnm hP hK hD hl
  subst hsz
  have hS : va_S (va_A [] s.heap.size) s.heap s.heap [] := va_S.rf
  have hA : ∀ q, s.heap.size ≤ q → va_A [] s.heap.size q := fun q h => Or.inr h
  have hl : lv_has ls 2 [(0, .ref b), (1, .int x)] := hl
  obtain ⟨v1_b, v2_b, v3_b, m_b_p, s_b_p⟩ := iv_0 hI m_b s_b f_b
  obtain ⟨w1_b, w2_b, w3_b, w4_b, w5_b⟩ := lenw hj v1_b v2_b v3_b
  have k_b := iv_1 hI m_b_p s_b_p f_b_p
  refine lv_iload_n hx hb dX5_code_0 rfl (lv_at hl 1 rfl) ?_
  refine a_if_lt (u := x.toInt) (tgt := 13) hx hb dX5_code_1 (by decide) (rfl) (fun c_1 => ?_) (fun c_1 => ?_)
  · refine lv_iconst (v := 0) hx hb dX5_code_13 (by decide) ?_
    refine lv_goto (tgt := 23) hx hb dX5_code_14 (by decide) ?_
    have hz_2 : (0 : Int32).toInt = 0 := by decide
    exact rp_iret hx hb hr hlocks hS (show 0 ≤ (0 : Int32).toInt ∧ (0 : Int32).toInt < 40 from (by first | assumption | omega)) hQ dX5_code_23
  · refine lv_iload_n hx hb dX5_code_4 rfl (lv_at hl 1 rfl) ?_
    refine lv_aload_n hx hb dX5_code_5 rfl (lv_at hl 0 rfl) ?_
    refine t_get (D := D) (L := L) (f := f) (ci := 5) (v := .ref b_p) (C := RX5) (T := TX5) (N := 4) hx hb hts (by decide +kernel) hown hK.1 hP m_b f_b rfl 2 (by decide) (hts (.fieldLink RX5 24 "JugglingHall$Row" "cells" "[I") (by decide +kernel)) (fun _ h9 => h9) rfl dX5_code_6 ?_
    refine t_alen (L := L) (f := f) (v := nI b_n) hx hb hK.1 hP m_b_p 0 f_b_p rfl rfl dX5_code_9 ?_
    refine a_icmp_lt (u := x.toInt) (v := (b_n : Int)) (tgt := 17) hx hb dX5_code_10 (by decide) (rfl) (nI_toInt (by omega)) (fun c_3 => ?_) (fun c_3 => ?_)
    · refine lv_aload_n hx hb dX5_code_17 rfl (lv_at hl 0 rfl) ?_
      refine t_get (D := D) (L := L) (f := f) (ci := 5) (v := .ref b_p) (C := RX5) (T := TX5) (N := 4) hx hb hts (by decide +kernel) hown hK.1 hP m_b f_b rfl 2 (by decide) (hts (.fieldLink RX5 24 "JugglingHall$Row" "cells" "[I") (by decide +kernel)) (fun _ h9 => h9) rfl dX5_code_18 ?_
      refine lv_iload_n hx hb dX5_code_21 rfl (lv_at hl 1 rfl) ?_
      refine t_iald (L := L) (f := f) (y := b_c) (u := x.toInt) hx hb hK.1 hP m_b_p 0 f_b_p rfl dX5_code_22 (rfl) (by omega) (fun z_4 q_4 e_4 => ?_)
      obtain ⟨a1_4, a2_4, a3_4⟩ := at_c k_b (i := x.toInt) (by omega) q_4
      exact rp_iret hx hb hr hlocks hS (show 0 ≤ z_4.toInt ∧ z_4.toInt < 40 from (by first | assumption | omega)) hQ dX5_code_23
    · refine lv_iconst (v := 0) hx hb dX5_code_13 (by decide) ?_
      refine lv_goto (tgt := 23) hx hb dX5_code_14 (by decide) ?_
      have hz_5 : (0 : Int32).toInt = 0 := by decide
      exact rp_iret hx hb hr hlocks hS (show 0 ≤ (0 : Int32).toInt ∧ (0 : Int32).toInt < 40 from (by first | assumption | omega)) hQ dX5_code_23
set_option maxRecDepth 100000 in
set_option maxHeartbeats 4000000 in
theorem t_X5_isThrow (l : Launch) (D : va_G) (cI cR cM : ClassId) (sz : Nat) {jn : Nat} {g : Nat → Nat} {L : List Nat} {S : Sg} {f : Nat → va_E} {b b_p b_n : Nat} {b_l : Int32} {b_c : Nat → Int32} {x : Int32}  (hj : 1 ≤ jn ∧ jn ≤ 3) (hG : SG g L S) (hI : IN jn cI cR cM g L S f) (m_b : b ∈ L) (s_b : S b = (0, b_p, b_n)) (f_b : f b = .inr (5, [.int (nI jn), .int (nI (2 * jn)), .ref b_p, .int b_l])) (f_b_p : f b_p = .inl (cI, b_n, .inl b_c))  : Met l yX5_isThrow wsX5_isThrow ({ frames := 0, cells := 0, slots := 0, locals := 0 }) (P0 D cI cR cM [.ref b, .int x] sz (va_pl L f)) (QP (fun r => (r.toInt = 1 → 0 ≤ x.toInt ∧ x.toInt < (b_n : Int) ∧ (b_c x.toInt.toNat).toInt ≠ 0) ∧ (r.toInt = 0 ∨ r.toInt = 1)) sz) 0 0 (va_A [] sz) := by
  refine go (cc := cX5_isThrow) (maxL := 2) (ret := (some .boolean)) (by decide +kernel) rfl (Nat.le_of_ble_eq_true rfl) ?_
  intro p e s m below meth c ls args Q hQ hsz hx hb hr hml hts hown hlocks hnm hP hK hD hl
  subst hsz
  have hS : va_S (va_A [] s.heap.size) s.heap s.heap [] := va_S.rf
  have hA : ∀ q, s.heap.size ≤ q → va_A [] s.heap.size q := fun q h => Or.inr h
  have hl : lv_has ls 2 [(0, .ref b), (1, .int x)] := hl
  obtain ⟨v1_b, v2_b, v3_b, m_b_p, s_b_p⟩ := iv_0 hI m_b s_b f_b
  obtain ⟨w1_b, w2_b, w3_b, w4_b, w5_b⟩ := lenw hj v1_b v2_b v3_b
  have k_b := iv_1 hI m_b_p s_b_p f_b_p
  refine lv_iload_n hx hb dX5_isThrow_0 rfl (lv_at hl 1 rfl) ?_
  refine a_if_lt (u := x.toInt) (tgt := 26) hx hb dX5_isThrow_1 (by decide) (rfl) (fun c_1 => ?_) (fun c_1 => ?_)
  · refine lv_iconst (v := 0) hx hb dX5_isThrow_26 (by decide) ?_
    have hz_2 : (0 : Int32).toInt = 0 := by decide
    exact rp_zret hx hb hr hlocks hS (by first | exact Or.inl rfl | exact Or.inr rfl) (⟨show (0 : Int32).toInt = 1 → 0 ≤ x.toInt ∧ x.toInt < (b_n : Int) ∧ (b_c x.toInt.toNat).toInt ≠ 0 from (by first | assumption | omega), show (0 : Int32).toInt = 0 ∨ (0 : Int32).toInt = 1 from (by first | assumption | omega)⟩) hQ dX5_isThrow_27
  · refine lv_iload_n hx hb dX5_isThrow_4 rfl (lv_at hl 1 rfl) ?_
    refine lv_aload_n hx hb dX5_isThrow_5 rfl (lv_at hl 0 rfl) ?_
    refine t_get (D := D) (L := L) (f := f) (ci := 5) (v := .ref b_p) (C := RX5) (T := TX5) (N := 4) hx hb hts (by decide +kernel) hown hK.1 hP m_b f_b rfl 2 (by decide) (hts (.fieldLink RX5 24 "JugglingHall$Row" "cells" "[I") (by decide +kernel)) (fun _ h9 => h9) rfl dX5_isThrow_6 ?_
    refine t_alen (L := L) (f := f) (v := nI b_n) hx hb hK.1 hP m_b_p 0 f_b_p rfl rfl dX5_isThrow_9 ?_
    refine a_icmp_ge (u := x.toInt) (v := (b_n : Int)) (tgt := 26) hx hb dX5_isThrow_10 (by decide) (rfl) (nI_toInt (by omega)) (fun c_3 => ?_) (fun c_3 => ?_)
    · refine lv_iconst (v := 0) hx hb dX5_isThrow_26 (by decide) ?_
      have hz_4 : (0 : Int32).toInt = 0 := by decide
      exact rp_zret hx hb hr hlocks hS (by first | exact Or.inl rfl | exact Or.inr rfl) (⟨show (0 : Int32).toInt = 1 → 0 ≤ x.toInt ∧ x.toInt < (b_n : Int) ∧ (b_c x.toInt.toNat).toInt ≠ 0 from (by first | assumption | omega), show (0 : Int32).toInt = 0 ∨ (0 : Int32).toInt = 1 from (by first | assumption | omega)⟩) hQ dX5_isThrow_27
    · refine lv_aload_n hx hb dX5_isThrow_13 rfl (lv_at hl 0 rfl) ?_
      refine t_get (D := D) (L := L) (f := f) (ci := 5) (v := .ref b_p) (C := RX5) (T := TX5) (N := 4) hx hb hts (by decide +kernel) hown hK.1 hP m_b f_b rfl 2 (by decide) (hts (.fieldLink RX5 24 "JugglingHall$Row" "cells" "[I") (by decide +kernel)) (fun _ h9 => h9) rfl dX5_isThrow_14 ?_
      refine lv_iload_n hx hb dX5_isThrow_17 rfl (lv_at hl 1 rfl) ?_
      refine t_iald (L := L) (f := f) (y := b_c) (u := x.toInt) hx hb hK.1 hP m_b_p 0 f_b_p rfl dX5_isThrow_18 (rfl) (by omega) (fun z_5 q_5 e_5 => ?_)
      obtain ⟨a1_5, a2_5, a3_5⟩ := at_c k_b (i := x.toInt) (by omega) q_5
      refine a_if_eq (u := z_5.toInt) (tgt := 26) hx hb dX5_isThrow_19 (by decide) (rfl) (fun c_6 => ?_) (fun c_6 => ?_)
      · refine lv_iconst (v := 0) hx hb dX5_isThrow_26 (by decide) ?_
        have hz_7 : (0 : Int32).toInt = 0 := by decide
        exact rp_zret hx hb hr hlocks hS (by first | exact Or.inl rfl | exact Or.inr rfl) (⟨show (0 : Int32).toInt = 1 → 0 ≤ x.toInt ∧ x.toInt < (b_n : Int) ∧ (b_c x.toInt.toNat).toInt ≠ 0 from (by first | assumption | omega), show (0 : Int32).toInt = 0 ∨ (0 : Int32).toInt = 1 from (by first | assumption | omega)⟩) hQ dX5_isThrow_27
      · refine lv_iconst (v := 1) hx hb dX5_isThrow_22 (by decide) ?_
        refine lv_goto (tgt := 27) hx hb dX5_isThrow_23 (by decide) ?_
        have hz_8 : (1 : Int32).toInt = 1 := by decide
        exact rp_zret hx hb hr hlocks hS (by first | exact Or.inl rfl | exact Or.inr rfl) (⟨show (1 : Int32).toInt = 1 → 0 ≤ x.toInt ∧ x.toInt < (b_n : Int) ∧ (b_c x.toInt.toNat).toInt ≠ 0 from (by first | assumption | omega), show (1 : Int32).toInt = 0 ∨ (1 : Int32).toInt = 1 from (by first | assumption | omega)⟩) hQ dX5_isThrow_27
set_option maxRecDepth 100000 in
set_option maxHeartbeats 4000000 in
theorem t_X5_height (l : Launch) (D : va_G) (cI cR cM : ClassId) (sz : Nat) {jn : Nat} {g : Nat → Nat} {L : List Nat} {S : Sg} {f : Nat → va_E} {b b_p b_n : Nat} {b_l : Int32} {b_c : Nat → Int32} {x : Int32}  (hj : 1 ≤ jn ∧ jn ≤ 3) (hG : SG g L S) (hI : IN jn cI cR cM g L S f) (m_b : b ∈ L) (s_b : S b = (0, b_p, b_n)) (f_b : f b = .inr (5, [.int (nI jn), .int (nI (2 * jn)), .ref b_p, .int b_l])) (f_b_p : f b_p = .inl (cI, b_n, .inl b_c))  : Met l yX5_height wsX5_height ({ frames := 0, cells := 0, slots := 0, locals := 0 }) (P0 D cI cR cM [.ref b, .int x] sz (va_pl L f)) (QP (fun r => (0 ≤ r.toInt ∧ r.toInt ≤ 9)) sz) 0 0 (va_A [] sz) := by
  refine go (cc := cX5_height) (maxL := 2) (ret := (some .int)) (by decide +kernel) rfl (Nat.le_of_ble_eq_true rfl) ?_
  intro p e s m below meth c ls args Q hQ hsz hx hb hr hml hts hown hlocks hnm hP hK hD hl
  subst hsz
  have hS : va_S (va_A [] s.heap.size) s.heap s.heap [] := va_S.rf
  have hA : ∀ q, s.heap.size ≤ q → va_A [] s.heap.size q := fun q h => Or.inr h
  have hl : lv_has ls 2 [(0, .ref b), (1, .int x)] := hl
  obtain ⟨v1_b, v2_b, v3_b, m_b_p, s_b_p⟩ := iv_0 hI m_b s_b f_b
  obtain ⟨w1_b, w2_b, w3_b, w4_b, w5_b⟩ := lenw hj v1_b v2_b v3_b
  have k_b := iv_1 hI m_b_p s_b_p f_b_p
  refine lv_iload_n hx hb dX5_height_0 rfl (lv_at hl 1 rfl) ?_
  refine a_if_lt (u := x.toInt) (tgt := 13) hx hb dX5_height_1 (by decide) (rfl) (fun c_1 => ?_) (fun c_1 => ?_)
  · refine lv_iconst (v := 0) hx hb dX5_height_13 (by decide) ?_
    refine lv_goto (tgt := 25) hx hb dX5_height_14 (by decide) ?_
    have hz_2 : (0 : Int32).toInt = 0 := by decide
    exact rp_iret hx hb hr hlocks hS (show 0 ≤ (0 : Int32).toInt ∧ (0 : Int32).toInt ≤ 9 from (by first | assumption | omega)) hQ dX5_height_25
  · refine lv_iload_n hx hb dX5_height_4 rfl (lv_at hl 1 rfl) ?_
    refine lv_aload_n hx hb dX5_height_5 rfl (lv_at hl 0 rfl) ?_
    refine t_get (D := D) (L := L) (f := f) (ci := 5) (v := .ref b_p) (C := RX5) (T := TX5) (N := 4) hx hb hts (by decide +kernel) hown hK.1 hP m_b f_b rfl 2 (by decide) (hts (.fieldLink RX5 24 "JugglingHall$Row" "cells" "[I") (by decide +kernel)) (fun _ h9 => h9) rfl dX5_height_6 ?_
    refine t_alen (L := L) (f := f) (v := nI b_n) hx hb hK.1 hP m_b_p 0 f_b_p rfl rfl dX5_height_9 ?_
    refine a_icmp_lt (u := x.toInt) (v := (b_n : Int)) (tgt := 17) hx hb dX5_height_10 (by decide) (rfl) (nI_toInt (by omega)) (fun c_3 => ?_) (fun c_3 => ?_)
    · refine lv_aload_n hx hb dX5_height_17 rfl (lv_at hl 0 rfl) ?_
      refine t_get (D := D) (L := L) (f := f) (ci := 5) (v := .ref b_p) (C := RX5) (T := TX5) (N := 4) hx hb hts (by decide +kernel) hown hK.1 hP m_b f_b rfl 2 (by decide) (hts (.fieldLink RX5 24 "JugglingHall$Row" "cells" "[I") (by decide +kernel)) (fun _ h9 => h9) rfl dX5_height_18 ?_
      refine lv_iload_n hx hb dX5_height_21 rfl (lv_at hl 1 rfl) ?_
      refine t_iald (L := L) (f := f) (y := b_c) (u := x.toInt) hx hb hK.1 hP m_b_p 0 f_b_p rfl dX5_height_22 (rfl) (by omega) (fun z_4 q_4 e_4 => ?_)
      obtain ⟨a1_4, a2_4, a3_4⟩ := at_c k_b (i := x.toInt) (by omega) q_4
      refine lv_iconst (v := 2) hx hb dX5_height_23 (by decide) ?_
      refine lv_ishr hx hb dX5_height_24 ?_
      refine lv_topi (fun z_5 q_5 => ?_)
      have e_5 : z_5.toInt = z_4.toInt / 4 := by rw [q_5]; exact shr2 (by omega)
      exact rp_iret hx hb hr hlocks hS (show 0 ≤ z_5.toInt ∧ z_5.toInt ≤ 9 from (by first | assumption | omega)) hQ dX5_height_25
    · refine lv_iconst (v := 0) hx hb dX5_height_13 (by decide) ?_
      refine lv_goto (tgt := 25) hx hb dX5_height_14 (by decide) ?_
      have hz_6 : (0 : Int32).toInt = 0 := by decide
      exact rp_iret hx hb hr hlocks hS (show 0 ≤ (0 : Int32).toInt ∧ (0 : Int32).toInt ≤ 9 from (by first | assumption | omega)) hQ dX5_height_25
set_option maxRecDepth 100000 in
set_option maxHeartbeats 4000000 in
theorem t_X5_target (l : Launch) (D : va_G) (cI cR cM : ClassId) (sz : Nat) {jn : Nat} {g : Nat → Nat} {L : List Nat} {S : Sg} {f : Nat → va_E} {b b_p b_n : Nat} {b_l : Int32} {b_c : Nat → Int32} {x : Int32}  (hj : 1 ≤ jn ∧ jn ≤ 3) (hG : SG g L S) (hI : IN jn cI cR cM g L S f) (m_b : b ∈ L) (s_b : S b = (0, b_p, b_n)) (f_b : f b = .inr (5, [.int (nI jn), .int (nI (2 * jn)), .ref b_p, .int b_l])) (f_b_p : f b_p = .inl (cI, b_n, .inl b_c))  : Met l yX5_target wsX5_target ({ frames := 0, cells := 0, slots := 0, locals := 0 }) (P0 D cI cR cM [.ref b, .int x] sz (va_pl L f)) (QP (fun r => (0 ≤ r.toInt ∧ r.toInt ≤ 3) ∧ (0 ≤ x.toInt ∧ x.toInt < (b_n : Int) ∧ (b_c x.toInt.toNat).toInt ≠ 0 → r.toInt < (jn : Int))) sz) 0 0 (va_A [] sz) := by
  refine go (cc := cX5_target) (maxL := 2) (ret := (some .int)) (by decide +kernel) rfl (Nat.le_of_ble_eq_true rfl) ?_
  intro p e s m below meth c ls args Q hQ hsz hx hb hr hml hts hown hlocks hnm hP hK hD hl
  subst hsz
  have hS : va_S (va_A [] s.heap.size) s.heap s.heap [] := va_S.rf
  have hA : ∀ q, s.heap.size ≤ q → va_A [] s.heap.size q := fun q h => Or.inr h
  have hl : lv_has ls 2 [(0, .ref b), (1, .int x)] := hl
  obtain ⟨v1_b, v2_b, v3_b, m_b_p, s_b_p⟩ := iv_0 hI m_b s_b f_b
  obtain ⟨w1_b, w2_b, w3_b, w4_b, w5_b⟩ := lenw hj v1_b v2_b v3_b
  have k_b := iv_1 hI m_b_p s_b_p f_b_p
  refine lv_iload_n hx hb dX5_target_0 rfl (lv_at hl 1 rfl) ?_
  refine a_if_lt (u := x.toInt) (tgt := 13) hx hb dX5_target_1 (by decide) (rfl) (fun c_1 => ?_) (fun c_1 => ?_)
  · refine lv_iconst (v := 0) hx hb dX5_target_13 (by decide) ?_
    refine lv_goto (tgt := 27) hx hb dX5_target_14 (by decide) ?_
    have hz_2 : (0 : Int32).toInt = 0 := by decide
    exact rp_iret hx hb hr hlocks hS (⟨show 0 ≤ (0 : Int32).toInt ∧ (0 : Int32).toInt ≤ 3 from (by first | assumption | omega), show 0 ≤ x.toInt ∧ x.toInt < (b_n : Int) ∧ (b_c x.toInt.toNat).toInt ≠ 0 → (0 : Int32).toInt < (jn : Int) from (by first | assumption | omega)⟩) hQ dX5_target_27
  · refine lv_iload_n hx hb dX5_target_4 rfl (lv_at hl 1 rfl) ?_
    refine lv_aload_n hx hb dX5_target_5 rfl (lv_at hl 0 rfl) ?_
    refine t_get (D := D) (L := L) (f := f) (ci := 5) (v := .ref b_p) (C := RX5) (T := TX5) (N := 4) hx hb hts (by decide +kernel) hown hK.1 hP m_b f_b rfl 2 (by decide) (hts (.fieldLink RX5 24 "JugglingHall$Row" "cells" "[I") (by decide +kernel)) (fun _ h9 => h9) rfl dX5_target_6 ?_
    refine t_alen (L := L) (f := f) (v := nI b_n) hx hb hK.1 hP m_b_p 0 f_b_p rfl rfl dX5_target_9 ?_
    refine a_icmp_lt (u := x.toInt) (v := (b_n : Int)) (tgt := 17) hx hb dX5_target_10 (by decide) (rfl) (nI_toInt (by omega)) (fun c_3 => ?_) (fun c_3 => ?_)
    · refine lv_iconst (v := 3) hx hb dX5_target_17 (by decide) ?_
      refine lv_aload_n hx hb dX5_target_18 rfl (lv_at hl 0 rfl) ?_
      refine t_get (D := D) (L := L) (f := f) (ci := 5) (v := .ref b_p) (C := RX5) (T := TX5) (N := 4) hx hb hts (by decide +kernel) hown hK.1 hP m_b f_b rfl 2 (by decide) (hts (.fieldLink RX5 24 "JugglingHall$Row" "cells" "[I") (by decide +kernel)) (fun _ h9 => h9) rfl dX5_target_19 ?_
      refine lv_iload_n hx hb dX5_target_22 rfl (lv_at hl 1 rfl) ?_
      refine t_iald (L := L) (f := f) (y := b_c) (u := x.toInt) hx hb hK.1 hP m_b_p 0 f_b_p rfl dX5_target_23 (rfl) (by omega) (fun z_4 q_4 e_4 => ?_)
      obtain ⟨a1_4, a2_4, a3_4⟩ := at_c k_b (i := x.toInt) (by omega) q_4
      refine lv_iconst (v := 3) hx hb dX5_target_24 (by decide) ?_
      refine lv_iand hx hb dX5_target_25 ?_
      refine lv_topi (fun z_5 q_5 => ?_)
      have e_5 : z_5.toInt = z_4.toInt % 4 := by rw [q_5]; exact and3 (by omega)
      refine a_isub (u := 3) (v := z_5.toInt) hx hb dX5_target_26 (by decide) (rfl) (by omega) (fun z_6 e_6 => ?_)
      exact rp_iret hx hb hr hlocks hS (⟨show 0 ≤ z_6.toInt ∧ z_6.toInt ≤ 3 from (by first | assumption | omega), show 0 ≤ x.toInt ∧ x.toInt < (b_n : Int) ∧ (b_c x.toInt.toNat).toInt ≠ 0 → z_6.toInt < (jn : Int) from (by first | assumption | omega)⟩) hQ dX5_target_27
    · refine lv_iconst (v := 0) hx hb dX5_target_13 (by decide) ?_
      refine lv_goto (tgt := 27) hx hb dX5_target_14 (by decide) ?_
      have hz_7 : (0 : Int32).toInt = 0 := by decide
      exact rp_iret hx hb hr hlocks hS (⟨show 0 ≤ (0 : Int32).toInt ∧ (0 : Int32).toInt ≤ 3 from (by first | assumption | omega), show 0 ≤ x.toInt ∧ x.toInt < (b_n : Int) ∧ (b_c x.toInt.toNat).toInt ≠ 0 → (0 : Int32).toInt < (jn : Int) from (by first | assumption | omega)⟩) hQ dX5_target_27
set_option maxRecDepth 100000 in
set_option maxHeartbeats 4000000 in
theorem t_X5_beatOf (l : Launch) (D : va_G) (cI cR cM : ClassId) (sz : Nat) {jn : Nat} {g : Nat → Nat} {L : List Nat} {S : Sg} {f : Nat → va_E} {b b_p b_n : Nat} {b_l : Int32} {b_c : Nat → Int32} {x : Int32}  (hj : 1 ≤ jn ∧ jn ≤ 3) (hG : SG g L S) (hI : IN jn cI cR cM g L S f) (m_b : b ∈ L) (s_b : S b = (0, b_p, b_n)) (f_b : f b = .inr (5, [.int (nI jn), .int (nI (2 * jn)), .ref b_p, .int b_l])) (f_b_p : f b_p = .inl (cI, b_n, .inl b_c))  : Met l yX5_beatOf wsX5_beatOf ({ frames := 0, cells := 0, slots := 0, locals := 0 }) (P0 D cI cR cM [.ref b, .int x] sz (va_pl L f)) (QP (fun r => (0 ≤ x.toInt → 0 ≤ r.toInt ∧ r.toInt ≤ x.toInt)) sz) 0 0 (va_A [] sz) := by
  refine go (cc := cX5_beatOf) (maxL := 2) (ret := (some .int)) (by decide +kernel) rfl (Nat.le_of_ble_eq_true rfl) ?_
  intro p e s m below meth c ls args Q hQ hsz hx hb hr hml hts hown hlocks hnm hP hK hD hl
  subst hsz
  have hS : va_S (va_A [] s.heap.size) s.heap s.heap [] := va_S.rf
  have hA : ∀ q, s.heap.size ≤ q → va_A [] s.heap.size q := fun q h => Or.inr h
  have hl : lv_has ls 2 [(0, .ref b), (1, .int x)] := hl
  obtain ⟨v1_b, v2_b, v3_b, m_b_p, s_b_p⟩ := iv_0 hI m_b s_b f_b
  obtain ⟨w1_b, w2_b, w3_b, w4_b, w5_b⟩ := lenw hj v1_b v2_b v3_b
  have k_b := iv_1 hI m_b_p s_b_p f_b_p
  refine lv_iload_n hx hb dX5_beatOf_0 rfl (lv_at hl 1 rfl) ?_
  refine lv_aload_n hx hb dX5_beatOf_1 rfl (lv_at hl 0 rfl) ?_
  refine t_get (D := D) (L := L) (f := f) (ci := 5) (v := .int (nI (2 * jn))) (C := RX5) (T := TX5) (N := 4) hx hb hts (by decide +kernel) hown hK.1 hP m_b f_b rfl 1 (by decide) (hts (.fieldLink RX5 21 "JugglingHall$Row" "width" "I") (by decide +kernel)) (fun _ h9 => h9) rfl dX5_beatOf_2 ?_
  refine lv_idiv hx hb dX5_beatOf_5 (i_ne (b := (2 * (jn : Int))) (w2 hj) (by rcases j3 hj with h9 | h9 | h9 <;> subst h9 <;> omega)) ?_
  refine lv_topi (fun z_1 q_1 => ?_)
  have e_1 : z_1.toInt = x.toInt.tdiv (2 * (jn : Int)) := by rw [q_1]; exact i_divT (rfl) (w2 hj) (by rcases j3 hj with h9 | h9 | h9 <;> subst h9 <;> omega)
  have t1_1 := td_sign x.toInt (v := (2 * (jn : Int))) (by rcases j3 hj with h9 | h9 | h9 <;> subst h9 <;> omega)
  rw [← e_1] at t1_1
  exact rp_iret hx hb hr hlocks hS (show 0 ≤ x.toInt → 0 ≤ z_1.toInt ∧ z_1.toInt ≤ x.toInt from (by first | assumption | omega | (rcases j3 hj with h9 | h9 | h9 <;> subst h9 <;> omega))) hQ dX5_beatOf_6
set_option maxRecDepth 100000 in
set_option maxHeartbeats 4000000 in
theorem t_X5_jugglerOf (l : Launch) (D : va_G) (cI cR cM : ClassId) (sz : Nat) {jn : Nat} {g : Nat → Nat} {L : List Nat} {S : Sg} {f : Nat → va_E} {b b_p b_n : Nat} {b_l : Int32} {b_c : Nat → Int32} {x : Int32}  (hj : 1 ≤ jn ∧ jn ≤ 3) (hG : SG g L S) (hI : IN jn cI cR cM g L S f) (m_b : b ∈ L) (s_b : S b = (0, b_p, b_n)) (f_b : f b = .inr (5, [.int (nI jn), .int (nI (2 * jn)), .ref b_p, .int b_l])) (f_b_p : f b_p = .inl (cI, b_n, .inl b_c))  : Met l yX5_jugglerOf wsX5_jugglerOf ({ frames := 0, cells := 0, slots := 0, locals := 0 }) (P0 D cI cR cM [.ref b, .int x] sz (va_pl L f)) (QP (fun r => (0 ≤ x.toInt → 0 ≤ r.toInt ∧ r.toInt < (jn : Int))) sz) 0 0 (va_A [] sz) := by
  refine go (cc := cX5_jugglerOf) (maxL := 2) (ret := (some .int)) (by decide +kernel) rfl (Nat.le_of_ble_eq_true rfl) ?_
  intro p e s m below meth c ls args Q hQ hsz hx hb hr hml hts hown hlocks hnm hP hK hD hl
  subst hsz
  have hS : va_S (va_A [] s.heap.size) s.heap s.heap [] := va_S.rf
  have hA : ∀ q, s.heap.size ≤ q → va_A [] s.heap.size q := fun q h => Or.inr h
  have hl : lv_has ls 2 [(0, .ref b), (1, .int x)] := hl
  obtain ⟨v1_b, v2_b, v3_b, m_b_p, s_b_p⟩ := iv_0 hI m_b s_b f_b
  obtain ⟨w1_b, w2_b, w3_b, w4_b, w5_b⟩ := lenw hj v1_b v2_b v3_b
  have k_b := iv_1 hI m_b_p s_b_p f_b_p
  refine lv_iload_n hx hb dX5_jugglerOf_0 rfl (lv_at hl 1 rfl) ?_
  refine lv_aload_n hx hb dX5_jugglerOf_1 rfl (lv_at hl 0 rfl) ?_
  refine t_get (D := D) (L := L) (f := f) (ci := 5) (v := .int (nI (2 * jn))) (C := RX5) (T := TX5) (N := 4) hx hb hts (by decide +kernel) hown hK.1 hP m_b f_b rfl 1 (by decide) (hts (.fieldLink RX5 21 "JugglingHall$Row" "width" "I") (by decide +kernel)) (fun _ h9 => h9) rfl dX5_jugglerOf_2 ?_
  refine a_iremS (u := x.toInt) (v := (2 * (jn : Int))) hx hb dX5_jugglerOf_5 (rfl) (w2 hj) (by rcases j3 hj with h9 | h9 | h9 <;> subst h9 <;> omega) (fun z_1 e_1 h_1 k_1 => ?_)
  obtain ⟨t1_1, t2_1⟩ := tm_sign x.toInt (v := (2 * (jn : Int))) (by rcases j3 hj with h9 | h9 | h9 <;> subst h9 <;> omega)
  rw [← e_1] at t1_1 t2_1
  refine lv_iconst (v := 2) hx hb dX5_jugglerOf_6 (by decide) ?_
  refine lv_idiv hx hb dX5_jugglerOf_7 (i_ne (b := 2) (by decide) (by rcases j3 hj with h9 | h9 | h9 <;> subst h9 <;> omega)) ?_
  refine lv_topi (fun z_2 q_2 => ?_)
  have e_2 : z_2.toInt = z_1.toInt.tdiv 2 := by rw [q_2]; exact i_divT (rfl) (by decide) (by rcases j3 hj with h9 | h9 | h9 <;> subst h9 <;> omega)
  have t1_2 := td_sign z_1.toInt (v := 2) (by rcases j3 hj with h9 | h9 | h9 <;> subst h9 <;> omega)
  rw [← e_2] at t1_2
  exact rp_iret hx hb hr hlocks hS (show 0 ≤ x.toInt → 0 ≤ z_2.toInt ∧ z_2.toInt < (jn : Int) from (by first | assumption | omega | (rcases j3 hj with h9 | h9 | h9 <;> subst h9 <;> omega))) hQ dX5_jugglerOf_8
set_option maxRecDepth 100000 in
set_option maxHeartbeats 4000000 in
theorem t_X5_numberOf (l : Launch) (D : va_G) (cI cR cM : ClassId) (sz : Nat) {jn : Nat} {g : Nat → Nat} {L : List Nat} {S : Sg} {f : Nat → va_E} {b b_p b_n : Nat} {b_l : Int32} {b_c : Nat → Int32} {x : Int32}  (hj : 1 ≤ jn ∧ jn ≤ 3) (hG : SG g L S) (hI : IN jn cI cR cM g L S f) (m_b : b ∈ L) (s_b : S b = (0, b_p, b_n)) (f_b : f b = .inr (5, [.int (nI jn), .int (nI (2 * jn)), .ref b_p, .int b_l])) (f_b_p : f b_p = .inl (cI, b_n, .inl b_c))  : Met l yX5_numberOf wsX5_numberOf ({ frames := 0, cells := 0, slots := 0, locals := 0 }) (P0 D cI cR cM [.ref b, .int x] sz (va_pl L f)) (QP (fun r => True) sz) 0 0 (va_A [] sz) := by
  refine go (cc := cX5_numberOf) (maxL := 2) (ret := (some .int)) (by decide +kernel) rfl (Nat.le_of_ble_eq_true rfl) ?_
  intro p e s m below meth c ls args Q hQ hsz hx hb hr hml hts hown hlocks hnm hP hK hD hl
  subst hsz
  have hS : va_S (va_A [] s.heap.size) s.heap s.heap [] := va_S.rf
  have hA : ∀ q, s.heap.size ≤ q → va_A [] s.heap.size q := fun q h => Or.inr h
  have hl : lv_has ls 2 [(0, .ref b), (1, .int x)] := hl
  obtain ⟨v1_b, v2_b, v3_b, m_b_p, s_b_p⟩ := iv_0 hI m_b s_b f_b
  obtain ⟨w1_b, w2_b, w3_b, w4_b, w5_b⟩ := lenw hj v1_b v2_b v3_b
  have k_b := iv_1 hI m_b_p s_b_p f_b_p
  refine lv_iload_n hx hb dX5_numberOf_0 rfl (lv_at hl 1 rfl) ?_
  refine lv_iconst (v := 2) hx hb dX5_numberOf_1 (by decide) ?_
  refine a_iremS (u := x.toInt) (v := 2) hx hb dX5_numberOf_2 (rfl) (by decide) (by omega) (fun z_1 e_1 h_1 k_1 => ?_)
  obtain ⟨t1_1, t2_1⟩ := tm_sign x.toInt (v := 2) (by omega)
  rw [← e_1] at t1_1 t2_1
  exact rp_iret hx hb hr hlocks hS (trivial) hQ dX5_numberOf_3
set_option maxRecDepth 100000 in
set_option maxHeartbeats 4000000 in
theorem t_X5_beatInRound (l : Launch) (D : va_G) (cI cR cM : ClassId) (sz : Nat) {jn : Nat} {g : Nat → Nat} {L : List Nat} {S : Sg} {f : Nat → va_E} {b b_p b_n : Nat} {b_l : Int32} {b_c : Nat → Int32} {x : Int32}  (hj : 1 ≤ jn ∧ jn ≤ 3) (hG : SG g L S) (hI : IN jn cI cR cM g L S f) (m_b : b ∈ L) (s_b : S b = (0, b_p, b_n)) (f_b : f b = .inr (5, [.int (nI jn), .int (nI (2 * jn)), .ref b_p, .int b_l])) (f_b_p : f b_p = .inl (cI, b_n, .inl b_c))  : Met l yX5_beatInRound wsX5_beatInRound ({ frames := 1, cells := 0, slots := 0, locals := 22 }) (P0 D cI cR cM [.ref b, .int x] sz (va_pl L f)) (QP (fun r => (0 ≤ r.toInt ∧ (r.toInt < b_l.toInt ∨ r.toInt = 0))) sz) 0 0 (va_A [] sz) := by
  refine go (cc := cX5_beatInRound) (maxL := 2) (ret := (some .int)) (by decide +kernel) rfl (Nat.le_of_ble_eq_true rfl) ?_
  intro p e s m below meth c ls args Q hQ hsz hx hb hr hml hts hown hlocks hnm hP hK hD hl
  subst hsz
  have hS : va_S (va_A [] s.heap.size) s.heap s.heap [] := va_S.rf
  have hA : ∀ q, s.heap.size ≤ q → va_A [] s.heap.size q := fun q h => Or.inr h
  have hl : lv_has ls 2 [(0, .ref b), (1, .int x)] := hl
  obtain ⟨v1_b, v2_b, v3_b, m_b_p, s_b_p⟩ := iv_0 hI m_b s_b f_b
  obtain ⟨w1_b, w2_b, w3_b, w4_b, w5_b⟩ := lenw hj v1_b v2_b v3_b
  have k_b := iv_1 hI m_b_p s_b_p f_b_p
  refine lv_aload_n hx hb dX5_beatInRound_0 rfl (lv_at hl 0 rfl) ?_
  refine t_get (D := D) (L := L) (f := f) (ci := 5) (v := .int b_l) (C := RX5) (T := TX5) (N := 4) hx hb hts (by decide +kernel) hown hK.1 hP m_b f_b rfl 3 (by decide) (hts (.fieldLink RX5 28 "JugglingHall$Row" "length" "I") (by decide +kernel)) (fun _ h9 => h9) rfl dX5_beatInRound_1 ?_
  refine lv_iconst (v := 1) hx hb dX5_beatInRound_4 (by decide) ?_
  refine a_icmp_ge (u := b_l.toInt) (v := 1) (tgt := 12) hx hb dX5_beatInRound_5 (by decide) (rfl) (by decide) (fun c_1 => ?_) (fun c_1 => ?_)
  · refine lv_iload_n hx hb dX5_beatInRound_12 rfl (lv_at hl 1 rfl) ?_
    refine lv_aload_n hx hb dX5_beatInRound_13 rfl (lv_at hl 0 rfl) ?_
    refine t_get (D := D) (L := L) (f := f) (ci := 5) (v := .int b_l) (C := RX5) (T := TX5) (N := 4) hx hb hts (by decide +kernel) hown hK.1 hP m_b f_b rfl 3 (by decide) (hts (.fieldLink RX5 28 "JugglingHall$Row" "length" "I") (by decide +kernel)) (fun _ h9 => h9) rfl dX5_beatInRound_14 ?_
    refine roP (va_runS (As := [.int x, .int b_l]) (rest := []) ⟨hx, hb, hml, hown, hts⟩ (t_J9_floorMod_7cf53 l D cI cR cM _    (by first | assumption | omega)) (va_cwS 2 hts gX5_beatInRound_J9_floorMod_7cf53 rfl rfl rfl (by decide +kernel) ⟨Nat.le_of_ble_eq_true rfl, Nat.le_of_ble_eq_true rfl⟩) (pre_S hK va_P_nil (va_D_nil (A := fun _ => True))) rfl rfl hl.1 rfl (lv_room (Nat.le_of_ble_eq_true rfl)) dX5_beatInRound_17 ⟨Nat.le_of_ble_eq_true rfl, Nat.le_of_ble_eq_true rfl⟩) hS hA hP (fun r_2 H locs hw hP hS => ?_)
    have h_2 : (0 ≤ r_2.toInt ∧ r_2.toInt < b_l.toInt) := hw
    exact rp_iret hx hb hr hlocks hS (show 0 ≤ r_2.toInt ∧ (r_2.toInt < b_l.toInt ∨ r_2.toInt = 0) from (by first | assumption | omega)) hQ dX5_beatInRound_20
  · refine lv_iconst (v := 0) hx hb dX5_beatInRound_8 (by decide) ?_
    refine lv_goto (tgt := 20) hx hb dX5_beatInRound_9 (by decide) ?_
    have hz_3 : (0 : Int32).toInt = 0 := by decide
    exact rp_iret hx hb hr hlocks hS (show 0 ≤ (0 : Int32).toInt ∧ ((0 : Int32).toInt < b_l.toInt ∨ (0 : Int32).toInt = 0) from (by first | assumption | omega)) hQ dX5_beatInRound_20
set_option maxRecDepth 100000 in
set_option maxHeartbeats 4000000 in
theorem t_X5_perRound (l : Launch) (D : va_G) (cI cR cM : ClassId) (sz : Nat) {jn : Nat} {g : Nat → Nat} {L : List Nat} {S : Sg} {f : Nat → va_E} {b b_p b_n : Nat} {b_l : Int32} {b_c : Nat → Int32} {x : Int32}  (hj : 1 ≤ jn ∧ jn ≤ 3) (hG : SG g L S) (hI : IN jn cI cR cM g L S f) (m_b : b ∈ L) (s_b : S b = (0, b_p, b_n)) (f_b : f b = .inr (5, [.int (nI jn), .int (nI (2 * jn)), .ref b_p, .int b_l])) (f_b_p : f b_p = .inl (cI, b_n, .inl b_c))  : Met l yX5_perRound wsX5_perRound ({ frames := 0, cells := 0, slots := 0, locals := 0 }) (P0 D cI cR cM [.ref b, .int x] sz (va_pl L f)) (QP (fun r => True) sz) 0 0 (va_A [] sz) := by
  refine go (cc := cX5_perRound) (maxL := 2) (ret := (some .int)) (by decide +kernel) rfl (Nat.le_of_ble_eq_true rfl) ?_
  intro p e s m below meth c ls args Q hQ hsz hx hb hr hml hts hown hlocks hnm hP hK hD hl
  subst hsz
  have hS : va_S (va_A [] s.heap.size) s.heap s.heap [] := va_S.rf
  have hA : ∀ q, s.heap.size ≤ q → va_A [] s.heap.size q := fun q h => Or.inr h
  have hl : lv_has ls 2 [(0, .ref b), (1, .int x)] := hl
  obtain ⟨v1_b, v2_b, v3_b, m_b_p, s_b_p⟩ := iv_0 hI m_b s_b f_b
  obtain ⟨w1_b, w2_b, w3_b, w4_b, w5_b⟩ := lenw hj v1_b v2_b v3_b
  have k_b := iv_1 hI m_b_p s_b_p f_b_p
  refine lv_aload_n hx hb dX5_perRound_0 rfl (lv_at hl 0 rfl) ?_
  refine t_get (D := D) (L := L) (f := f) (ci := 5) (v := .int b_l) (C := RX5) (T := TX5) (N := 4) hx hb hts (by decide +kernel) hown hK.1 hP m_b f_b rfl 3 (by decide) (hts (.fieldLink RX5 28 "JugglingHall$Row" "length" "I") (by decide +kernel)) (fun _ h9 => h9) rfl dX5_perRound_1 ?_
  refine lv_iconst (v := 1) hx hb dX5_perRound_4 (by decide) ?_
  refine a_icmp_ge (u := b_l.toInt) (v := 1) (tgt := 12) hx hb dX5_perRound_5 (by decide) (rfl) (by decide) (fun c_1 => ?_) (fun c_1 => ?_)
  · refine lv_iload_n hx hb dX5_perRound_12 rfl (lv_at hl 1 rfl) ?_
    refine lv_aload_n hx hb dX5_perRound_13 rfl (lv_at hl 0 rfl) ?_
    refine t_get (D := D) (L := L) (f := f) (ci := 5) (v := .int b_l) (C := RX5) (T := TX5) (N := 4) hx hb hts (by decide +kernel) hown hK.1 hP m_b f_b rfl 3 (by decide) (hts (.fieldLink RX5 28 "JugglingHall$Row" "length" "I") (by decide +kernel)) (fun _ h9 => h9) rfl dX5_perRound_14 ?_
    refine lv_idiv hx hb dX5_perRound_17 (i_ne (b := b_l.toInt) (rfl) (by omega)) ?_
    refine lv_topi (fun z_2 q_2 => ?_)
    have e_2 : z_2.toInt = x.toInt.tdiv b_l.toInt := by rw [q_2]; exact i_divT (rfl) (rfl) (by omega)
    have t1_2 := td_sign x.toInt (v := b_l.toInt) (by omega)
    rw [← e_2] at t1_2
    exact rp_iret hx hb hr hlocks hS (trivial) hQ dX5_perRound_18
  · refine lv_iconst (v := 0) hx hb dX5_perRound_8 (by decide) ?_
    refine lv_goto (tgt := 18) hx hb dX5_perRound_9 (by decide) ?_
    have hz_3 : (0 : Int32).toInt = 0 := by decide
    exact rp_iret hx hb hr hlocks hS (trivial) hQ dX5_perRound_18
set_option maxRecDepth 100000 in
set_option maxHeartbeats 4000000 in
theorem t_X5_landing (l : Launch) (D : va_G) (cI cR cM : ClassId) (sz : Nat) {jn : Nat} {g : Nat → Nat} {L : List Nat} {S : Sg} {f : Nat → va_E} {b b_p b_n : Nat} {b_l : Int32} {b_c : Nat → Int32} {x : Int32}  (hj : 1 ≤ jn ∧ jn ≤ 3) (hG : SG g L S) (hI : IN jn cI cR cM g L S f) (m_b : b ∈ L) (s_b : S b = (0, b_p, b_n)) (f_b : f b = .inr (5, [.int (nI jn), .int (nI (2 * jn)), .ref b_p, .int b_l])) (f_b_p : f b_p = .inl (cI, b_n, .inl b_c)) (hx0 : 0 ≤ x.toInt ∧ x.toInt < (b_n : Int)) (hc : (b_c x.toInt.toNat).toInt ≠ 0) : Met l yX5_landing wsX5_landing ({ frames := 2, cells := 0, slots := 0, locals := 43 }) (P0 D cI cR cM [.ref b, .int x] sz (va_pl L f)) (QP (fun r => (0 ≤ r.toInt ∧ r.toInt < 72)) sz) 0 0 (va_A [] sz) := by
  refine go (cc := cX5_landing) (maxL := 2) (ret := (some .int)) (by decide +kernel) rfl (Nat.le_of_ble_eq_true rfl) ?_
  intro p e s m below meth c ls args Q hQ hsz hx hb hr hml hts hown hlocks hnm hP hK hD hl
  subst hsz
  have hS : va_S (va_A [] s.heap.size) s.heap s.heap [] := va_S.rf
  have hA : ∀ q, s.heap.size ≤ q → va_A [] s.heap.size q := fun q h => Or.inr h
  have hl : lv_has ls 2 [(0, .ref b), (1, .int x)] := hl
  obtain ⟨v1_b, v2_b, v3_b, m_b_p, s_b_p⟩ := iv_0 hI m_b s_b f_b
  obtain ⟨w1_b, w2_b, w3_b, w4_b, w5_b⟩ := lenw hj v1_b v2_b v3_b
  have k_b := iv_1 hI m_b_p s_b_p f_b_p
  refine lv_aload_n hx hb dX5_landing_0 rfl (lv_at hl 0 rfl) ?_
  refine lv_aload_n hx hb dX5_landing_1 rfl (lv_at hl 0 rfl) ?_
  refine lv_iload_n hx hb dX5_landing_2 rfl (lv_at hl 1 rfl) ?_
  refine roP (va_runV (As := [.int x]) (rest := [.ref b]) ⟨hx, hb, hml, hown, hts⟩ (t_X5_beatOf l D cI cR cM _  hj hG hI m_b s_b f_b f_b_p ) (cwV 1 hts gX5_landing_X5_beatOf rfl rfl rfl (by decide +kernel) ⟨Nat.le_of_ble_eq_true rfl, Nat.le_of_ble_eq_true rfl⟩) (pre_T hK hP hD m_b f_b rfl) rfl rfl hl.1 rfl (lv_room (Nat.le_of_ble_eq_true rfl)) dX5_landing_3 ⟨Nat.le_of_ble_eq_true rfl, Nat.le_of_ble_eq_true rfl⟩) hS hA hP (fun r_1 H locs hw hP hS => ?_)
  have h_1 : (0 ≤ x.toInt → 0 ≤ r_1.toInt ∧ r_1.toInt ≤ x.toInt) := hw
  refine lv_aload_n hx hb dX5_landing_6 rfl (lv_at hl 0 rfl) ?_
  refine lv_iload_n hx hb dX5_landing_7 rfl (lv_at hl 1 rfl) ?_
  refine roP (va_runV (As := [.int x]) (rest := [.int r_1, .ref b]) ⟨hx, hb, hml, hown, hts⟩ (t_X5_height l D cI cR cM _  hj hG hI m_b s_b f_b f_b_p ) (cwV 1 hts gX5_landing_X5_height rfl rfl rfl (by decide +kernel) ⟨Nat.le_of_ble_eq_true rfl, Nat.le_of_ble_eq_true rfl⟩) (pre_T hK hP hD m_b f_b rfl) rfl rfl hl.1 rfl (lv_room (Nat.le_of_ble_eq_true rfl)) dX5_landing_8 ⟨Nat.le_of_ble_eq_true rfl, Nat.le_of_ble_eq_true rfl⟩) hS hA hP (fun r_2 H locs hw hP hS => ?_)
  have h_2 : (0 ≤ r_2.toInt ∧ r_2.toInt ≤ 9) := hw
  refine a_iadd (u := r_1.toInt) (v := r_2.toInt) hx hb dX5_landing_11 (rfl) (rfl) (by rcases j3 hj with h9 | h9 | h9 <;> subst h9 <;> omega) (fun z_3 e_3 => ?_)
  refine roP (va_runV (As := [.int z_3]) (rest := []) ⟨hx, hb, hml, hown, hts⟩ (t_X5_beatInRound l D cI cR cM _  hj hG hI m_b s_b f_b f_b_p ) (cwV 1 hts gX5_landing_X5_beatInRound rfl rfl rfl (by decide +kernel) ⟨Nat.le_of_ble_eq_true rfl, Nat.le_of_ble_eq_true rfl⟩) (pre_T hK hP hD m_b f_b rfl) rfl rfl hl.1 rfl (lv_room (Nat.le_of_ble_eq_true rfl)) dX5_landing_12 ⟨Nat.le_of_ble_eq_true rfl, Nat.le_of_ble_eq_true rfl⟩) hS hA hP (fun r_4 H locs hw hP hS => ?_)
  have h_4 : (0 ≤ r_4.toInt ∧ (r_4.toInt < b_l.toInt ∨ r_4.toInt = 0)) := hw
  refine lv_aload_n hx hb dX5_landing_15 rfl (lv_at hl 0 rfl) ?_
  refine t_get (D := D) (L := L) (f := f) (ci := 5) (v := .int (nI jn)) (C := RX5) (T := TX5) (N := 4) hx hb hts (by decide +kernel) hown hK.1 hP m_b f_b rfl 0 (by decide) (hts (.fieldLink RX5 15 "JugglingHall$Row" "jugglers" "I") (by decide +kernel)) (fun _ h9 => h9) rfl dX5_landing_16 ?_
  refine a_imul (u := r_4.toInt) (v := (jn : Int)) hx hb dX5_landing_19 (rfl) (nI_toInt (by rcases j3 hj with h9 | h9 | h9 <;> subst h9 <;> omega)) (by rcases j3 hj with h9 | h9 | h9 <;> subst h9 <;> omega) (fun z_5 e_5 => ?_)
  refine lv_aload_n hx hb dX5_landing_20 rfl (lv_at hl 0 rfl) ?_
  refine lv_iload_n hx hb dX5_landing_21 rfl (lv_at hl 1 rfl) ?_
  refine roP (va_runV (As := [.int x]) (rest := [.int z_5]) ⟨hx, hb, hml, hown, hts⟩ (t_X5_target l D cI cR cM _  hj hG hI m_b s_b f_b f_b_p ) (cwV 1 hts gX5_landing_X5_target rfl rfl rfl (by decide +kernel) ⟨Nat.le_of_ble_eq_true rfl, Nat.le_of_ble_eq_true rfl⟩) (pre_T hK hP hD m_b f_b rfl) rfl rfl hl.1 rfl (lv_room (Nat.le_of_ble_eq_true rfl)) dX5_landing_22 ⟨Nat.le_of_ble_eq_true rfl, Nat.le_of_ble_eq_true rfl⟩) hS hA hP (fun r_6 H locs hw hP hS => ?_)
  obtain ⟨h_6, ht_6⟩ : (0 ≤ r_6.toInt ∧ r_6.toInt ≤ 3) ∧ (0 ≤ x.toInt ∧ x.toInt < (b_n : Int) ∧ (b_c x.toInt.toNat).toInt ≠ 0 → r_6.toInt < (jn : Int)) := hw
  refine a_iadd (u := (r_4.toInt * (jn : Int))) (v := r_6.toInt) hx hb dX5_landing_25 (e_5) (rfl) (by rcases j3 hj with h9 | h9 | h9 <;> subst h9 <;> omega) (fun z_7 e_7 => ?_)
  exact rp_iret hx hb hr hlocks hS (show 0 ≤ z_7.toInt ∧ z_7.toInt < 72 from (by first | assumption | omega | (rcases j3 hj with h9 | h9 | h9 <;> subst h9 <;> omega))) hQ dX5_landing_26
set_option maxRecDepth 100000 in
set_option maxHeartbeats 4000000 in
theorem t_X5_balls (l : Launch) (D : va_G) (cI cR cM : ClassId) (sz : Nat) {jn : Nat} {g : Nat → Nat} {L : List Nat} {S : Sg} {f : Nat → va_E} {b b_p b_n : Nat} {b_l : Int32} {b_c : Nat → Int32}  (hj : 1 ≤ jn ∧ jn ≤ 3) (hG : SG g L S) (hI : IN jn cI cR cM g L S f) (m_b : b ∈ L) (s_b : S b = (0, b_p, b_n)) (f_b : f b = .inr (5, [.int (nI jn), .int (nI (2 * jn)), .ref b_p, .int b_l])) (f_b_p : f b_p = .inl (cI, b_n, .inl b_c))  : Met l yX5_balls wsX5_balls ({ frames := 1, cells := 0, slots := 0, locals := 21 }) (P0 D cI cR cM [.ref b] sz (va_pl L f)) (QP (fun r => True) sz) 0 0 (va_A [] sz) := by
  refine go (cc := cX5_balls) (maxL := 3) (ret := (some .int)) (by decide +kernel) rfl (Nat.le_of_ble_eq_true rfl) ?_
  intro p e s m below meth c ls args Q hQ hsz hx hb hr hml hts hown hlocks hnm hP hK hD hl
  subst hsz
  have hS : va_S (va_A [] s.heap.size) s.heap s.heap [] := va_S.rf
  have hA : ∀ q, s.heap.size ≤ q → va_A [] s.heap.size q := fun q h => Or.inr h
  have hl : lv_has ls 3 [(0, .ref b)] := hl
  obtain ⟨v1_b, v2_b, v3_b, m_b_p, s_b_p⟩ := iv_0 hI m_b s_b f_b
  obtain ⟨w1_b, w2_b, w3_b, w4_b, w5_b⟩ := lenw hj v1_b v2_b v3_b
  have k_b := iv_1 hI m_b_p s_b_p f_b_p
  refine lv_iconst (v := 0) hx hb dX5_balls_0 (by decide) ?_
  refine lv_istore_n (lv' := [(1, .int 0), (0, .ref b)]) hx hb dX5_balls_1 rfl hl (by decide) rfl (fun ls hl => ?_)
  refine lv_iconst (v := 0) hx hb dX5_balls_2 (by decide) ?_
  refine lv_istore_n (lv' := [(2, .int 0), (1, .int 0), (0, .ref b)]) hx hb dX5_balls_3 rfl hl (by decide) rfl (fun ls hl => ?_)
  have loop4 : ∀ (ddloop4 : Nat) (su : Int32) (ce : Int32) (H : Heap) (locs : List Loc) (ls : Array Slot), (200 - ce.toInt).toNat < ddloop4 → (0 ≤ ce.toInt ∧ ce.toInt ≤ 144 ∧ 0 ≤ su.toInt ∧ su.toInt ≤ 9 * ce.toInt) → va_P D vwCl (va_pl L f) H → va_S (va_A [] s.heap.size) s.heap H locs → lv_has ls 3 [(0, .ref b), (1, .int su), (2, .int ce)] → W p l e ({ frames := 1, cells := 0, slots := 0, locals := 21 }) s m args below meth c H locs 0 0 Q (F0 m 4 ls []) := by
    intro ddloop4
    induction ddloop4 with
    | zero =>
      intro su ce H locs ls hdd
      exact absurd hdd (Nat.not_lt_zero _)
    | succ ddloop4 ih4 =>
      intro su ce H locs ls hdd hi hP hS hl
      refine lv_iload_n hx hb dX5_balls_4 rfl (lv_at hl 2 rfl) ?_
      refine lv_aload_n hx hb dX5_balls_5 rfl (lv_at hl 0 rfl) ?_
      refine roP (va_runV (As := []) (rest := [.int ce]) ⟨hx, hb, hml, hown, hts⟩ (t_X5_cellCount l D cI cR cM _  hj hG hI m_b s_b f_b f_b_p ) (cwV 0 hts gX5_balls_X5_cellCount rfl rfl rfl (by decide +kernel) ⟨Nat.le_of_ble_eq_true rfl, Nat.le_of_ble_eq_true rfl⟩) (pre_T hK hP hD m_b f_b rfl) rfl rfl hl.1 rfl (lv_room (Nat.le_of_ble_eq_true rfl)) dX5_balls_6 ⟨Nat.le_of_ble_eq_true rfl, Nat.le_of_ble_eq_true rfl⟩) hS hA hP (fun r_2 H locs hw hP hS => ?_)
      have h_2 : (r_2.toInt = b_l.toInt * (2 * (jn : Int))) := hw
      refine a_icmp_ge (u := ce.toInt) (v := r_2.toInt) (tgt := 26) hx hb dX5_balls_9 (by decide) (rfl) (rfl) (fun c_3 => ?_) (fun c_3 => ?_)
      · refine lv_aload_n hx hb dX5_balls_26 rfl (lv_at hl 0 rfl) ?_
        refine lv_iload_n hx hb dX5_balls_27 rfl (lv_at hl 1 rfl) ?_
        refine roP (va_runV (As := [.int su]) (rest := []) ⟨hx, hb, hml, hown, hts⟩ (t_X5_perRound l D cI cR cM _  hj hG hI m_b s_b f_b f_b_p ) (cwV 1 hts gX5_balls_X5_perRound rfl rfl rfl (by decide +kernel) ⟨Nat.le_of_ble_eq_true rfl, Nat.le_of_ble_eq_true rfl⟩) (pre_T hK hP hD m_b f_b rfl) rfl rfl hl.1 rfl (lv_room (Nat.le_of_ble_eq_true rfl)) dX5_balls_28 ⟨Nat.le_of_ble_eq_true rfl, Nat.le_of_ble_eq_true rfl⟩) hS hA hP (fun r_4 H locs hw hP hS => ?_)
        exact rp_iret hx hb hr hlocks hS (trivial) hQ dX5_balls_31
      · refine lv_iload_n hx hb dX5_balls_12 rfl (lv_at hl 1 rfl) ?_
        refine lv_aload_n hx hb dX5_balls_13 rfl (lv_at hl 0 rfl) ?_
        refine lv_iload_n hx hb dX5_balls_14 rfl (lv_at hl 2 rfl) ?_
        refine roP (va_runV (As := [.int ce]) (rest := [.int su]) ⟨hx, hb, hml, hown, hts⟩ (t_X5_height l D cI cR cM _  hj hG hI m_b s_b f_b f_b_p ) (cwV 1 hts gX5_balls_X5_height rfl rfl rfl (by decide +kernel) ⟨Nat.le_of_ble_eq_true rfl, Nat.le_of_ble_eq_true rfl⟩) (pre_T hK hP hD m_b f_b rfl) rfl rfl hl.1 rfl (lv_room (Nat.le_of_ble_eq_true rfl)) dX5_balls_15 ⟨Nat.le_of_ble_eq_true rfl, Nat.le_of_ble_eq_true rfl⟩) hS hA hP (fun r_5 H locs hw hP hS => ?_)
        have h_5 : (0 ≤ r_5.toInt ∧ r_5.toInt ≤ 9) := hw
        refine a_iadd (u := su.toInt) (v := r_5.toInt) hx hb dX5_balls_18 (rfl) (rfl) (by omega) (fun z_6 e_6 => ?_)
        refine lv_istore_n (lv' := [(1, .int z_6), (0, .ref b), (2, .int ce)]) hx hb dX5_balls_19 rfl hl (by decide) rfl (fun ls hl => ?_)
        obtain ⟨z_7, q_7, e_7⟩ := i_inc (a := ce.toInt) (1) (rfl) (by decide) (by omega) (by omega)
        refine lv_iinc (v := z_7) (lv' := [(2, .int z_7), (1, .int z_6), (0, .ref b)]) hx hb dX5_balls_20 hl (k := 2) rfl q_7 (by decide) rfl (fun ls hl => ?_)
        refine lv_goto (tgt := 4) hx hb dX5_balls_23 (by decide) ?_
        exact ih4 z_6 z_7 _ _ _ (by omega) (by first | assumption | omega) hP hS (lv_sub hl [2, 1, 0] rfl)
  have hz_8 : (0 : Int32).toInt = 0 := by decide
  have hz_9 : (0 : Int32).toInt = 0 := by decide
  exact loop4 ((200 - (0 : Int32).toInt).toNat + 1) (0 : Int32) (0 : Int32) _ _ _ (by omega) (by first | assumption | omega) hP hS (lv_sub hl [2, 1, 0] rfl)
set_option maxRecDepth 100000 in
set_option maxHeartbeats 4000000 in
theorem t_X5_isPlain (l : Launch) (D : va_G) (cI cR cM : ClassId) (sz : Nat) {jn : Nat} {g : Nat → Nat} {L : List Nat} {S : Sg} {f : Nat → va_E} {b b_p b_n : Nat} {b_l : Int32} {b_c : Nat → Int32}  (hj : 1 ≤ jn ∧ jn ≤ 3) (hG : SG g L S) (hI : IN jn cI cR cM g L S f) (m_b : b ∈ L) (s_b : S b = (0, b_p, b_n)) (f_b : f b = .inr (5, [.int (nI jn), .int (nI (2 * jn)), .ref b_p, .int b_l])) (f_b_p : f b_p = .inl (cI, b_n, .inl b_c))  : Met l yX5_isPlain wsX5_isPlain ({ frames := 0, cells := 0, slots := 0, locals := 0 }) (P0 D cI cR cM [.ref b] sz (va_pl L f)) (QP (fun r => (r.toInt = 0 ∨ r.toInt = 1)) sz) 0 0 (va_A [] sz) := by
  refine go (cc := cX5_isPlain) (maxL := 2) (ret := (some .boolean)) (by decide +kernel) rfl (Nat.le_of_ble_eq_true rfl) ?_
  intro p e s m below meth c ls args Q hQ hsz hx hb hr hml hts hown hlocks hnm hP hK hD hl
  subst hsz
  have hS : va_S (va_A [] s.heap.size) s.heap s.heap [] := va_S.rf
  have hA : ∀ q, s.heap.size ≤ q → va_A [] s.heap.size q := fun q h => Or.inr h
  have hl : lv_has ls 2 [(0, .ref b)] := hl
  obtain ⟨v1_b, v2_b, v3_b, m_b_p, s_b_p⟩ := iv_0 hI m_b s_b f_b
  obtain ⟨w1_b, w2_b, w3_b, w4_b, w5_b⟩ := lenw hj v1_b v2_b v3_b
  have k_b := iv_1 hI m_b_p s_b_p f_b_p
  refine lv_aload_n hx hb dX5_isPlain_0 rfl (lv_at hl 0 rfl) ?_
  refine t_get (D := D) (L := L) (f := f) (ci := 5) (v := .int (nI jn)) (C := RX5) (T := TX5) (N := 4) hx hb hts (by decide +kernel) hown hK.1 hP m_b f_b rfl 0 (by decide) (hts (.fieldLink RX5 15 "JugglingHall$Row" "jugglers" "I") (by decide +kernel)) (fun _ h9 => h9) rfl dX5_isPlain_1 ?_
  refine lv_iconst (v := 1) hx hb dX5_isPlain_4 (by decide) ?_
  refine a_icmp_eq (u := (jn : Int)) (v := 1) (tgt := 10) hx hb dX5_isPlain_5 (by decide) (nI_toInt (by rcases j3 hj with h9 | h9 | h9 <;> subst h9 <;> omega)) (by decide) (fun c_1 => ?_) (fun c_1 => ?_)
  · refine lv_iconst (v := 0) hx hb dX5_isPlain_10 (by decide) ?_
    refine lv_istore_n (lv' := [(1, .int 0), (0, .ref b)]) hx hb dX5_isPlain_11 rfl hl (by decide) rfl (fun ls hl => ?_)
    have loop12 : ∀ (ddloop12 : Nat) (be : Int32) (H : Heap) (locs : List Loc) (ls : Array Slot), (100 - be.toInt).toNat < ddloop12 → (0 ≤ be.toInt ∧ be.toInt ≤ 72) → va_P D vwCl (va_pl L f) H → va_S (va_A [] s.heap.size) s.heap H locs → lv_has ls 2 [(0, .ref b), (1, .int be)] → W p l e ({ frames := 0, cells := 0, slots := 0, locals := 0 }) s m args below meth c H locs 0 0 Q (F0 m 12 ls []) := by
      intro ddloop12
      induction ddloop12 with
      | zero =>
        intro be H locs ls hdd
        exact absurd hdd (Nat.not_lt_zero _)
      | succ ddloop12 ih12 =>
        intro be H locs ls hdd hi hP hS hl
        refine lv_iload_n hx hb dX5_isPlain_12 rfl (lv_at hl 1 rfl) ?_
        refine lv_aload_n hx hb dX5_isPlain_13 rfl (lv_at hl 0 rfl) ?_
        refine t_get (D := D) (L := L) (f := f) (ci := 5) (v := .int b_l) (C := RX5) (T := TX5) (N := 4) hx hb hts (by decide +kernel) hown hK.1 hP m_b f_b rfl 3 (by decide) (hts (.fieldLink RX5 28 "JugglingHall$Row" "length" "I") (by decide +kernel)) (fun _ h9 => h9) rfl dX5_isPlain_14 ?_
        refine a_icmp_ge (u := be.toInt) (v := b_l.toInt) (tgt := 44) hx hb dX5_isPlain_17 (by decide) (rfl) (rfl) (fun c_3 => ?_) (fun c_3 => ?_)
        · refine lv_iconst (v := 1) hx hb dX5_isPlain_44 (by decide) ?_
          have hz_4 : (1 : Int32).toInt = 1 := by decide
          exact rp_zret hx hb hr hlocks hS (by first | exact Or.inl rfl | exact Or.inr rfl) (show (1 : Int32).toInt = 0 ∨ (1 : Int32).toInt = 1 from (by first | assumption | omega | (rcases j3 hj with h9 | h9 | h9 <;> subst h9 <;> omega))) hQ dX5_isPlain_45
        · refine lv_aload_n hx hb dX5_isPlain_20 rfl (lv_at hl 0 rfl) ?_
          refine t_get (D := D) (L := L) (f := f) (ci := 5) (v := .ref b_p) (C := RX5) (T := TX5) (N := 4) hx hb hts (by decide +kernel) hown hK.1 hP m_b f_b rfl 2 (by decide) (hts (.fieldLink RX5 24 "JugglingHall$Row" "cells" "[I") (by decide +kernel)) (fun _ h9 => h9) rfl dX5_isPlain_21 ?_
          refine lv_iload_n hx hb dX5_isPlain_24 rfl (lv_at hl 1 rfl) ?_
          refine lv_aload_n hx hb dX5_isPlain_25 rfl (lv_at hl 0 rfl) ?_
          refine t_get (D := D) (L := L) (f := f) (ci := 5) (v := .int (nI (2 * jn))) (C := RX5) (T := TX5) (N := 4) hx hb hts (by decide +kernel) hown hK.1 hP m_b f_b rfl 1 (by decide) (hts (.fieldLink RX5 21 "JugglingHall$Row" "width" "I") (by decide +kernel)) (fun _ h9 => h9) rfl dX5_isPlain_26 ?_
          refine a_imul (u := be.toInt) (v := (2 * (jn : Int))) hx hb dX5_isPlain_29 (rfl) (w2 hj) (by rcases j3 hj with h9 | h9 | h9 <;> subst h9 <;> omega) (fun z_5 e_5 => ?_)
          refine lv_iconst (v := 1) hx hb dX5_isPlain_30 (by decide) ?_
          refine a_iadd (u := (be.toInt * (2 * (jn : Int)))) (v := 1) hx hb dX5_isPlain_31 (e_5) (by decide) (by rcases j3 hj with h9 | h9 | h9 <;> subst h9 <;> omega) (fun z_6 e_6 => ?_)
          refine t_iald (L := L) (f := f) (y := b_c) (u := ((be.toInt * (2 * (jn : Int))) + 1)) hx hb hK.1 hP m_b_p 0 f_b_p rfl dX5_isPlain_32 (e_6) (by rcases j3 hj with h9 | h9 | h9 <;> subst h9 <;> omega) (fun z_7 q_7 e_7 => ?_)
          obtain ⟨a1_7, a2_7, a3_7⟩ := at_c k_b (i := ((be.toInt * (2 * (jn : Int))) + 1)) (by rcases j3 hj with h9 | h9 | h9 <;> subst h9 <;> omega) q_7
          refine a_if_eq (u := z_7.toInt) (tgt := 38) hx hb dX5_isPlain_33 (by decide) (rfl) (fun c_8 => ?_) (fun c_8 => ?_)
          · obtain ⟨z_9, q_9, e_9⟩ := i_inc (a := be.toInt) (1) (rfl) (by decide) (by rcases j3 hj with h9 | h9 | h9 <;> subst h9 <;> omega) (by rcases j3 hj with h9 | h9 | h9 <;> subst h9 <;> omega)
            refine lv_iinc (v := z_9) (lv' := [(1, .int z_9), (0, .ref b)]) hx hb dX5_isPlain_38 hl (k := 1) rfl q_9 (by decide) rfl (fun ls hl => ?_)
            refine lv_goto (tgt := 12) hx hb dX5_isPlain_41 (by decide) ?_
            exact ih12 z_9 _ _ _ (by rcases j3 hj with h9 | h9 | h9 <;> subst h9 <;> omega) (by first | assumption | omega | (rcases j3 hj with h9 | h9 | h9 <;> subst h9 <;> omega)) hP hS (lv_sub hl [1, 0] rfl)
          · refine lv_iconst (v := 0) hx hb dX5_isPlain_36 (by decide) ?_
            have hz_10 : (0 : Int32).toInt = 0 := by decide
            exact rp_zret hx hb hr hlocks hS (by first | exact Or.inl rfl | exact Or.inr rfl) (show (0 : Int32).toInt = 0 ∨ (0 : Int32).toInt = 1 from (by first | assumption | omega | (rcases j3 hj with h9 | h9 | h9 <;> subst h9 <;> omega))) hQ dX5_isPlain_37
    have hz_11 : (0 : Int32).toInt = 0 := by decide
    exact loop12 ((100 - (0 : Int32).toInt).toNat + 1) (0 : Int32) _ _ _ (by rcases j3 hj with h9 | h9 | h9 <;> subst h9 <;> omega) (by first | assumption | omega | (rcases j3 hj with h9 | h9 | h9 <;> subst h9 <;> omega)) hP hS (lv_sub hl [1, 0] rfl)
  · refine lv_iconst (v := 0) hx hb dX5_isPlain_8 (by decide) ?_
    have hz_12 : (0 : Int32).toInt = 0 := by decide
    exact rp_zret hx hb hr hlocks hS (by first | exact Or.inl rfl | exact Or.inr rfl) (show (0 : Int32).toInt = 0 ∨ (0 : Int32).toInt = 1 from (by first | assumption | omega | (rcases j3 hj with h9 | h9 | h9 <;> subst h9 <;> omega))) hQ dX5_isPlain_9
set_option maxRecDepth 100000 in
set_option maxHeartbeats 4000000 in
theorem t_X5_isTurned (l : Launch) (D : va_G) (cI cR cM : ClassId) (sz : Nat) {jn : Nat} {g : Nat → Nat} {L : List Nat} {S : Sg} {f : Nat → va_E} {b b_p b_n : Nat} {b_l : Int32} {b_c : Nat → Int32} {o o_p o_n : Nat} {o_l : Int32} {o_c : Nat → Int32} {d : Int32}  (hj : 1 ≤ jn ∧ jn ≤ 3) (hG : SG g L S) (hI : IN jn cI cR cM g L S f) (m_b : b ∈ L) (s_b : S b = (0, b_p, b_n)) (f_b : f b = .inr (5, [.int (nI jn), .int (nI (2 * jn)), .ref b_p, .int b_l])) (f_b_p : f b_p = .inl (cI, b_n, .inl b_c)) (m_o : o ∈ L) (s_o : S o = (0, o_p, o_n)) (f_o : f o = .inr (5, [.int (nI jn), .int (nI (2 * jn)), .ref o_p, .int o_l])) (f_o_p : f o_p = .inl (cI, o_n, .inl o_c)) (hd : 0 ≤ d.toInt ∧ d.toInt ≤ 1000) : Met l yX5_isTurned wsX5_isTurned ({ frames := 2, cells := 0, slots := 0, locals := 43 }) (P0 D cI cR cM [.ref b, .ref o, .int d] sz (va_pl L f)) (QP (fun r => (r.toInt = 0 ∨ r.toInt = 1)) sz) 0 0 (va_A [] sz) := by
  refine go (cc := cX5_isTurned) (maxL := 5) (ret := (some .boolean)) (by decide +kernel) rfl (Nat.le_of_ble_eq_true rfl) ?_
  intro p e s m below meth c ls args Q hQ hsz hx hb hr hml hts hown hlocks hnm hP hK hD hl
  subst hsz
  have hS : va_S (va_A [] s.heap.size) s.heap s.heap [] := va_S.rf
  have hA : ∀ q, s.heap.size ≤ q → va_A [] s.heap.size q := fun q h => Or.inr h
  have hl : lv_has ls 5 [(0, .ref b), (1, .ref o), (2, .int d)] := hl
  obtain ⟨v1_b, v2_b, v3_b, m_b_p, s_b_p⟩ := iv_0 hI m_b s_b f_b
  obtain ⟨w1_b, w2_b, w3_b, w4_b, w5_b⟩ := lenw hj v1_b v2_b v3_b
  have k_b := iv_1 hI m_b_p s_b_p f_b_p
  obtain ⟨v1_o, v2_o, v3_o, m_o_p, s_o_p⟩ := iv_0 hI m_o s_o f_o
  obtain ⟨w1_o, w2_o, w3_o, w4_o, w5_o⟩ := lenw hj v1_o v2_o v3_o
  have k_o := iv_1 hI m_o_p s_o_p f_o_p
  refine lv_iconst (v := 0) hx hb dX5_isTurned_0 (by decide) ?_
  refine lv_istore_n (lv' := [(3, .int 0), (0, .ref b), (1, .ref o), (2, .int d)]) hx hb dX5_isTurned_1 rfl hl (by decide) rfl (fun ls hl => ?_)
  have loop2 : ∀ (ddloop2 : Nat) (ce : Int32) (H : Heap) (locs : List Loc) (ls : Array Slot), (200 - ce.toInt).toNat < ddloop2 → (0 ≤ ce.toInt ∧ ce.toInt ≤ 144) → va_P D vwCl (va_pl L f) H → va_S (va_A [] s.heap.size) s.heap H locs → lv_has ls 5 [(0, .ref b), (1, .ref o), (2, .int d), (3, .int ce)] → W p l e ({ frames := 2, cells := 0, slots := 0, locals := 43 }) s m args below meth c H locs 0 0 Q (F0 m 2 ls []) := by
    intro ddloop2
    induction ddloop2 with
    | zero =>
      intro ce H locs ls hdd
      exact absurd hdd (Nat.not_lt_zero _)
    | succ ddloop2 ih2 =>
      intro ce H locs ls hdd hi hP hS hl
      refine lv_iload_n hx hb dX5_isTurned_2 rfl (lv_at hl 3 rfl) ?_
      refine lv_aload_n hx hb dX5_isTurned_3 rfl (lv_at hl 0 rfl) ?_
      refine roP (va_runV (As := []) (rest := [.int ce]) ⟨hx, hb, hml, hown, hts⟩ (t_X5_cellCount l D cI cR cM _  hj hG hI m_b s_b f_b f_b_p ) (cwV 0 hts gX5_isTurned_X5_cellCount rfl rfl rfl (by decide +kernel) ⟨Nat.le_of_ble_eq_true rfl, Nat.le_of_ble_eq_true rfl⟩) (pre_T hK hP hD m_b f_b rfl) rfl rfl hl.1 rfl (lv_room (Nat.le_of_ble_eq_true rfl)) dX5_isTurned_4 ⟨Nat.le_of_ble_eq_true rfl, Nat.le_of_ble_eq_true rfl⟩) hS hA hP (fun r_2 H locs hw hP hS => ?_)
      have h_2 : (r_2.toInt = b_l.toInt * (2 * (jn : Int))) := hw
      refine a_icmp_ge (u := ce.toInt) (v := r_2.toInt) (tgt := 57) hx hb dX5_isTurned_7 (by decide) (rfl) (rfl) (fun c_3 => ?_) (fun c_3 => ?_)
      · refine lv_iconst (v := 1) hx hb dX5_isTurned_57 (by decide) ?_
        have hz_4 : (1 : Int32).toInt = 1 := by decide
        exact rp_zret hx hb hr hlocks hS (by first | exact Or.inl rfl | exact Or.inr rfl) (show (1 : Int32).toInt = 0 ∨ (1 : Int32).toInt = 1 from (by first | assumption | omega | (rcases j3 hj with h9 | h9 | h9 <;> subst h9 <;> omega))) hQ dX5_isTurned_58
      · refine lv_aload_n hx hb dX5_isTurned_10 rfl (lv_at hl 1 rfl) ?_
        refine lv_aload_n hx hb dX5_isTurned_11 rfl (lv_at hl 0 rfl) ?_
        refine lv_iload_n hx hb dX5_isTurned_12 rfl (lv_at hl 3 rfl) ?_
        refine roP (va_runV (As := [.int ce]) (rest := [.ref o]) ⟨hx, hb, hml, hown, hts⟩ (t_X5_beatOf l D cI cR cM _  hj hG hI m_b s_b f_b f_b_p ) (cwV 1 hts gX5_isTurned_X5_beatOf rfl rfl rfl (by decide +kernel) ⟨Nat.le_of_ble_eq_true rfl, Nat.le_of_ble_eq_true rfl⟩) (pre_T hK hP hD m_b f_b rfl) rfl rfl hl.1 rfl (lv_room (Nat.le_of_ble_eq_true rfl)) dX5_isTurned_13 ⟨Nat.le_of_ble_eq_true rfl, Nat.le_of_ble_eq_true rfl⟩) hS hA hP (fun r_5 H locs hw hP hS => ?_)
        have h_5 : (0 ≤ ce.toInt → 0 ≤ r_5.toInt ∧ r_5.toInt ≤ ce.toInt) := hw
        refine lv_iload_n hx hb dX5_isTurned_16 rfl (lv_at hl 2 rfl) ?_
        refine a_iadd (u := r_5.toInt) (v := d.toInt) hx hb dX5_isTurned_17 (rfl) (rfl) (by rcases j3 hj with h9 | h9 | h9 <;> subst h9 <;> omega) (fun z_6 e_6 => ?_)
        refine roP (va_runV (As := [.int z_6]) (rest := []) ⟨hx, hb, hml, hown, hts⟩ (t_X5_beatInRound l D cI cR cM _  hj hG hI m_o s_o f_o f_o_p ) (cwV 1 hts gX5_isTurned_X5_beatInRound rfl rfl rfl (by decide +kernel) ⟨Nat.le_of_ble_eq_true rfl, Nat.le_of_ble_eq_true rfl⟩) (pre_T hK hP hD m_o f_o rfl) rfl rfl hl.1 rfl (lv_room (Nat.le_of_ble_eq_true rfl)) dX5_isTurned_18 ⟨Nat.le_of_ble_eq_true rfl, Nat.le_of_ble_eq_true rfl⟩) hS hA hP (fun r_7 H locs hw hP hS => ?_)
        have h_7 : (0 ≤ r_7.toInt ∧ (r_7.toInt < o_l.toInt ∨ r_7.toInt = 0)) := hw
        refine lv_aload_n hx hb dX5_isTurned_21 rfl (lv_at hl 0 rfl) ?_
        refine t_get (D := D) (L := L) (f := f) (ci := 5) (v := .int (nI (2 * jn))) (C := RX5) (T := TX5) (N := 4) hx hb hts (by decide +kernel) hown hK.1 hP m_b f_b rfl 1 (by decide) (hts (.fieldLink RX5 21 "JugglingHall$Row" "width" "I") (by decide +kernel)) (fun _ h9 => h9) rfl dX5_isTurned_22 ?_
        refine a_imul (u := r_7.toInt) (v := (2 * (jn : Int))) hx hb dX5_isTurned_25 (rfl) (w2 hj) (by rcases j3 hj with h9 | h9 | h9 <;> subst h9 <;> omega) (fun z_8 e_8 => ?_)
        refine lv_iload_n hx hb dX5_isTurned_26 rfl (lv_at hl 3 rfl) ?_
        refine lv_aload_n hx hb dX5_isTurned_27 rfl (lv_at hl 0 rfl) ?_
        refine t_get (D := D) (L := L) (f := f) (ci := 5) (v := .int (nI (2 * jn))) (C := RX5) (T := TX5) (N := 4) hx hb hts (by decide +kernel) hown hK.1 hP m_b f_b rfl 1 (by decide) (hts (.fieldLink RX5 21 "JugglingHall$Row" "width" "I") (by decide +kernel)) (fun _ h9 => h9) rfl dX5_isTurned_28 ?_
        refine a_irem (u := ce.toInt) (v := (2 * (jn : Int))) hx hb dX5_isTurned_31 (rfl) (w2 hj) (by rcases j3 hj with h9 | h9 | h9 <;> subst h9 <;> omega) (fun z_9 e_9 h_9 k_9 => ?_)
        refine a_iadd (u := (r_7.toInt * (2 * (jn : Int)))) (v := z_9.toInt) hx hb dX5_isTurned_32 (e_8) (rfl) (by rcases j3 hj with h9 | h9 | h9 <;> subst h9 <;> omega) (fun z_10 e_10 => ?_)
        refine lv_istore (lv' := [(4, .int z_10), (0, .ref b), (1, .ref o), (2, .int d), (3, .int ce)]) hx hb dX5_isTurned_33 hl (by decide) rfl (fun ls hl => ?_)
        refine lv_aload_n hx hb dX5_isTurned_35 rfl (lv_at hl 1 rfl) ?_
        refine lv_iload_n hx hb dX5_isTurned_36 rfl (lv_at hl 4 rfl) ?_
        refine roP (va_runV (As := [.int ce]) (rest := []) ⟨hx, hb, hml, hown, hts⟩ (t_X5_code l D cI cR cM _  hj hG hI m_b s_b f_b f_b_p ) (cwV 1 hts gX5_isTurned_X5_code rfl rfl rfl (by decide +kernel) ⟨Nat.le_of_ble_eq_true rfl, Nat.le_of_ble_eq_true rfl⟩) (pre_T hK hP hD m_b f_b rfl) rfl rfl hl.1 rfl (lv_room (Nat.le_of_ble_eq_true rfl)) dX5_isTurned_37 ⟨Nat.le_of_ble_eq_true rfl, Nat.le_of_ble_eq_true rfl⟩) hS hA hP (fun r_11 H locs hw hP hS => ?_)
        have h_11 : (0 ≤ r_11.toInt ∧ r_11.toInt < 40) := hw
        refine lv_aload_n hx hb dX5_isTurned_40 rfl (lv_at hl 2 rfl) ?_
        refine lv_iload hx hb dX5_isTurned_41 (lv_at hl 0 rfl) ?_
        refine roP (va_runV (As := [.int z_10]) (rest := [.int r_11]) ⟨hx, hb, hml, hown, hts⟩ (t_X5_code l D cI cR cM _  hj hG hI m_o s_o f_o f_o_p ) (cwV 1 hts gX5_isTurned_X5_code rfl rfl rfl (by decide +kernel) ⟨Nat.le_of_ble_eq_true rfl, Nat.le_of_ble_eq_true rfl⟩) (pre_T hK hP hD m_o f_o rfl) rfl rfl hl.1 rfl (lv_room (Nat.le_of_ble_eq_true rfl)) dX5_isTurned_43 ⟨Nat.le_of_ble_eq_true rfl, Nat.le_of_ble_eq_true rfl⟩) hS hA hP (fun r_12 H locs hw hP hS => ?_)
        have h_12 : (0 ≤ r_12.toInt ∧ r_12.toInt < 40) := hw
        refine a_icmp_eq (u := r_11.toInt) (v := r_12.toInt) (tgt := 51) hx hb dX5_isTurned_46 (by decide) (rfl) (rfl) (fun c_13 => ?_) (fun c_13 => ?_)
        · obtain ⟨z_14, q_14, e_14⟩ := i_inc (a := ce.toInt) (1) (rfl) (by decide) (by rcases j3 hj with h9 | h9 | h9 <;> subst h9 <;> omega) (by rcases j3 hj with h9 | h9 | h9 <;> subst h9 <;> omega)
          refine lv_iinc (v := z_14) (lv' := [(3, .int z_14), (4, .int z_10), (0, .ref b), (1, .ref o), (2, .int d)]) hx hb dX5_isTurned_51 hl (k := 4) rfl q_14 (by decide) rfl (fun ls hl => ?_)
          refine lv_goto (tgt := 2) hx hb dX5_isTurned_54 (by decide) ?_
          exact ih2 z_14 _ _ _ (by rcases j3 hj with h9 | h9 | h9 <;> subst h9 <;> omega) (by first | assumption | omega | (rcases j3 hj with h9 | h9 | h9 <;> subst h9 <;> omega)) hP hS (lv_sub hl [2, 3, 4, 0] rfl)
        · refine lv_iconst (v := 0) hx hb dX5_isTurned_49 (by decide) ?_
          have hz_15 : (0 : Int32).toInt = 0 := by decide
          exact rp_zret hx hb hr hlocks hS (by first | exact Or.inl rfl | exact Or.inr rfl) (show (0 : Int32).toInt = 0 ∨ (0 : Int32).toInt = 1 from (by first | assumption | omega | (rcases j3 hj with h9 | h9 | h9 <;> subst h9 <;> omega))) hQ dX5_isTurned_50
  have hz_16 : (0 : Int32).toInt = 0 := by decide
  exact loop2 ((200 - (0 : Int32).toInt).toNat + 1) (0 : Int32) _ _ _ (by rcases j3 hj with h9 | h9 | h9 <;> subst h9 <;> omega) (by first | assumption | omega | (rcases j3 hj with h9 | h9 | h9 <;> subst h9 <;> omega)) hP hS (lv_sub hl [1, 2, 3, 0] rfl)
set_option maxRecDepth 100000 in
set_option maxHeartbeats 4000000 in
theorem t_X5_reset (l : Launch) (D : va_G) (cI cR cM : ClassId) (sz : Nat) {jn : Nat} {g : Nat → Nat} {L : List Nat} {S : Sg} {f : Nat → va_E} {b b_p b_n : Nat} {b_l : Int32} {b_c : Nat → Int32} {x : Int32}  (hj : 1 ≤ jn ∧ jn ≤ 3) (hG : SG g L S) (hI : IN jn cI cR cM g L S f) (m_b : b ∈ L) (s_b : S b = (0, b_p, b_n)) (f_b : f b = .inr (5, [.int (nI jn), .int (nI (2 * jn)), .ref b_p, .int b_l])) (f_b_p : f b_p = .inl (cI, b_n, .inl b_c))  : Met l yX5_reset wsX5_reset ({ frames := 1, cells := 0, slots := 0, locals := 23 }) (P0 D cI cR cM [.ref b, .int x] sz (va_pl L f)) (QG (S := Nat → va_E) (fun u => none) (fun u => va_pl L u) (fun u => IN jn cI cR cM g L S u ∧ FR S [0, 1] f u) D (va_A (va_pl L f) sz)) 0 0 (va_A (va_pl L f) sz) := by
  refine go (cc := cX5_reset) (maxL := 2) (ret := none) (by decide +kernel) rfl (Nat.le_of_ble_eq_true rfl) ?_
  intro p e s m below meth c ls args Q hQ hsz hx hb hr hml hts hown hlocks hnm hP hK hD hl
  subst hsz
  have hD := hD.self (sz := s.heap.size)
  generalize hAe : va_A (va_pl L f) s.heap.size = A at hD hQ
  have hA : ∀ q, s.heap.size ≤ q → A q := fun q h => by rw [← hAe]; exact Or.inr h
  have hS : va_S A s.heap s.heap [] := va_S.rf
  have hF : FR S [0, 1] f f := FR_rf
  have hl : lv_has ls 2 [(0, .ref b), (1, .int x)] := hl
  obtain ⟨v1_b, v2_b, v3_b, m_b_p, s_b_p⟩ := iv_0 hI m_b s_b f_b
  obtain ⟨w1_b, w2_b, w3_b, w4_b, w5_b⟩ := lenw hj v1_b v2_b v3_b
  have k_b := iv_1 hI m_b_p s_b_p f_b_p
  refine lv_aload_n hx hb dX5_reset_0 rfl (lv_at hl 0 rfl) ?_
  refine lv_iconst (v := 0) hx hb dX5_reset_1 (by decide) ?_
  refine lv_iload_n hx hb dX5_reset_2 rfl (lv_at hl 1 rfl) ?_
  refine lv_aload_n hx hb dX5_reset_3 rfl (lv_at hl 0 rfl) ?_
  refine t_get (D := D) (L := L) (f := f) (ci := 5) (v := .ref b_p) (C := RX5) (T := TX5) (N := 4) hx hb hts (by decide +kernel) hown hK.1 hP m_b f_b rfl 2 (by decide) (hts (.fieldLink RX5 24 "JugglingHall$Row" "cells" "[I") (by decide +kernel)) (fun _ h9 => h9) rfl dX5_reset_4 ?_
  refine t_alen (L := L) (f := f) (v := nI b_n) hx hb hK.1 hP m_b_p 0 f_b_p rfl rfl dX5_reset_7 ?_
  refine lv_aload_n hx hb dX5_reset_8 rfl (lv_at hl 0 rfl) ?_
  refine t_get (D := D) (L := L) (f := f) (ci := 5) (v := .int (nI (2 * jn))) (C := RX5) (T := TX5) (N := 4) hx hb hts (by decide +kernel) hown hK.1 hP m_b f_b rfl 1 (by decide) (hts (.fieldLink RX5 21 "JugglingHall$Row" "width" "I") (by decide +kernel)) (fun _ h9 => h9) rfl dX5_reset_9 ?_
  refine a_idiv (u := (b_n : Int)) (v := (2 * (jn : Int))) hx hb dX5_reset_12 (nI_toInt (by rcases j3 hj with h9 | h9 | h9 <;> subst h9 <;> omega)) (w2 hj) (by rcases j3 hj with h9 | h9 | h9 <;> subst h9 <;> omega) (fun z_1 e_1 => ?_)
  refine va_mmin hx hb (by rw [hml]; exact hl.1.symm) hown (hts (.methodLink RX5 57 Lib.Math.min.name) (by decide +kernel)) (hts (.static Lib.Math.min.name) (by decide +kernel)) (hts (.initialized "java/lang/Math") (by decide +kernel)) (hts (.code Lib.Math.min.name Lib.Math.min.code 2 (some .int)) (by decide +kernel)) (Nat.le_of_ble_eq_true rfl) (Nat.le_of_ble_eq_true rfl) (Nat.le_of_ble_eq_true rfl) (Nat.le_of_ble_eq_true rfl) dX5_reset_13 ?_
  refine lv_topi (fun z_2 q_2 => ?_)
  obtain ⟨e1_2, e2_2, e3_2⟩ := i_min (u := x.toInt) (v := ((b_n : Int) / (2 * (jn : Int)))) (rfl) (e_1) q_2
  refine va_mmax hx hb (by rw [hml]; exact hl.1.symm) hown (hts (.methodLink RX5 9 Lib.Math.max.name) (by decide +kernel)) (hts (.static Lib.Math.max.name) (by decide +kernel)) (hts (.initialized "java/lang/Math") (by decide +kernel)) (hts (.code Lib.Math.max.name Lib.Math.max.code 2 (some .int)) (by decide +kernel)) (Nat.le_of_ble_eq_true rfl) (Nat.le_of_ble_eq_true rfl) (Nat.le_of_ble_eq_true rfl) (Nat.le_of_ble_eq_true rfl) dX5_reset_16 ?_
  refine lv_topi (fun z_3 q_3 => ?_)
  obtain ⟨e1_3, e2_3, e3_3⟩ := i_max (u := 0) (v := z_2.toInt) (by decide) (rfl) q_3
  refine t_put (D := D) (L := L) (f := f) (ci := 5) (v := .int z_3) (ty := .int) (C := RX5) (T := TX5) (N := 4) hx hb hts (by decide +kernel) tyX5 tyX5_ok nmX5 hown hK.1 hP hD hS m_b f_b rfl 3 (by decide) (hts (.fieldLink RX5 28 "JugglingHall$Row" "length" "I") (by decide +kernel)) (fun _ h9 => h9) rfl (by decide +kernel) rfl rfl (Nat.le_of_ble_eq_true rfl) dX5_reset_19 (fun f_4 H locs e9_4 o_4 hP hD hS => ?_)
  have fa_4 : f_4 b = .inr (5, [.int (nI jn), .int (nI (2 * jn)), .ref b_p, .int z_3]) := e9_4
  have hI := IN_set (e := .inr (5, [.int (nI jn), .int (nI (2 * jn)), .ref b_p, .int z_3])) hI s_b (mk_0 (by first | assumption | omega | (rcases j3 hj with h9 | h9 | h9 <;> subst h9 <;> omega)) (by first | assumption | omega | (rcases j3 hj with h9 | h9 | h9 <;> subst h9 <;> omega)) (by first | assumption | omega | (rcases j3 hj with h9 | h9 | h9 <;> subst h9 <;> omega)) (by first | assumption | omega | (rcases j3 hj with h9 | h9 | h9 <;> subst h9 <;> omega)) (by first | assumption | omega | (rcases j3 hj with h9 | h9 | h9 <;> subst h9 <;> omega))) fa_4 o_4
  have hF := FR_set hF s_b (show (0 : Nat) ∈ ([0, 1] : List Nat) by decide) o_4
  have fb_5 : f_4 b_p = .inl (cI, b_n, .inl b_c) := f_at o_4 (S_ne s_b_p s_b (show (1 : Nat) ≠ 0 by decide)) f_b_p
  refine lv_aload_n hx hb dX5_reset_22 rfl (lv_at hl 0 rfl) ?_
  refine t_get (D := D) (L := L) (f := f_4) (ci := 5) (v := .ref b_p) (C := RX5) (T := TX5) (N := 4) hx hb hts (by decide +kernel) hown hK.1 hP m_b fa_4 rfl 2 (by decide) (hts (.fieldLink RX5 24 "JugglingHall$Row" "cells" "[I") (by decide +kernel)) (fun _ h9 => h9) rfl dX5_reset_23 ?_
  refine lv_iconst (v := 0) hx hb dX5_reset_26 (by decide) ?_
  have hP1 := p_one hP m_b_p fb_5
  have hD1 := d_one b_p (.inl (cI, b_n, .inl b_c))
  refine call_1 (f := f_4) (w1 := fun k9 => .inl (cI, b_n, .inl k9)) (va_runS (As := [.ref b_p, .int 0]) (rest := []) ⟨hx, hb, hml, hown, hts⟩ (c_fill l D cI cR cM _ (n := b_n) (by rcases j3 hj with h9 | h9 | h9 <;> subst h9 <;> omega) b_c b_p (0 : Int32)) (va_cwS 2 hts gX5_reset_J7_fill_53178 rfl rfl rfl (by decide +kernel) ⟨Nat.le_of_ble_eq_true rfl, Nat.le_of_ble_eq_true rfl⟩) (pre_S hK hP1 hD1) rfl rfl hl.1 rfl (lv_room (Nat.le_of_ble_eq_true rfl)) dX5_reset_27 ⟨Nat.le_of_ble_eq_true rfl, Nat.le_of_ble_eq_true rfl⟩) hP hD hS hA m_b_p (fun g_6 f_6 H locs hw_6 e9_6 o_6 hP hD hS => ?_)
  have hw_6 : ∀ j, j < b_n → g_6 j = (0 : Int32) := hw_6
  have ok_6 : cOK jn b_n g_6 := cOK_0 hw_6
  have fa_6 : f_6 b_p = .inl (cI, b_n, .inl g_6) := e9_6
  have hI := IN_set (e := .inl (cI, b_n, .inl g_6)) hI s_b_p (mk_1 ok_6) fa_6 o_6
  have hF := FR_set hF s_b_p (show (1 : Nat) ∈ ([0, 1] : List Nat) by decide) o_6
  have fb_7 : f_6 b = .inr (5, [.int (nI jn), .int (nI (2 * jn)), .ref b_p, .int z_3]) := f_at o_6 (S_ne s_b s_b_p (show (0 : Nat) ≠ 1 by decide)) fa_4
  exact g_vret f_6 hx hb hr hlocks hS rfl (⟨hI, hF⟩) hP hD hQ (Nat.le_of_ble_eq_true rfl) (Nat.le_of_ble_eq_true rfl) dX5_reset_30
set_option maxRecDepth 100000 in
set_option maxHeartbeats 4000000 in
theorem t_X5_put (l : Launch) (D : va_G) (cI cR cM : ClassId) (sz : Nat) {jn : Nat} {g : Nat → Nat} {L : List Nat} {S : Sg} {f : Nat → va_E} {b b_p b_n : Nat} {b_l : Int32} {b_c : Nat → Int32} {x y k t : Int32}  (hj : 1 ≤ jn ∧ jn ≤ 3) (hG : SG g L S) (hI : IN jn cI cR cM g L S f) (m_b : b ∈ L) (s_b : S b = (0, b_p, b_n)) (f_b : f b = .inr (5, [.int (nI jn), .int (nI (2 * jn)), .ref b_p, .int b_l])) (f_b_p : f b_p = .inl (cI, b_n, .inl b_c)) (hb0 : -1000 ≤ x.toInt ∧ x.toInt ≤ 1000) (hy0 : -1000 ≤ y.toInt ∧ y.toInt ≤ 1000) (hk0 : 0 ≤ k.toInt ∧ k.toInt ≤ 9) (ht0 : k.toInt = 0 ∨ (0 ≤ t.toInt ∧ t.toInt < (jn : Int))) : Met l yX5_put wsX5_put ({ frames := 0, cells := 0, slots := 0, locals := 0 }) (P0 D cI cR cM [.ref b, .int x, .int y, .int k, .int t] sz (va_pl L f)) (QG (S := Int32 × (Nat → va_E)) (fun u => some (.int u.1)) (fun u => va_pl L u.2) (fun u => IN jn cI cR cM g L S u.2 ∧ FR S [1] f u.2 ∧ (u.1.toInt = 0 ∨ u.1.toInt = 1)) D (va_A (va_pl L f) sz)) 0 0 (va_A (va_pl L f) sz) := by
  refine go (cc := cX5_put) (maxL := 7) (ret := (some .boolean)) (by decide +kernel) rfl (Nat.le_of_ble_eq_true rfl) ?_
  intro p e s m below meth c ls args Q hQ hsz hx hb hr hml hts hown hlocks hnm hP hK hD hl
  subst hsz
  have hD := hD.self (sz := s.heap.size)
  generalize hAe : va_A (va_pl L f) s.heap.size = A at hD hQ
  have hA : ∀ q, s.heap.size ≤ q → A q := fun q h => by rw [← hAe]; exact Or.inr h
  have hS : va_S A s.heap s.heap [] := va_S.rf
  have hF : FR S [1] f f := FR_rf
  have hl : lv_has ls 7 [(0, .ref b), (1, .int x), (2, .int y), (3, .int k), (4, .int t)] := hl
  obtain ⟨v1_b, v2_b, v3_b, m_b_p, s_b_p⟩ := iv_0 hI m_b s_b f_b
  obtain ⟨w1_b, w2_b, w3_b, w4_b, w5_b⟩ := lenw hj v1_b v2_b v3_b
  have k_b := iv_1 hI m_b_p s_b_p f_b_p
  refine lv_iload_n hx hb dX5_put_0 rfl (lv_at hl 3 rfl) ?_
  refine a_if_ne (u := k.toInt) (tgt := 6) hx hb dX5_put_1 (by decide) (rfl) (fun c_1 => ?_) (fun c_1 => ?_)
  · refine lv_iload_n hx hb dX5_put_6 rfl (lv_at hl 1 rfl) ?_
    refine lv_aload_n hx hb dX5_put_7 rfl (lv_at hl 0 rfl) ?_
    refine t_get (D := D) (L := L) (f := f) (ci := 5) (v := .int (nI (2 * jn))) (C := RX5) (T := TX5) (N := 4) hx hb hts (by decide +kernel) hown hK.1 hP m_b f_b rfl 1 (by decide) (hts (.fieldLink RX5 21 "JugglingHall$Row" "width" "I") (by decide +kernel)) (fun _ h9 => h9) rfl dX5_put_8 ?_
    refine a_imul (u := x.toInt) (v := (2 * (jn : Int))) hx hb dX5_put_11 (rfl) (w2 hj) (by rcases j3 hj with h9 | h9 | h9 <;> subst h9 <;> omega) (fun z_2 e_2 => ?_)
    refine lv_iload_n hx hb dX5_put_12 rfl (lv_at hl 2 rfl) ?_
    refine lv_iconst (v := 2) hx hb dX5_put_13 (by decide) ?_
    refine a_imul (u := y.toInt) (v := 2) hx hb dX5_put_14 (rfl) (by decide) (by rcases j3 hj with h9 | h9 | h9 <;> subst h9 <;> omega) (fun z_3 e_3 => ?_)
    refine a_iadd (u := (x.toInt * (2 * (jn : Int)))) (v := (y.toInt * 2)) hx hb dX5_put_15 (e_2) (e_3) (by rcases j3 hj with h9 | h9 | h9 <;> subst h9 <;> omega) (fun z_4 e_4 => ?_)
    refine lv_istore (lv' := [(5, .int z_4), (0, .ref b), (1, .int x), (2, .int y), (3, .int k), (4, .int t)]) hx hb dX5_put_16 hl (by decide) rfl (fun ls hl => ?_)
    refine lv_iload hx hb dX5_put_18 (lv_at hl 0 rfl) ?_
    refine a_if_lt (u := ((x.toInt * (2 * (jn : Int))) + (y.toInt * 2))) (tgt := 47) hx hb dX5_put_20 (by decide) (e_4) (fun c_5 => ?_) (fun c_5 => ?_)
    · refine lv_iconst (v := 0) hx hb dX5_put_47 (by decide) ?_
      have hz_6 : (0 : Int32).toInt = 0 := by decide
      exact g_zret ((0 : Int32), f) hx hb hr hlocks hS (by first | exact Or.inl rfl | exact Or.inr rfl) rfl (⟨hI, hF, show (0 : Int32).toInt = 0 ∨ (0 : Int32).toInt = 1 from (by first | assumption | omega | (rcases j3 hj with h9 | h9 | h9 <;> subst h9 <;> omega))⟩) hP hD hQ (Nat.le_of_ble_eq_true rfl) (Nat.le_of_ble_eq_true rfl) dX5_put_48
    · refine lv_iload hx hb dX5_put_23 (lv_at hl 0 rfl) ?_
      refine lv_iconst (v := 1) hx hb dX5_put_25 (by decide) ?_
      refine a_iadd (u := ((x.toInt * (2 * (jn : Int))) + (y.toInt * 2))) (v := 1) hx hb dX5_put_26 (e_4) (by decide) (by rcases j3 hj with h9 | h9 | h9 <;> subst h9 <;> omega) (fun z_7 e_7 => ?_)
      refine lv_aload_n hx hb dX5_put_27 rfl (lv_at hl 1 rfl) ?_
      refine t_get (D := D) (L := L) (f := f) (ci := 5) (v := .ref b_p) (C := RX5) (T := TX5) (N := 4) hx hb hts (by decide +kernel) hown hK.1 hP m_b f_b rfl 2 (by decide) (hts (.fieldLink RX5 24 "JugglingHall$Row" "cells" "[I") (by decide +kernel)) (fun _ h9 => h9) rfl dX5_put_28 ?_
      refine t_alen (L := L) (f := f) (v := nI b_n) hx hb hK.1 hP m_b_p 0 f_b_p rfl rfl dX5_put_31 ?_
      refine a_icmp_ge (u := z_7.toInt) (v := (b_n : Int)) (tgt := 47) hx hb dX5_put_32 (by decide) (rfl) (nI_toInt (by rcases j3 hj with h9 | h9 | h9 <;> subst h9 <;> omega)) (fun c_8 => ?_) (fun c_8 => ?_)
      · refine lv_iconst (v := 0) hx hb dX5_put_47 (by decide) ?_
        have hz_9 : (0 : Int32).toInt = 0 := by decide
        exact g_zret ((0 : Int32), f) hx hb hr hlocks hS (by first | exact Or.inl rfl | exact Or.inr rfl) rfl (⟨hI, hF, show (0 : Int32).toInt = 0 ∨ (0 : Int32).toInt = 1 from (by first | assumption | omega | (rcases j3 hj with h9 | h9 | h9 <;> subst h9 <;> omega))⟩) hP hD hQ (Nat.le_of_ble_eq_true rfl) (Nat.le_of_ble_eq_true rfl) dX5_put_48
      · refine lv_aload_n hx hb dX5_put_35 rfl (lv_at hl 1 rfl) ?_
        refine t_get (D := D) (L := L) (f := f) (ci := 5) (v := .ref b_p) (C := RX5) (T := TX5) (N := 4) hx hb hts (by decide +kernel) hown hK.1 hP m_b f_b rfl 2 (by decide) (hts (.fieldLink RX5 24 "JugglingHall$Row" "cells" "[I") (by decide +kernel)) (fun _ h9 => h9) rfl dX5_put_36 ?_
        refine lv_iload hx hb dX5_put_39 (lv_at hl 0 rfl) ?_
        refine lv_iconst (v := 1) hx hb dX5_put_41 (by decide) ?_
        refine a_iadd (u := ((x.toInt * (2 * (jn : Int))) + (y.toInt * 2))) (v := 1) hx hb dX5_put_42 (e_4) (by decide) (by rcases j3 hj with h9 | h9 | h9 <;> subst h9 <;> omega) (fun z_10 e_10 => ?_)
        refine t_iald (L := L) (f := f) (y := b_c) (u := z_10.toInt) hx hb hK.1 hP m_b_p 0 f_b_p rfl dX5_put_43 (rfl) (by rcases j3 hj with h9 | h9 | h9 <;> subst h9 <;> omega) (fun z_11 q_11 e_11 => ?_)
        obtain ⟨a1_11, a2_11, a3_11⟩ := at_c k_b (i := z_10.toInt) (by rcases j3 hj with h9 | h9 | h9 <;> subst h9 <;> omega) q_11
        refine a_if_eq (u := z_11.toInt) (tgt := 49) hx hb dX5_put_44 (by decide) (rfl) (fun c_12 => ?_) (fun c_12 => ?_)
        · refine lv_iload_n hx hb dX5_put_49 rfl (lv_at hl 4 rfl) ?_
          refine lv_iconst (v := 4) hx hb dX5_put_50 (by decide) ?_
          refine a_imul (u := k.toInt) (v := 4) hx hb dX5_put_51 (rfl) (by decide) (by rcases j3 hj with h9 | h9 | h9 <;> subst h9 <;> omega) (fun z_13 e_13 => ?_)
          refine lv_iconst (v := 3) hx hb dX5_put_52 (by decide) ?_
          refine a_iadd (u := (k.toInt * 4)) (v := 3) hx hb dX5_put_53 (e_13) (by decide) (by rcases j3 hj with h9 | h9 | h9 <;> subst h9 <;> omega) (fun z_14 e_14 => ?_)
          refine lv_iload hx hb dX5_put_54 (lv_at hl 5 rfl) ?_
          refine a_isub (u := ((k.toInt * 4) + 3)) (v := t.toInt) hx hb dX5_put_56 (e_14) (rfl) (by rcases j3 hj with h9 | h9 | h9 <;> subst h9 <;> omega) (fun z_15 e_15 => ?_)
          refine lv_istore (lv' := [(6, .int z_15), (5, .int z_4), (0, .ref b), (1, .int x), (2, .int y), (3, .int k), (4, .int t)]) hx hb dX5_put_57 hl (by decide) rfl (fun ls hl => ?_)
          refine lv_iload hx hb dX5_put_59 (lv_at hl 0 rfl) ?_
          refine lv_aload_n hx hb dX5_put_61 rfl (lv_at hl 2 rfl) ?_
          refine t_get (D := D) (L := L) (f := f) (ci := 5) (v := .ref b_p) (C := RX5) (T := TX5) (N := 4) hx hb hts (by decide +kernel) hown hK.1 hP m_b f_b rfl 2 (by decide) (hts (.fieldLink RX5 24 "JugglingHall$Row" "cells" "[I") (by decide +kernel)) (fun _ h9 => h9) rfl dX5_put_62 ?_
          refine lv_iload hx hb dX5_put_65 (lv_at hl 1 rfl) ?_
          refine t_iald (L := L) (f := f) (y := b_c) (u := ((x.toInt * (2 * (jn : Int))) + (y.toInt * 2))) hx hb hK.1 hP m_b_p 0 f_b_p rfl dX5_put_67 (e_4) (by rcases j3 hj with h9 | h9 | h9 <;> subst h9 <;> omega) (fun z_16 q_16 e_16 => ?_)
          obtain ⟨a1_16, a2_16, a3_16⟩ := at_c k_b (i := ((x.toInt * (2 * (jn : Int))) + (y.toInt * 2))) (by rcases j3 hj with h9 | h9 | h9 <;> subst h9 <;> omega) q_16
          refine a_icmp_le (u := (((k.toInt * 4) + 3) - t.toInt)) (v := z_16.toInt) (tgt := 99) hx hb dX5_put_68 (by decide) (e_15) (rfl) (fun c_17 => ?_) (fun c_17 => ?_)
          · refine lv_aload_n hx hb dX5_put_99 rfl (lv_at hl 2 rfl) ?_
            refine t_get (D := D) (L := L) (f := f) (ci := 5) (v := .ref b_p) (C := RX5) (T := TX5) (N := 4) hx hb hts (by decide +kernel) hown hK.1 hP m_b f_b rfl 2 (by decide) (hts (.fieldLink RX5 24 "JugglingHall$Row" "cells" "[I") (by decide +kernel)) (fun _ h9 => h9) rfl dX5_put_100 ?_
            refine lv_iload hx hb dX5_put_103 (lv_at hl 1 rfl) ?_
            refine lv_iconst (v := 1) hx hb dX5_put_105 (by decide) ?_
            refine a_iadd (u := ((x.toInt * (2 * (jn : Int))) + (y.toInt * 2))) (v := 1) hx hb dX5_put_106 (e_4) (by decide) (by rcases j3 hj with h9 | h9 | h9 <;> subst h9 <;> omega) (fun z_18 e_18 => ?_)
            refine lv_iload hx hb dX5_put_107 (lv_at hl 0 rfl) ?_
            refine t_iast (L := L) (f := f) (h := b_c) (u := z_18.toInt) hx hb hK.1 hP hD hS m_b_p 0 f_b_p rfl dX5_put_109 (rfl) (by rcases j3 hj with h9 | h9 | h9 <;> subst h9 <;> omega) (fun g_19 f_19 H locs eg_19 e9_19 o_19 hP hD hS => ?_)
            have ok_19 : cOK jn b_n g_19 := by rw [eg_19]; exact cOK_set k_b (by rcases j3 hj with h9 | h9 | h9 <;> subst h9 <;> omega) ⟨by omega, by omega, by omega⟩
            have fa_19 : f_19 b_p = .inl (cI, b_n, .inl g_19) := e9_19
            have hI := IN_set (e := .inl (cI, b_n, .inl g_19)) hI s_b_p (mk_1 ok_19) fa_19 o_19
            have hF := FR_set hF s_b_p (show (1 : Nat) ∈ ([1] : List Nat) by decide) o_19
            have fb_20 : f_19 b = .inr (5, [.int (nI jn), .int (nI (2 * jn)), .ref b_p, .int b_l]) := f_at o_19 (S_ne s_b s_b_p (show (0 : Nat) ≠ 1 by decide)) f_b
            refine lv_iconst (v := 1) hx hb dX5_put_110 (by decide) ?_
            have hz_21 : (1 : Int32).toInt = 1 := by decide
            exact g_zret ((1 : Int32), f_19) hx hb hr hlocks hS (by first | exact Or.inl rfl | exact Or.inr rfl) rfl (⟨hI, hF, show (1 : Int32).toInt = 0 ∨ (1 : Int32).toInt = 1 from (by first | assumption | omega | (rcases j3 hj with h9 | h9 | h9 <;> subst h9 <;> omega))⟩) hP hD hQ (Nat.le_of_ble_eq_true rfl) (Nat.le_of_ble_eq_true rfl) dX5_put_111
          · refine lv_aload_n hx hb dX5_put_71 rfl (lv_at hl 2 rfl) ?_
            refine t_get (D := D) (L := L) (f := f) (ci := 5) (v := .ref b_p) (C := RX5) (T := TX5) (N := 4) hx hb hts (by decide +kernel) hown hK.1 hP m_b f_b rfl 2 (by decide) (hts (.fieldLink RX5 24 "JugglingHall$Row" "cells" "[I") (by decide +kernel)) (fun _ h9 => h9) rfl dX5_put_72 ?_
            refine lv_iload hx hb dX5_put_75 (lv_at hl 1 rfl) ?_
            refine lv_iconst (v := 1) hx hb dX5_put_77 (by decide) ?_
            refine a_iadd (u := ((x.toInt * (2 * (jn : Int))) + (y.toInt * 2))) (v := 1) hx hb dX5_put_78 (e_4) (by decide) (by rcases j3 hj with h9 | h9 | h9 <;> subst h9 <;> omega) (fun z_22 e_22 => ?_)
            refine lv_aload_n hx hb dX5_put_79 rfl (lv_at hl 2 rfl) ?_
            refine t_get (D := D) (L := L) (f := f) (ci := 5) (v := .ref b_p) (C := RX5) (T := TX5) (N := 4) hx hb hts (by decide +kernel) hown hK.1 hP m_b f_b rfl 2 (by decide) (hts (.fieldLink RX5 24 "JugglingHall$Row" "cells" "[I") (by decide +kernel)) (fun _ h9 => h9) rfl dX5_put_80 ?_
            refine lv_iload hx hb dX5_put_83 (lv_at hl 1 rfl) ?_
            refine t_iald (L := L) (f := f) (y := b_c) (u := ((x.toInt * (2 * (jn : Int))) + (y.toInt * 2))) hx hb hK.1 hP m_b_p 0 f_b_p rfl dX5_put_85 (e_4) (by rcases j3 hj with h9 | h9 | h9 <;> subst h9 <;> omega) (fun z_23 q_23 e_23 => ?_)
            obtain ⟨a1_23, a2_23, a3_23⟩ := at_c k_b (i := ((x.toInt * (2 * (jn : Int))) + (y.toInt * 2))) (by rcases j3 hj with h9 | h9 | h9 <;> subst h9 <;> omega) q_23
            refine t_iast (L := L) (f := f) (h := b_c) (u := z_22.toInt) hx hb hK.1 hP hD hS m_b_p 0 f_b_p rfl dX5_put_86 (rfl) (by rcases j3 hj with h9 | h9 | h9 <;> subst h9 <;> omega) (fun g_24 f_24 H locs eg_24 e9_24 o_24 hP hD hS => ?_)
            have ok_24 : cOK jn b_n g_24 := by rw [eg_24]; exact cOK_set k_b (by rcases j3 hj with h9 | h9 | h9 <;> subst h9 <;> omega) ⟨by omega, by omega, by omega⟩
            have fa_24 : f_24 b_p = .inl (cI, b_n, .inl g_24) := e9_24
            have hI := IN_set (e := .inl (cI, b_n, .inl g_24)) hI s_b_p (mk_1 ok_24) fa_24 o_24
            have hF := FR_set hF s_b_p (show (1 : Nat) ∈ ([1] : List Nat) by decide) o_24
            have fb_25 : f_24 b = .inr (5, [.int (nI jn), .int (nI (2 * jn)), .ref b_p, .int b_l]) := f_at o_24 (S_ne s_b s_b_p (show (0 : Nat) ≠ 1 by decide)) f_b
            refine lv_aload_n hx hb dX5_put_87 rfl (lv_at hl 2 rfl) ?_
            refine t_get (D := D) (L := L) (f := f_24) (ci := 5) (v := .ref b_p) (C := RX5) (T := TX5) (N := 4) hx hb hts (by decide +kernel) hown hK.1 hP m_b fb_25 rfl 2 (by decide) (hts (.fieldLink RX5 24 "JugglingHall$Row" "cells" "[I") (by decide +kernel)) (fun _ h9 => h9) rfl dX5_put_88 ?_
            refine lv_iload hx hb dX5_put_91 (lv_at hl 1 rfl) ?_
            refine lv_iload hx hb dX5_put_93 (lv_at hl 0 rfl) ?_
            refine t_iast (L := L) (f := f_24) (h := g_24) (u := ((x.toInt * (2 * (jn : Int))) + (y.toInt * 2))) hx hb hK.1 hP hD hS m_b_p 0 fa_24 rfl dX5_put_95 (e_4) (by rcases j3 hj with h9 | h9 | h9 <;> subst h9 <;> omega) (fun g_26 f_26 H locs eg_26 e9_26 o_26 hP hD hS => ?_)
            have ok_26 : cOK jn b_n g_26 := by rw [eg_26]; exact cOK_set ok_24 (by rcases j3 hj with h9 | h9 | h9 <;> subst h9 <;> omega) ⟨by omega, by omega, by omega⟩
            have fa_26 : f_26 b_p = .inl (cI, b_n, .inl g_26) := e9_26
            have hI := IN_set (e := .inl (cI, b_n, .inl g_26)) hI s_b_p (mk_1 ok_26) fa_26 o_26
            have hF := FR_set hF s_b_p (show (1 : Nat) ∈ ([1] : List Nat) by decide) o_26
            have fb_27 : f_26 b = .inr (5, [.int (nI jn), .int (nI (2 * jn)), .ref b_p, .int b_l]) := f_at o_26 (S_ne s_b s_b_p (show (0 : Nat) ≠ 1 by decide)) fb_25
            refine lv_goto (tgt := 110) hx hb dX5_put_96 (by decide) ?_
            refine lv_iconst (v := 1) hx hb dX5_put_110 (by decide) ?_
            have hz_28 : (1 : Int32).toInt = 1 := by decide
            exact g_zret ((1 : Int32), f_26) hx hb hr hlocks hS (by first | exact Or.inl rfl | exact Or.inr rfl) rfl (⟨hI, hF, show (1 : Int32).toInt = 0 ∨ (1 : Int32).toInt = 1 from (by first | assumption | omega | (rcases j3 hj with h9 | h9 | h9 <;> subst h9 <;> omega))⟩) hP hD hQ (Nat.le_of_ble_eq_true rfl) (Nat.le_of_ble_eq_true rfl) dX5_put_111
        · refine lv_iconst (v := 0) hx hb dX5_put_47 (by decide) ?_
          have hz_29 : (0 : Int32).toInt = 0 := by decide
          exact g_zret ((0 : Int32), f) hx hb hr hlocks hS (by first | exact Or.inl rfl | exact Or.inr rfl) rfl (⟨hI, hF, show (0 : Int32).toInt = 0 ∨ (0 : Int32).toInt = 1 from (by first | assumption | omega | (rcases j3 hj with h9 | h9 | h9 <;> subst h9 <;> omega))⟩) hP hD hQ (Nat.le_of_ble_eq_true rfl) (Nat.le_of_ble_eq_true rfl) dX5_put_48
  · refine lv_iconst (v := 1) hx hb dX5_put_4 (by decide) ?_
    have hz_30 : (1 : Int32).toInt = 1 := by decide
    exact g_zret ((1 : Int32), f) hx hb hr hlocks hS (by first | exact Or.inl rfl | exact Or.inr rfl) rfl (⟨hI, hF, show (1 : Int32).toInt = 0 ∨ (1 : Int32).toInt = 1 from (by first | assumption | omega | (rcases j3 hj with h9 | h9 | h9 <;> subst h9 <;> omega))⟩) hP hD hQ (Nat.le_of_ble_eq_true rfl) (Nat.le_of_ble_eq_true rfl) dX5_put_5
set_option maxRecDepth 100000 in
set_option maxHeartbeats 4000000 in
theorem t_X5_append (l : Launch) (D : va_G) (cI cR cM : ClassId) (sz : Nat) {jn : Nat} {g : Nat → Nat} {L : List Nat} {S : Sg} {f : Nat → va_E} {b b_p b_n : Nat} {b_l : Int32} {b_c : Nat → Int32} {o o_p o_n : Nat} {o_l : Int32} {o_c : Nat → Int32} {x y : Int32}  (hj : 1 ≤ jn ∧ jn ≤ 3) (hG : SG g L S) (hI : IN jn cI cR cM g L S f) (m_b : b ∈ L) (s_b : S b = (0, b_p, b_n)) (f_b : f b = .inr (5, [.int (nI jn), .int (nI (2 * jn)), .ref b_p, .int b_l])) (f_b_p : f b_p = .inl (cI, b_n, .inl b_c)) (m_o : o ∈ L) (s_o : S o = (0, o_p, o_n)) (f_o : f o = .inr (5, [.int (nI jn), .int (nI (2 * jn)), .ref o_p, .int o_l])) (f_o_p : f o_p = .inl (cI, o_n, .inl o_c)) (hx0 : 0 ≤ x.toInt ∧ x.toInt ≤ 1000) (hy0 : 0 ≤ y.toInt ∧ y.toInt ≤ 1000) : Met l yX5_append wsX5_append ({ frames := 1, cells := 0, slots := 0, locals := 64 }) (P0 D cI cR cM [.ref b, .ref o, .int x, .int y] sz (va_pl L f)) (QG (S := Int32 × (Nat → va_E)) (fun u => some (.int u.1)) (fun u => va_pl L u.2) (fun u => IN jn cI cR cM g L S u.2 ∧ FR S [0, 1] f u.2 ∧ (u.1.toInt = 0 ∨ u.1.toInt = 1)) D (va_A (va_pl L f) sz)) 0 0 (va_A (va_pl L f) sz) := by
  refine go (cc := cX5_append) (maxL := 5) (ret := (some .boolean)) (by decide +kernel) rfl (Nat.le_of_ble_eq_true rfl) ?_
  intro p e s m below meth c ls args Q hQ hsz hx hb hr hml hts hown hlocks hnm hP hK hD hl
  subst hsz
  have hD := hD.self (sz := s.heap.size)
  generalize hAe : va_A (va_pl L f) s.heap.size = A at hD hQ
  have hA : ∀ q, s.heap.size ≤ q → A q := fun q h => by rw [← hAe]; exact Or.inr h
  have hS : va_S A s.heap s.heap [] := va_S.rf
  have hF : FR S [0, 1] f f := FR_rf
  have hl : lv_has ls 5 [(0, .ref b), (1, .ref o), (2, .int x), (3, .int y)] := hl
  obtain ⟨v1_b, v2_b, v3_b, m_b_p, s_b_p⟩ := iv_0 hI m_b s_b f_b
  obtain ⟨w1_b, w2_b, w3_b, w4_b, w5_b⟩ := lenw hj v1_b v2_b v3_b
  have k_b := iv_1 hI m_b_p s_b_p f_b_p
  obtain ⟨v1_o, v2_o, v3_o, m_o_p, s_o_p⟩ := iv_0 hI m_o s_o f_o
  obtain ⟨w1_o, w2_o, w3_o, w4_o, w5_o⟩ := lenw hj v1_o v2_o v3_o
  have k_o := iv_1 hI m_o_p s_o_p f_o_p
  refine lv_iload_n hx hb dX5_append_0 rfl (lv_at hl 3 rfl) ?_
  refine lv_iload_n hx hb dX5_append_1 rfl (lv_at hl 2 rfl) ?_
  refine a_isub (u := y.toInt) (v := x.toInt) hx hb dX5_append_2 (rfl) (rfl) (by rcases j3 hj with h9 | h9 | h9 <;> subst h9 <;> omega) (fun z_1 e_1 => ?_)
  refine lv_istore (lv' := [(4, .int z_1), (0, .ref b), (1, .ref o), (2, .int x), (3, .int y)]) hx hb dX5_append_3 hl (by decide) rfl (fun ls hl => ?_)
  refine lv_iload_n hx hb dX5_append_5 rfl (lv_at hl 3 rfl) ?_
  refine a_if_lt (u := x.toInt) (tgt := 42) hx hb dX5_append_6 (by decide) (rfl) (fun c_2 => ?_) (fun c_2 => ?_)
  · refine lv_iconst (v := 0) hx hb dX5_append_42 (by decide) ?_
    have hz_3 : (0 : Int32).toInt = 0 := by decide
    exact g_zret ((0 : Int32), f) hx hb hr hlocks hS (by first | exact Or.inl rfl | exact Or.inr rfl) rfl (⟨hI, hF, show (0 : Int32).toInt = 0 ∨ (0 : Int32).toInt = 1 from (by first | assumption | omega | (rcases j3 hj with h9 | h9 | h9 <;> subst h9 <;> omega))⟩) hP hD hQ (Nat.le_of_ble_eq_true rfl) (Nat.le_of_ble_eq_true rfl) dX5_append_43
  · refine lv_iload hx hb dX5_append_9 (lv_at hl 0 rfl) ?_
    refine a_if_lt (u := (y.toInt - x.toInt)) (tgt := 42) hx hb dX5_append_11 (by decide) (e_1) (fun c_4 => ?_) (fun c_4 => ?_)
    · refine lv_iconst (v := 0) hx hb dX5_append_42 (by decide) ?_
      have hz_5 : (0 : Int32).toInt = 0 := by decide
      exact g_zret ((0 : Int32), f) hx hb hr hlocks hS (by first | exact Or.inl rfl | exact Or.inr rfl) rfl (⟨hI, hF, show (0 : Int32).toInt = 0 ∨ (0 : Int32).toInt = 1 from (by first | assumption | omega | (rcases j3 hj with h9 | h9 | h9 <;> subst h9 <;> omega))⟩) hP hD hQ (Nat.le_of_ble_eq_true rfl) (Nat.le_of_ble_eq_true rfl) dX5_append_43
    · refine lv_iload_n hx hb dX5_append_14 rfl (lv_at hl 4 rfl) ?_
      refine lv_aload_n hx hb dX5_append_15 rfl (lv_at hl 2 rfl) ?_
      refine t_get (D := D) (L := L) (f := f) (ci := 5) (v := .int o_l) (C := RX5) (T := TX5) (N := 4) hx hb hts (by decide +kernel) hown hK.1 hP m_o f_o rfl 3 (by decide) (hts (.fieldLink RX5 28 "JugglingHall$Row" "length" "I") (by decide +kernel)) (fun _ h9 => h9) rfl dX5_append_16 ?_
      refine a_icmp_gt (u := y.toInt) (v := o_l.toInt) (tgt := 42) hx hb dX5_append_19 (by decide) (rfl) (rfl) (fun c_6 => ?_) (fun c_6 => ?_)
      · refine lv_iconst (v := 0) hx hb dX5_append_42 (by decide) ?_
        have hz_7 : (0 : Int32).toInt = 0 := by decide
        exact g_zret ((0 : Int32), f) hx hb hr hlocks hS (by first | exact Or.inl rfl | exact Or.inr rfl) rfl (⟨hI, hF, show (0 : Int32).toInt = 0 ∨ (0 : Int32).toInt = 1 from (by first | assumption | omega | (rcases j3 hj with h9 | h9 | h9 <;> subst h9 <;> omega))⟩) hP hD hQ (Nat.le_of_ble_eq_true rfl) (Nat.le_of_ble_eq_true rfl) dX5_append_43
      · refine lv_aload_n hx hb dX5_append_22 rfl (lv_at hl 1 rfl) ?_
        refine t_get (D := D) (L := L) (f := f) (ci := 5) (v := .int b_l) (C := RX5) (T := TX5) (N := 4) hx hb hts (by decide +kernel) hown hK.1 hP m_b f_b rfl 3 (by decide) (hts (.fieldLink RX5 28 "JugglingHall$Row" "length" "I") (by decide +kernel)) (fun _ h9 => h9) rfl dX5_append_23 ?_
        refine lv_iload hx hb dX5_append_26 (lv_at hl 0 rfl) ?_
        refine a_iadd (u := b_l.toInt) (v := (y.toInt - x.toInt)) hx hb dX5_append_28 (rfl) (e_1) (by rcases j3 hj with h9 | h9 | h9 <;> subst h9 <;> omega) (fun z_8 e_8 => ?_)
        refine lv_aload_n hx hb dX5_append_29 rfl (lv_at hl 1 rfl) ?_
        refine t_get (D := D) (L := L) (f := f) (ci := 5) (v := .int (nI (2 * jn))) (C := RX5) (T := TX5) (N := 4) hx hb hts (by decide +kernel) hown hK.1 hP m_b f_b rfl 1 (by decide) (hts (.fieldLink RX5 21 "JugglingHall$Row" "width" "I") (by decide +kernel)) (fun _ h9 => h9) rfl dX5_append_30 ?_
        refine a_imul (u := (b_l.toInt + (y.toInt - x.toInt))) (v := (2 * (jn : Int))) hx hb dX5_append_33 (e_8) (w2 hj) (by rcases j3 hj with h9 | h9 | h9 <;> subst h9 <;> omega) (fun z_9 e_9 => ?_)
        refine lv_aload_n hx hb dX5_append_34 rfl (lv_at hl 1 rfl) ?_
        refine t_get (D := D) (L := L) (f := f) (ci := 5) (v := .ref b_p) (C := RX5) (T := TX5) (N := 4) hx hb hts (by decide +kernel) hown hK.1 hP m_b f_b rfl 2 (by decide) (hts (.fieldLink RX5 24 "JugglingHall$Row" "cells" "[I") (by decide +kernel)) (fun _ h9 => h9) rfl dX5_append_35 ?_
        refine t_alen (L := L) (f := f) (v := nI b_n) hx hb hK.1 hP m_b_p 0 f_b_p rfl rfl dX5_append_38 ?_
        refine a_icmp_le (u := z_9.toInt) (v := (b_n : Int)) (tgt := 44) hx hb dX5_append_39 (by decide) (rfl) (nI_toInt (by rcases j3 hj with h9 | h9 | h9 <;> subst h9 <;> omega)) (fun c_10 => ?_) (fun c_10 => ?_)
        · refine lv_aload_n hx hb dX5_append_44 rfl (lv_at hl 2 rfl) ?_
          refine t_get (D := D) (L := L) (f := f) (ci := 5) (v := .ref o_p) (C := RX5) (T := TX5) (N := 4) hx hb hts (by decide +kernel) hown hK.1 hP m_o f_o rfl 2 (by decide) (hts (.fieldLink RX5 24 "JugglingHall$Row" "cells" "[I") (by decide +kernel)) (fun _ h9 => h9) rfl dX5_append_45 ?_
          refine lv_iload_n hx hb dX5_append_48 rfl (lv_at hl 3 rfl) ?_
          refine lv_aload_n hx hb dX5_append_49 rfl (lv_at hl 1 rfl) ?_
          refine t_get (D := D) (L := L) (f := f) (ci := 5) (v := .int (nI (2 * jn))) (C := RX5) (T := TX5) (N := 4) hx hb hts (by decide +kernel) hown hK.1 hP m_b f_b rfl 1 (by decide) (hts (.fieldLink RX5 21 "JugglingHall$Row" "width" "I") (by decide +kernel)) (fun _ h9 => h9) rfl dX5_append_50 ?_
          refine a_imul (u := x.toInt) (v := (2 * (jn : Int))) hx hb dX5_append_53 (rfl) (w2 hj) (by rcases j3 hj with h9 | h9 | h9 <;> subst h9 <;> omega) (fun z_11 e_11 => ?_)
          refine lv_aload_n hx hb dX5_append_54 rfl (lv_at hl 1 rfl) ?_
          refine t_get (D := D) (L := L) (f := f) (ci := 5) (v := .ref b_p) (C := RX5) (T := TX5) (N := 4) hx hb hts (by decide +kernel) hown hK.1 hP m_b f_b rfl 2 (by decide) (hts (.fieldLink RX5 24 "JugglingHall$Row" "cells" "[I") (by decide +kernel)) (fun _ h9 => h9) rfl dX5_append_55 ?_
          refine lv_aload_n hx hb dX5_append_58 rfl (lv_at hl 1 rfl) ?_
          refine t_get (D := D) (L := L) (f := f) (ci := 5) (v := .int b_l) (C := RX5) (T := TX5) (N := 4) hx hb hts (by decide +kernel) hown hK.1 hP m_b f_b rfl 3 (by decide) (hts (.fieldLink RX5 28 "JugglingHall$Row" "length" "I") (by decide +kernel)) (fun _ h9 => h9) rfl dX5_append_59 ?_
          refine lv_aload_n hx hb dX5_append_62 rfl (lv_at hl 1 rfl) ?_
          refine t_get (D := D) (L := L) (f := f) (ci := 5) (v := .int (nI (2 * jn))) (C := RX5) (T := TX5) (N := 4) hx hb hts (by decide +kernel) hown hK.1 hP m_b f_b rfl 1 (by decide) (hts (.fieldLink RX5 21 "JugglingHall$Row" "width" "I") (by decide +kernel)) (fun _ h9 => h9) rfl dX5_append_63 ?_
          refine a_imul (u := b_l.toInt) (v := (2 * (jn : Int))) hx hb dX5_append_66 (rfl) (w2 hj) (by rcases j3 hj with h9 | h9 | h9 <;> subst h9 <;> omega) (fun z_12 e_12 => ?_)
          refine lv_iload hx hb dX5_append_67 (lv_at hl 0 rfl) ?_
          refine lv_aload_n hx hb dX5_append_69 rfl (lv_at hl 1 rfl) ?_
          refine t_get (D := D) (L := L) (f := f) (ci := 5) (v := .int (nI (2 * jn))) (C := RX5) (T := TX5) (N := 4) hx hb hts (by decide +kernel) hown hK.1 hP m_b f_b rfl 1 (by decide) (hts (.fieldLink RX5 21 "JugglingHall$Row" "width" "I") (by decide +kernel)) (fun _ h9 => h9) rfl dX5_append_70 ?_
          refine a_imul (u := (y.toInt - x.toInt)) (v := (2 * (jn : Int))) hx hb dX5_append_73 (e_1) (w2 hj) (by rcases j3 hj with h9 | h9 | h9 <;> subst h9 <;> omega) (fun z_13 e_13 => ?_)
          refine t_copy (L := L) (f := f) hx hb (by rw [hml]; exact hl.1.symm) hown (hts (.methodLink RX5 66 arraycopyName) (by decide +kernel)) (hts (.native arraycopyName) (by decide +kernel)) (hts (.static arraycopyName) (by decide +kernel)) (hts (.initialized "java/lang/System") (by decide +kernel)) hK.1 hP hD hS 0 m_o_p f_o_p m_b_p f_b_p rfl (by rcases j3 hj with h9 | h9 | h9 <;> subst h9 <;> omega) (by rcases j3 hj with h9 | h9 | h9 <;> subst h9 <;> omega) (by rcases j3 hj with h9 | h9 | h9 <;> subst h9 <;> omega) (by rcases j3 hj with h9 | h9 | h9 <;> subst h9 <;> omega) (by rcases j3 hj with h9 | h9 | h9 <;> subst h9 <;> omega) (Nat.le_of_ble_eq_true rfl) (Nat.le_of_ble_eq_true rfl) dX5_append_74 (fun g_14 f_14 H locs eg_14 e9_14 o_14 hP hD hS => ?_)
          have ok_14 : cOK jn b_n g_14 := by rw [eg_14]; exact cOK_cpy k_o k_b (by rcases j3 hj with h9 | h9 | h9 <;> subst h9 <;> omega)
          have fa_14 : f_14 b_p = .inl (cI, b_n, .inl g_14) := e9_14
          have hI := IN_set (e := .inl (cI, b_n, .inl g_14)) hI s_b_p (mk_1 ok_14) fa_14 o_14
          have hF := FR_set hF s_b_p (show (1 : Nat) ∈ ([0, 1] : List Nat) by decide) o_14
          have fb_15 : f_14 b = .inr (5, [.int (nI jn), .int (nI (2 * jn)), .ref b_p, .int b_l]) := f_at o_14 (S_ne s_b s_b_p (show (0 : Nat) ≠ 1 by decide)) f_b
          have fb_16 : f_14 o = .inr (5, [.int (nI jn), .int (nI (2 * jn)), .ref o_p, .int o_l]) := f_at o_14 (S_ne s_o s_b_p (show (0 : Nat) ≠ 1 by decide)) f_o
          refine lv_aload_n hx hb dX5_append_77 rfl (lv_at hl 1 rfl) ?_
          refine lv_dup hx hb dX5_append_78 rfl ?_
          refine t_get (D := D) (L := L) (f := f_14) (ci := 5) (v := .int b_l) (C := RX5) (T := TX5) (N := 4) hx hb hts (by decide +kernel) hown hK.1 hP m_b fb_15 rfl 3 (by decide) (hts (.fieldLink RX5 28 "JugglingHall$Row" "length" "I") (by decide +kernel)) (fun _ h9 => h9) rfl dX5_append_79 ?_
          refine lv_iload hx hb dX5_append_82 (lv_at hl 0 rfl) ?_
          refine a_iadd (u := b_l.toInt) (v := (y.toInt - x.toInt)) hx hb dX5_append_84 (rfl) (e_1) (by rcases j3 hj with h9 | h9 | h9 <;> subst h9 <;> omega) (fun z_17 e_17 => ?_)
          refine t_put (D := D) (L := L) (f := f_14) (ci := 5) (v := .int z_17) (ty := .int) (C := RX5) (T := TX5) (N := 4) hx hb hts (by decide +kernel) tyX5 tyX5_ok nmX5 hown hK.1 hP hD hS m_b fb_15 rfl 3 (by decide) (hts (.fieldLink RX5 28 "JugglingHall$Row" "length" "I") (by decide +kernel)) (fun _ h9 => h9) rfl (by decide +kernel) rfl rfl (Nat.le_of_ble_eq_true rfl) dX5_append_85 (fun f_18 H locs e9_18 o_18 hP hD hS => ?_)
          have fa_18 : f_18 b = .inr (5, [.int (nI jn), .int (nI (2 * jn)), .ref b_p, .int z_17]) := e9_18
          have hI := IN_set (e := .inr (5, [.int (nI jn), .int (nI (2 * jn)), .ref b_p, .int z_17])) hI s_b (mk_0 (by first | assumption | omega | (rcases j3 hj with h9 | h9 | h9 <;> subst h9 <;> omega)) (by first | assumption | omega | (rcases j3 hj with h9 | h9 | h9 <;> subst h9 <;> omega)) (by first | assumption | omega | (rcases j3 hj with h9 | h9 | h9 <;> subst h9 <;> omega)) (by first | assumption | omega | (rcases j3 hj with h9 | h9 | h9 <;> subst h9 <;> omega)) (by first | assumption | omega | (rcases j3 hj with h9 | h9 | h9 <;> subst h9 <;> omega))) fa_18 o_18
          have hF := FR_set hF s_b (show (0 : Nat) ∈ ([0, 1] : List Nat) by decide) o_18
          have fb_19 : f_18 b_p = .inl (cI, b_n, .inl g_14) := f_at o_18 (S_ne s_b_p s_b (show (1 : Nat) ≠ 0 by decide)) fa_14
          refine lv_iconst (v := 1) hx hb dX5_append_88 (by decide) ?_
          have hz_20 : (1 : Int32).toInt = 1 := by decide
          exact g_zret ((1 : Int32), f_18) hx hb hr hlocks hS (by first | exact Or.inl rfl | exact Or.inr rfl) rfl (⟨hI, hF, show (1 : Int32).toInt = 0 ∨ (1 : Int32).toInt = 1 from (by first | assumption | omega | (rcases j3 hj with h9 | h9 | h9 <;> subst h9 <;> omega))⟩) hP hD hQ (Nat.le_of_ble_eq_true rfl) (Nat.le_of_ble_eq_true rfl) dX5_append_89
        · refine lv_iconst (v := 0) hx hb dX5_append_42 (by decide) ?_
          have hz_21 : (0 : Int32).toInt = 0 := by decide
          exact g_zret ((0 : Int32), f) hx hb hr hlocks hS (by first | exact Or.inl rfl | exact Or.inr rfl) rfl (⟨hI, hF, show (0 : Int32).toInt = 0 ∨ (0 : Int32).toInt = 1 from (by first | assumption | omega | (rcases j3 hj with h9 | h9 | h9 <;> subst h9 <;> omega))⟩) hP hD hQ (Nat.le_of_ble_eq_true rfl) (Nat.le_of_ble_eq_true rfl) dX5_append_43
set_option maxRecDepth 100000 in
set_option maxHeartbeats 4000000 in
theorem t_X5_takeFrom (l : Launch) (D : va_G) (cI cR cM : ClassId) (sz : Nat) {jn : Nat} {g : Nat → Nat} {L : List Nat} {S : Sg} {f : Nat → va_E} {b b_p b_n : Nat} {b_l : Int32} {b_c : Nat → Int32} {o o_p o_n : Nat} {o_l : Int32} {o_c : Nat → Int32}  (hj : 1 ≤ jn ∧ jn ≤ 3) (hG : SG g L S) (hI : IN jn cI cR cM g L S f) (m_b : b ∈ L) (s_b : S b = (0, b_p, b_n)) (f_b : f b = .inr (5, [.int (nI jn), .int (nI (2 * jn)), .ref b_p, .int b_l])) (f_b_p : f b_p = .inl (cI, b_n, .inl b_c)) (m_o : o ∈ L) (s_o : S o = (0, o_p, o_n)) (f_o : f o = .inr (5, [.int (nI jn), .int (nI (2 * jn)), .ref o_p, .int o_l])) (f_o_p : f o_p = .inl (cI, o_n, .inl o_c))  : Met l yX5_takeFrom wsX5_takeFrom ({ frames := 2, cells := 0, slots := 0, locals := 88 }) (P0 D cI cR cM [.ref b, .ref o] sz (va_pl L f)) (QG (S := Int32 × (Nat → va_E)) (fun u => some (.int u.1)) (fun u => va_pl L u.2) (fun u => IN jn cI cR cM g L S u.2 ∧ FR S [0, 1] f u.2 ∧ (u.1.toInt = 0 ∨ u.1.toInt = 1)) D (va_A (va_pl L f) sz)) 0 0 (va_A (va_pl L f) sz) := by
  refine go (cc := cX5_takeFrom) (maxL := 2) (ret := (some .boolean)) (by decide +kernel) rfl (Nat.le_of_ble_eq_true rfl) ?_
  intro p e s m below meth c ls args Q hQ hsz hx hb hr hml hts hown hlocks hnm hP hK hD hl
  subst hsz
  have hD := hD.self (sz := s.heap.size)
  generalize hAe : va_A (va_pl L f) s.heap.size = A at hD hQ
  have hA : ∀ q, s.heap.size ≤ q → A q := fun q h => by rw [← hAe]; exact Or.inr h
  have hS : va_S A s.heap s.heap [] := va_S.rf
  have hF : FR S [0, 1] f f := FR_rf
  have hl : lv_has ls 2 [(0, .ref b), (1, .ref o)] := hl
  obtain ⟨v1_b, v2_b, v3_b, m_b_p, s_b_p⟩ := iv_0 hI m_b s_b f_b
  obtain ⟨w1_b, w2_b, w3_b, w4_b, w5_b⟩ := lenw hj v1_b v2_b v3_b
  have k_b := iv_1 hI m_b_p s_b_p f_b_p
  obtain ⟨v1_o, v2_o, v3_o, m_o_p, s_o_p⟩ := iv_0 hI m_o s_o f_o
  obtain ⟨w1_o, w2_o, w3_o, w4_o, w5_o⟩ := lenw hj v1_o v2_o v3_o
  have k_o := iv_1 hI m_o_p s_o_p f_o_p
  refine lv_aload_n hx hb dX5_takeFrom_0 rfl (lv_at hl 0 rfl) ?_
  refine lv_iconst (v := 0) hx hb dX5_takeFrom_1 (by decide) ?_
  have hz_2 : (0 : Int32).toInt = 0 := by decide
  refine t_put (D := D) (L := L) (f := f) (ci := 5) (v := .int 0) (ty := .int) (C := RX5) (T := TX5) (N := 4) hx hb hts (by decide +kernel) tyX5 tyX5_ok nmX5 hown hK.1 hP hD hS m_b f_b rfl 3 (by decide) (hts (.fieldLink RX5 28 "JugglingHall$Row" "length" "I") (by decide +kernel)) (fun _ h9 => h9) rfl (by decide +kernel) rfl rfl (Nat.le_of_ble_eq_true rfl) dX5_takeFrom_2 (fun f_1 H locs e9_1 o_1 hP hD hS => ?_)
  have fa_1 : f_1 b = .inr (5, [.int (nI jn), .int (nI (2 * jn)), .ref b_p, .int 0]) := e9_1
  have hI := IN_set (e := .inr (5, [.int (nI jn), .int (nI (2 * jn)), .ref b_p, .int 0])) hI s_b (mk_0 (by first | assumption | omega | (rcases j3 hj with h9 | h9 | h9 <;> subst h9 <;> omega)) (by first | assumption | omega | (rcases j3 hj with h9 | h9 | h9 <;> subst h9 <;> omega)) (by first | assumption | omega | (rcases j3 hj with h9 | h9 | h9 <;> subst h9 <;> omega)) (by first | assumption | omega | (rcases j3 hj with h9 | h9 | h9 <;> subst h9 <;> omega)) (by first | assumption | omega | (rcases j3 hj with h9 | h9 | h9 <;> subst h9 <;> omega))) fa_1 o_1
  have hF := FR_set hF s_b (show (0 : Nat) ∈ ([0, 1] : List Nat) by decide) o_1
  have fb_3 : f_1 b_p = .inl (cI, b_n, .inl b_c) := f_at o_1 (S_ne s_b_p s_b (show (1 : Nat) ≠ 0 by decide)) f_b_p
  have fb_4 : f_1 o_p = .inl (cI, o_n, .inl o_c) := f_at o_1 (S_ne s_o_p s_b (show (1 : Nat) ≠ 0 by decide)) f_o_p
  refine lv_aload_n hx hb dX5_takeFrom_5 rfl (lv_at hl 0 rfl) ?_
  refine lv_aload_n hx hb dX5_takeFrom_6 rfl (lv_at hl 1 rfl) ?_
  refine lv_iconst (v := 0) hx hb dX5_takeFrom_7 (by decide) ?_
  refine lv_aload_n hx hb dX5_takeFrom_8 rfl (lv_at hl 1 rfl) ?_
  obtain ⟨len_5, fg_5, v1_5, v2_5, v3_5, mp_5, sp_5⟩ := op_0 hI m_o s_o
  obtain ⟨w1_5, w2_5, w3_5, w4_5, w5_5⟩ := lenw hj v1_5 v2_5 v3_5
  refine t_get (D := D) (L := L) (f := f_1) (ci := 5) (v := .int len_5) (C := RX5) (T := TX5) (N := 4) hx hb hts (by decide +kernel) hown hK.1 hP m_o fg_5 rfl 3 (by decide) (hts (.fieldLink RX5 28 "JugglingHall$Row" "length" "I") (by decide +kernel)) (fun _ h9 => h9) rfl dX5_takeFrom_9 ?_
  have hz_6 : (0 : Int32).toInt = 0 := by decide
  have hz_7 : (0 : Int32).toInt = 0 := by decide
  refine call_p (va_runV (As := [.ref o, .int 0, .int len_5]) (rest := []) ⟨hx, hb, hml, hown, hts⟩ (t_X5_append l D cI cR cM _  hj hG hI m_b s_b fa_1 fb_3 m_o s_o fg_5 fb_4 (by first | assumption | omega | (rcases j3 hj with h9 | h9 | h9 <;> subst h9 <;> omega)) (by first | assumption | omega | (rcases j3 hj with h9 | h9 | h9 <;> subst h9 <;> omega))) (cwV 3 hts gX5_takeFrom_X5_append rfl rfl rfl (by decide +kernel) ⟨Nat.le_of_ble_eq_true rfl, Nat.le_of_ble_eq_true rfl⟩) (pre_T hK hP hD m_b fa_1 rfl) rfl rfl hl.1 rfl (lv_room (Nat.le_of_ble_eq_true rfl)) dX5_takeFrom_12 ⟨Nat.le_of_ble_eq_true rfl, Nat.le_of_ble_eq_true rfl⟩) hD hS hA (fun u_8 H locs hw hP hD hS => ?_)
  obtain ⟨r_8, f_8⟩ := u_8
  obtain ⟨hI, hF_8, h01_8⟩ : IN jn cI cR cM g L S f_8 ∧ FR S [0, 1] f_1 f_8 ∧ (r_8.toInt = 0 ∨ r_8.toInt = 1) := hw
  have hP : va_P D vwCl (va_pl L f_8) H := hP
  have hD : va_D A (va_pl L f_8) := hD
  have hF := FR_tr hF hF_8 (by decide)
  exact g_zret (r_8, f_8) hx hb hr hlocks hS (b01 (by rcases j3 hj with h9 | h9 | h9 <;> subst h9 <;> omega)) rfl (⟨hI, hF, show r_8.toInt = 0 ∨ r_8.toInt = 1 from (by first | assumption | omega | (rcases j3 hj with h9 | h9 | h9 <;> subst h9 <;> omega))⟩) hP hD hQ (Nat.le_of_ble_eq_true rfl) (Nat.le_of_ble_eq_true rfl) dX5_takeFrom_15
set_option maxRecDepth 100000 in
set_option maxHeartbeats 4000000 in
theorem t_X5_takeBack (l : Launch) (D : va_G) (cI cR cM : ClassId) (sz : Nat) {jn : Nat} {g : Nat → Nat} {L : List Nat} {S : Sg} {f : Nat → va_E} {b b_p b_n : Nat} {b_l : Int32} {b_c : Nat → Int32} {o o_p o_n : Nat} {o_l : Int32} {o_c : Nat → Int32}  (hj : 1 ≤ jn ∧ jn ≤ 3) (hG : SG g L S) (hI : IN jn cI cR cM g L S f) (m_b : b ∈ L) (s_b : S b = (0, b_p, b_n)) (f_b : f b = .inr (5, [.int (nI jn), .int (nI (2 * jn)), .ref b_p, .int b_l])) (f_b_p : f b_p = .inl (cI, b_n, .inl b_c)) (m_o : o ∈ L) (s_o : S o = (0, o_p, o_n)) (f_o : f o = .inr (5, [.int (nI jn), .int (nI (2 * jn)), .ref o_p, .int o_l])) (f_o_p : f o_p = .inl (cI, o_n, .inl o_c))  : Met l yX5_takeBack wsX5_takeBack ({ frames := 2, cells := 0, slots := 0, locals := 44 }) (P0 D cI cR cM [.ref b, .ref o] sz (va_pl L f)) (QG (S := Int32 × (Nat → va_E)) (fun u => some (.int u.1)) (fun u => va_pl L u.2) (fun u => IN jn cI cR cM g L S u.2 ∧ FR S [0, 1] f u.2 ∧ (u.1.toInt = 0 ∨ u.1.toInt = 1)) D (va_A (va_pl L f) sz)) 0 0 (va_A (va_pl L f) sz) := by
  refine go (cc := cX5_takeBack) (maxL := 5) (ret := (some .boolean)) (by decide +kernel) rfl (Nat.le_of_ble_eq_true rfl) ?_
  intro p e s m below meth c ls args Q hQ hsz hx hb hr hml hts hown hlocks hnm hP hK hD hl
  subst hsz
  have hD := hD.self (sz := s.heap.size)
  generalize hAe : va_A (va_pl L f) s.heap.size = A at hD hQ
  have hA : ∀ q, s.heap.size ≤ q → A q := fun q h => by rw [← hAe]; exact Or.inr h
  have hS : va_S A s.heap s.heap [] := va_S.rf
  have hF : FR S [0, 1] f f := FR_rf
  have hl : lv_has ls 5 [(0, .ref b), (1, .ref o)] := hl
  obtain ⟨v1_b, v2_b, v3_b, m_b_p, s_b_p⟩ := iv_0 hI m_b s_b f_b
  obtain ⟨w1_b, w2_b, w3_b, w4_b, w5_b⟩ := lenw hj v1_b v2_b v3_b
  have k_b := iv_1 hI m_b_p s_b_p f_b_p
  obtain ⟨v1_o, v2_o, v3_o, m_o_p, s_o_p⟩ := iv_0 hI m_o s_o f_o
  obtain ⟨w1_o, w2_o, w3_o, w4_o, w5_o⟩ := lenw hj v1_o v2_o v3_o
  have k_o := iv_1 hI m_o_p s_o_p f_o_p
  refine lv_aload_n hx hb dX5_takeBack_0 rfl (lv_at hl 0 rfl) ?_
  refine lv_aload_n hx hb dX5_takeBack_1 rfl (lv_at hl 1 rfl) ?_
  refine t_get (D := D) (L := L) (f := f) (ci := 5) (v := .int o_l) (C := RX5) (T := TX5) (N := 4) hx hb hts (by decide +kernel) hown hK.1 hP m_o f_o rfl 3 (by decide) (hts (.fieldLink RX5 28 "JugglingHall$Row" "length" "I") (by decide +kernel)) (fun _ h9 => h9) rfl dX5_takeBack_2 ?_
  refine call_p (va_runV (As := [.int o_l]) (rest := []) ⟨hx, hb, hml, hown, hts⟩ (t_X5_reset l D cI cR cM _  hj hG hI m_b s_b f_b f_b_p ) (cwV 1 hts gX5_takeBack_X5_reset rfl rfl rfl (by decide +kernel) ⟨Nat.le_of_ble_eq_true rfl, Nat.le_of_ble_eq_true rfl⟩) (pre_T hK hP hD m_b f_b rfl) rfl rfl hl.1 rfl (lv_room (Nat.le_of_ble_eq_true rfl)) dX5_takeBack_5 ⟨Nat.le_of_ble_eq_true rfl, Nat.le_of_ble_eq_true rfl⟩) hD hS hA (fun u_1 H locs hw hP hD hS => ?_)
  obtain ⟨f_1, e0_1⟩ : ∃ x, x = u_1 := ⟨_, rfl⟩
  subst e0_1
  obtain ⟨hI, hF_1⟩ : IN jn cI cR cM g L S f_1 ∧ FR S [0, 1] f f_1 := hw
  have hP : va_P D vwCl (va_pl L f_1) H := hP
  have hD : va_D A (va_pl L f_1) := hD
  have hF := FR_tr hF hF_1 (by decide)
  refine lv_iconst (v := 0) hx hb dX5_takeBack_8 (by decide) ?_
  refine lv_istore_n (lv' := [(2, .int 0), (0, .ref b), (1, .ref o)]) hx hb dX5_takeBack_9 rfl hl (by decide) rfl (fun ls hl => ?_)
  have loop10 : ∀ (ddloop10 : Nat) (ce : Int32) (f_2 : Nat → va_E) (H : Heap) (locs : List Loc) (ls : Array Slot), (200 - ce.toInt).toNat < ddloop10 → IN jn cI cR cM g L S f_2 → FR S [0, 1] f f_2 → (0 ≤ ce.toInt ∧ ce.toInt ≤ 144) → va_P D vwCl (va_pl L f_2) H → va_D A (va_pl L f_2) → va_S A s.heap H locs → lv_has ls 5 [(0, .ref b), (1, .ref o), (2, .int ce)] → W p l e ({ frames := 2, cells := 0, slots := 0, locals := 44 }) s m args below meth c H locs 0 0 Q (F0 m 10 ls []) := by
    intro ddloop10
    induction ddloop10 with
    | zero =>
      intro ce f_2 H locs ls hdd
      exact absurd hdd (Nat.not_lt_zero _)
    | succ ddloop10 ih10 =>
      intro ce f_2 H locs ls hdd hI hF hi hP hD hS hl
      refine lv_iload_n hx hb dX5_takeBack_10 rfl (lv_at hl 2 rfl) ?_
      refine lv_aload_n hx hb dX5_takeBack_11 rfl (lv_at hl 1 rfl) ?_
      obtain ⟨len_3, fg_3, v1_3, v2_3, v3_3, mp_3, sp_3⟩ := op_0 hI m_o s_o
      obtain ⟨w1_3, w2_3, w3_3, w4_3, w5_3⟩ := lenw hj v1_3 v2_3 v3_3
      obtain ⟨c_4, fg_4, iv0_4⟩ := op_1 hI m_o_p s_o_p
      refine roP (va_runV (As := []) (rest := [.int ce]) ⟨hx, hb, hml, hown, hts⟩ (t_X5_cellCount l D cI cR cM _  hj hG hI m_o s_o fg_3 fg_4 ) (cwV 0 hts gX5_takeBack_X5_cellCount rfl rfl rfl (by decide +kernel) ⟨Nat.le_of_ble_eq_true rfl, Nat.le_of_ble_eq_true rfl⟩) (pre_T hK hP hD m_o fg_3 rfl) rfl rfl hl.1 rfl (lv_room (Nat.le_of_ble_eq_true rfl)) dX5_takeBack_12 ⟨Nat.le_of_ble_eq_true rfl, Nat.le_of_ble_eq_true rfl⟩) hS hA hP (fun r_5 H locs hw hP hS => ?_)
      have h_5 : (r_5.toInt = len_3.toInt * (2 * (jn : Int))) := hw
      refine a_icmp_ge (u := ce.toInt) (v := r_5.toInt) (tgt := 66) hx hb dX5_takeBack_15 (by decide) (rfl) (rfl) (fun c_6 => ?_) (fun c_6 => ?_)
      · refine lv_iconst (v := 1) hx hb dX5_takeBack_66 (by decide) ?_
        have hz_7 : (1 : Int32).toInt = 1 := by decide
        exact g_zret ((1 : Int32), f_2) hx hb hr hlocks hS (by first | exact Or.inl rfl | exact Or.inr rfl) rfl (⟨hI, hF, show (1 : Int32).toInt = 0 ∨ (1 : Int32).toInt = 1 from (by first | assumption | omega)⟩) hP hD hQ (Nat.le_of_ble_eq_true rfl) (Nat.le_of_ble_eq_true rfl) dX5_takeBack_67
      · refine lv_aload_n hx hb dX5_takeBack_18 rfl (lv_at hl 1 rfl) ?_
        refine lv_iload_n hx hb dX5_takeBack_19 rfl (lv_at hl 2 rfl) ?_
        refine roP (va_runV (As := [.int ce]) (rest := []) ⟨hx, hb, hml, hown, hts⟩ (t_X5_height l D cI cR cM _  hj hG hI m_o s_o fg_3 fg_4 ) (cwV 1 hts gX5_takeBack_X5_height rfl rfl rfl (by decide +kernel) ⟨Nat.le_of_ble_eq_true rfl, Nat.le_of_ble_eq_true rfl⟩) (pre_T hK hP hD m_o fg_3 rfl) rfl rfl hl.1 rfl (lv_room (Nat.le_of_ble_eq_true rfl)) dX5_takeBack_20 ⟨Nat.le_of_ble_eq_true rfl, Nat.le_of_ble_eq_true rfl⟩) hS hA hP (fun r_8 H locs hw hP hS => ?_)
        have h_8 : (0 ≤ r_8.toInt ∧ r_8.toInt ≤ 9) := hw
        refine lv_istore_n (lv' := [(3, .int r_8), (0, .ref b), (1, .ref o), (2, .int ce)]) hx hb dX5_takeBack_23 rfl hl (by decide) rfl (fun ls hl => ?_)
        refine lv_aload_n hx hb dX5_takeBack_24 rfl (lv_at hl 1 rfl) ?_
        refine lv_aload_n hx hb dX5_takeBack_25 rfl (lv_at hl 2 rfl) ?_
        refine lv_iload_n hx hb dX5_takeBack_26 rfl (lv_at hl 3 rfl) ?_
        refine roP (va_runV (As := [.int ce]) (rest := [.ref b]) ⟨hx, hb, hml, hown, hts⟩ (t_X5_beatOf l D cI cR cM _  hj hG hI m_o s_o fg_3 fg_4 ) (cwV 1 hts gX5_takeBack_X5_beatOf rfl rfl rfl (by decide +kernel) ⟨Nat.le_of_ble_eq_true rfl, Nat.le_of_ble_eq_true rfl⟩) (pre_T hK hP hD m_o fg_3 rfl) rfl rfl hl.1 rfl (lv_room (Nat.le_of_ble_eq_true rfl)) dX5_takeBack_27 ⟨Nat.le_of_ble_eq_true rfl, Nat.le_of_ble_eq_true rfl⟩) hS hA hP (fun r_9 H locs hw hP hS => ?_)
        have h_9 : (0 ≤ ce.toInt → 0 ≤ r_9.toInt ∧ r_9.toInt ≤ ce.toInt) := hw
        refine lv_iload_n hx hb dX5_takeBack_30 rfl (lv_at hl 0 rfl) ?_
        refine a_iadd (u := r_9.toInt) (v := r_8.toInt) hx hb dX5_takeBack_31 (rfl) (rfl) (by omega) (fun z_10 e_10 => ?_)
        refine a_ineg (u := (r_9.toInt + r_8.toInt)) hx hb dX5_takeBack_32 (e_10) (by omega) (fun z_11 e_11 => ?_)
        obtain ⟨len_12, fg_12, v1_12, v2_12, v3_12, mp_12, sp_12⟩ := op_0 hI m_b s_b
        obtain ⟨w1_12, w2_12, w3_12, w4_12, w5_12⟩ := lenw hj v1_12 v2_12 v3_12
        obtain ⟨c_13, fg_13, iv0_13⟩ := op_1 hI m_b_p s_b_p
        refine roP (va_runV (As := [.int z_11]) (rest := []) ⟨hx, hb, hml, hown, hts⟩ (t_X5_beatInRound l D cI cR cM _  hj hG hI m_b s_b fg_12 fg_13 ) (cwV 1 hts gX5_takeBack_X5_beatInRound rfl rfl rfl (by decide +kernel) ⟨Nat.le_of_ble_eq_true rfl, Nat.le_of_ble_eq_true rfl⟩) (pre_T hK hP hD m_b fg_12 rfl) rfl rfl hl.1 rfl (lv_room (Nat.le_of_ble_eq_true rfl)) dX5_takeBack_33 ⟨Nat.le_of_ble_eq_true rfl, Nat.le_of_ble_eq_true rfl⟩) hS hA hP (fun r_14 H locs hw hP hS => ?_)
        have h_14 : (0 ≤ r_14.toInt ∧ (r_14.toInt < len_12.toInt ∨ r_14.toInt = 0)) := hw
        refine lv_istore (lv' := [(4, .int r_14), (3, .int r_8), (0, .ref b), (1, .ref o), (2, .int ce)]) hx hb dX5_takeBack_36 hl (by decide) rfl (fun ls hl => ?_)
        refine lv_aload_n hx hb dX5_takeBack_38 rfl (lv_at hl 2 rfl) ?_
        refine lv_iload hx hb dX5_takeBack_39 (lv_at hl 0 rfl) ?_
        refine lv_aload_n hx hb dX5_takeBack_41 rfl (lv_at hl 3 rfl) ?_
        refine lv_iload_n hx hb dX5_takeBack_42 rfl (lv_at hl 4 rfl) ?_
        refine roP (va_runV (As := [.int ce]) (rest := [.int r_14, .ref b]) ⟨hx, hb, hml, hown, hts⟩ (t_X5_target l D cI cR cM _  hj hG hI m_o s_o fg_3 fg_4 ) (cwV 1 hts gX5_takeBack_X5_target rfl rfl rfl (by decide +kernel) ⟨Nat.le_of_ble_eq_true rfl, Nat.le_of_ble_eq_true rfl⟩) (pre_T hK hP hD m_o fg_3 rfl) rfl rfl hl.1 rfl (lv_room (Nat.le_of_ble_eq_true rfl)) dX5_takeBack_43 ⟨Nat.le_of_ble_eq_true rfl, Nat.le_of_ble_eq_true rfl⟩) hS hA hP (fun r_15 H locs hw hP hS => ?_)
        obtain ⟨h_15, ht_15⟩ : (0 ≤ r_15.toInt ∧ r_15.toInt ≤ 3) ∧ (0 ≤ ce.toInt ∧ ce.toInt < (o_n : Int) ∧ (c_4 ce.toInt.toNat).toInt ≠ 0 → r_15.toInt < (jn : Int)) := hw
        refine lv_iload_n hx hb dX5_takeBack_46 rfl (lv_at hl 1 rfl) ?_
        refine lv_aload_n hx hb dX5_takeBack_47 rfl (lv_at hl 3 rfl) ?_
        refine lv_iload_n hx hb dX5_takeBack_48 rfl (lv_at hl 4 rfl) ?_
        refine roP (va_runV (As := [.int ce]) (rest := [.int r_8, .int r_15, .int r_14, .ref b]) ⟨hx, hb, hml, hown, hts⟩ (t_X5_jugglerOf l D cI cR cM _  hj hG hI m_o s_o fg_3 fg_4 ) (cwV 1 hts gX5_takeBack_X5_jugglerOf rfl rfl rfl (by decide +kernel) ⟨Nat.le_of_ble_eq_true rfl, Nat.le_of_ble_eq_true rfl⟩) (pre_T hK hP hD m_o fg_3 rfl) rfl rfl hl.1 rfl (lv_room (Nat.le_of_ble_eq_true rfl)) dX5_takeBack_49 ⟨Nat.le_of_ble_eq_true rfl, Nat.le_of_ble_eq_true rfl⟩) hS hA hP (fun r_16 H locs hw hP hS => ?_)
        have h_16 : (0 ≤ ce.toInt → 0 ≤ r_16.toInt ∧ r_16.toInt < (jn : Int)) := hw
        refine call_p (va_runV (As := [.int r_14, .int r_15, .int r_8, .int r_16]) (rest := []) ⟨hx, hb, hml, hown, hts⟩ (t_X5_put l D cI cR cM _  hj hG hI m_b s_b fg_12 fg_13 (by first | assumption | omega) (by first | assumption | omega) (by first | assumption | omega) (by first | assumption | omega)) (cwV 4 hts gX5_takeBack_X5_put rfl rfl rfl (by decide +kernel) ⟨Nat.le_of_ble_eq_true rfl, Nat.le_of_ble_eq_true rfl⟩) (pre_T hK hP hD m_b fg_12 rfl) rfl rfl hl.1 rfl (lv_room (Nat.le_of_ble_eq_true rfl)) dX5_takeBack_52 ⟨Nat.le_of_ble_eq_true rfl, Nat.le_of_ble_eq_true rfl⟩) hD hS hA (fun u_17 H locs hw hP hD hS => ?_)
        obtain ⟨r_17, f_17⟩ := u_17
        obtain ⟨hI, hF_17, h01_17⟩ : IN jn cI cR cM g L S f_17 ∧ FR S [1] f_2 f_17 ∧ (r_17.toInt = 0 ∨ r_17.toInt = 1) := hw
        have hP : va_P D vwCl (va_pl L f_17) H := hP
        have hD : va_D A (va_pl L f_17) := hD
        have hF := FR_tr hF hF_17 (by decide)
        have fb_18 : f_17 o = .inr (5, [.int (nI jn), .int (nI (2 * jn)), .ref o_p, .int len_3]) := FR_at hF_17 s_o (show (0 : Nat) ∉ ([1] : List Nat) by decide) fg_3
        have fb_19 : f_17 b = .inr (5, [.int (nI jn), .int (nI (2 * jn)), .ref b_p, .int len_12]) := FR_at hF_17 s_b (show (0 : Nat) ∉ ([1] : List Nat) by decide) fg_12
        refine a_if_ne (u := r_17.toInt) (tgt := 60) hx hb dX5_takeBack_55 (by decide) (rfl) (fun c_20 => ?_) (fun c_20 => ?_)
        · obtain ⟨z_21, q_21, e_21⟩ := i_inc (a := ce.toInt) (1) (rfl) (by decide) (by omega) (by omega)
          refine lv_iinc (v := z_21) (lv' := [(2, .int z_21), (4, .int r_14), (3, .int r_8), (0, .ref b), (1, .ref o)]) hx hb dX5_takeBack_60 hl (k := 4) rfl q_21 (by decide) rfl (fun ls hl => ?_)
          refine lv_goto (tgt := 10) hx hb dX5_takeBack_63 (by decide) ?_
          exact ih10 z_21 f_17 _ _ _ (by omega) hI hF (by first | assumption | omega) hP hD hS (lv_sub hl [3, 4, 0] rfl)
        · refine lv_iconst (v := 0) hx hb dX5_takeBack_58 (by decide) ?_
          have hz_22 : (0 : Int32).toInt = 0 := by decide
          exact g_zret ((0 : Int32), f_17) hx hb hr hlocks hS (by first | exact Or.inl rfl | exact Or.inr rfl) rfl (⟨hI, hF, show (0 : Int32).toInt = 0 ∨ (0 : Int32).toInt = 1 from (by first | assumption | omega)⟩) hP hD hQ (Nat.le_of_ble_eq_true rfl) (Nat.le_of_ble_eq_true rfl) dX5_takeBack_59
  have hz_23 : (0 : Int32).toInt = 0 := by decide
  exact loop10 ((200 - (0 : Int32).toInt).toNat + 1) (0 : Int32) f_1 _ _ _ (by omega) hI hF (by first | assumption | omega) hP hD hS (lv_sub hl [1, 2, 0] rfl)
set_option maxRecDepth 100000 in
set_option maxHeartbeats 4000000 in
theorem t_X5_takeOver (l : Launch) (D : va_G) (cI cR cM : ClassId) (sz : Nat) {jn : Nat} {g : Nat → Nat} {L : List Nat} {S : Sg} {f : Nat → va_E} {b b_p b_n : Nat} {b_l : Int32} {b_c : Nat → Int32} {o o_p o_n : Nat} {o_l : Int32} {o_c : Nat → Int32}  (hj : 1 ≤ jn ∧ jn ≤ 3) (hG : SG g L S) (hI : IN jn cI cR cM g L S f) (m_b : b ∈ L) (s_b : S b = (0, b_p, b_n)) (f_b : f b = .inr (5, [.int (nI jn), .int (nI (2 * jn)), .ref b_p, .int b_l])) (f_b_p : f b_p = .inl (cI, b_n, .inl b_c)) (m_o : o ∈ L) (s_o : S o = (0, o_p, o_n)) (f_o : f o = .inr (5, [.int (nI jn), .int (nI (2 * jn)), .ref o_p, .int o_l])) (f_o_p : f o_p = .inl (cI, o_n, .inl o_c))  : Met l yX5_takeOver wsX5_takeOver ({ frames := 2, cells := 0, slots := 0, locals := 44 }) (P0 D cI cR cM [.ref b, .ref o] sz (va_pl L f)) (QG (S := Nat → va_E) (fun u => none) (fun u => va_pl L u) (fun u => IN jn cI cR cM g L S u ∧ FR S [0, 1] f u) D (va_A (va_pl L f) sz)) 0 0 (va_A (va_pl L f) sz) := by
  refine go (cc := cX5_takeOver) (maxL := 5) (ret := none) (by decide +kernel) rfl (Nat.le_of_ble_eq_true rfl) ?_
  intro p e s m below meth c ls args Q hQ hsz hx hb hr hml hts hown hlocks hnm hP hK hD hl
  subst hsz
  have hD := hD.self (sz := s.heap.size)
  generalize hAe : va_A (va_pl L f) s.heap.size = A at hD hQ
  have hA : ∀ q, s.heap.size ≤ q → A q := fun q h => by rw [← hAe]; exact Or.inr h
  have hS : va_S A s.heap s.heap [] := va_S.rf
  have hF : FR S [0, 1] f f := FR_rf
  have hl : lv_has ls 5 [(0, .ref b), (1, .ref o)] := hl
  obtain ⟨v1_b, v2_b, v3_b, m_b_p, s_b_p⟩ := iv_0 hI m_b s_b f_b
  obtain ⟨w1_b, w2_b, w3_b, w4_b, w5_b⟩ := lenw hj v1_b v2_b v3_b
  have k_b := iv_1 hI m_b_p s_b_p f_b_p
  obtain ⟨v1_o, v2_o, v3_o, m_o_p, s_o_p⟩ := iv_0 hI m_o s_o f_o
  obtain ⟨w1_o, w2_o, w3_o, w4_o, w5_o⟩ := lenw hj v1_o v2_o v3_o
  have k_o := iv_1 hI m_o_p s_o_p f_o_p
  refine lv_aload_n hx hb dX5_takeOver_0 rfl (lv_at hl 0 rfl) ?_
  refine lv_aload_n hx hb dX5_takeOver_1 rfl (lv_at hl 1 rfl) ?_
  refine t_get (D := D) (L := L) (f := f) (ci := 5) (v := .int o_l) (C := RX5) (T := TX5) (N := 4) hx hb hts (by decide +kernel) hown hK.1 hP m_o f_o rfl 3 (by decide) (hts (.fieldLink RX5 28 "JugglingHall$Row" "length" "I") (by decide +kernel)) (fun _ h9 => h9) rfl dX5_takeOver_2 ?_
  refine call_p (va_runV (As := [.int o_l]) (rest := []) ⟨hx, hb, hml, hown, hts⟩ (t_X5_reset l D cI cR cM _  hj hG hI m_b s_b f_b f_b_p ) (cwV 1 hts gX5_takeOver_X5_reset rfl rfl rfl (by decide +kernel) ⟨Nat.le_of_ble_eq_true rfl, Nat.le_of_ble_eq_true rfl⟩) (pre_T hK hP hD m_b f_b rfl) rfl rfl hl.1 rfl (lv_room (Nat.le_of_ble_eq_true rfl)) dX5_takeOver_5 ⟨Nat.le_of_ble_eq_true rfl, Nat.le_of_ble_eq_true rfl⟩) hD hS hA (fun u_1 H locs hw hP hD hS => ?_)
  obtain ⟨f_1, e0_1⟩ : ∃ x, x = u_1 := ⟨_, rfl⟩
  subst e0_1
  obtain ⟨hI, hF_1⟩ : IN jn cI cR cM g L S f_1 ∧ FR S [0, 1] f f_1 := hw
  have hP : va_P D vwCl (va_pl L f_1) H := hP
  have hD : va_D A (va_pl L f_1) := hD
  have hF := FR_tr hF hF_1 (by decide)
  refine lv_iconst (v := 0) hx hb dX5_takeOver_8 (by decide) ?_
  refine lv_istore_n (lv' := [(2, .int 0), (0, .ref b), (1, .ref o)]) hx hb dX5_takeOver_9 rfl hl (by decide) rfl (fun ls hl => ?_)
  have loop10 : ∀ (ddloop10 : Nat) (ce : Int32) (f_2 : Nat → va_E) (H : Heap) (locs : List Loc) (ls : Array Slot), (200 - ce.toInt).toNat < ddloop10 → IN jn cI cR cM g L S f_2 → FR S [0, 1] f f_2 → (0 ≤ ce.toInt ∧ ce.toInt ≤ 144) → va_P D vwCl (va_pl L f_2) H → va_D A (va_pl L f_2) → va_S A s.heap H locs → lv_has ls 5 [(0, .ref b), (1, .ref o), (2, .int ce)] → W p l e ({ frames := 2, cells := 0, slots := 0, locals := 44 }) s m args below meth c H locs 0 0 Q (F0 m 10 ls []) := by
    intro ddloop10
    induction ddloop10 with
    | zero =>
      intro ce f_2 H locs ls hdd
      exact absurd hdd (Nat.not_lt_zero _)
    | succ ddloop10 ih10 =>
      intro ce f_2 H locs ls hdd hI hF hi hP hD hS hl
      refine lv_iload_n hx hb dX5_takeOver_10 rfl (lv_at hl 2 rfl) ?_
      refine lv_aload_n hx hb dX5_takeOver_11 rfl (lv_at hl 1 rfl) ?_
      obtain ⟨len_3, fg_3, v1_3, v2_3, v3_3, mp_3, sp_3⟩ := op_0 hI m_o s_o
      obtain ⟨w1_3, w2_3, w3_3, w4_3, w5_3⟩ := lenw hj v1_3 v2_3 v3_3
      obtain ⟨c_4, fg_4, iv0_4⟩ := op_1 hI m_o_p s_o_p
      refine roP (va_runV (As := []) (rest := [.int ce]) ⟨hx, hb, hml, hown, hts⟩ (t_X5_cellCount l D cI cR cM _  hj hG hI m_o s_o fg_3 fg_4 ) (cwV 0 hts gX5_takeOver_X5_cellCount rfl rfl rfl (by decide +kernel) ⟨Nat.le_of_ble_eq_true rfl, Nat.le_of_ble_eq_true rfl⟩) (pre_T hK hP hD m_o fg_3 rfl) rfl rfl hl.1 rfl (lv_room (Nat.le_of_ble_eq_true rfl)) dX5_takeOver_12 ⟨Nat.le_of_ble_eq_true rfl, Nat.le_of_ble_eq_true rfl⟩) hS hA hP (fun r_5 H locs hw hP hS => ?_)
      have h_5 : (r_5.toInt = len_3.toInt * (2 * (jn : Int))) := hw
      refine a_icmp_ge (u := ce.toInt) (v := r_5.toInt) (tgt := 69) hx hb dX5_takeOver_15 (by decide) (rfl) (rfl) (fun c_6 => ?_) (fun c_6 => ?_)
      · exact g_vret f_2 hx hb hr hlocks hS rfl (⟨hI, hF⟩) hP hD hQ (Nat.le_of_ble_eq_true rfl) (Nat.le_of_ble_eq_true rfl) dX5_takeOver_69
      · refine lv_aload_n hx hb dX5_takeOver_18 rfl (lv_at hl 1 rfl) ?_
        refine lv_iload_n hx hb dX5_takeOver_19 rfl (lv_at hl 2 rfl) ?_
        refine roP (va_runV (As := [.int ce]) (rest := []) ⟨hx, hb, hml, hown, hts⟩ (t_X5_jugglerOf l D cI cR cM _  hj hG hI m_o s_o fg_3 fg_4 ) (cwV 1 hts gX5_takeOver_X5_jugglerOf rfl rfl rfl (by decide +kernel) ⟨Nat.le_of_ble_eq_true rfl, Nat.le_of_ble_eq_true rfl⟩) (pre_T hK hP hD m_o fg_3 rfl) rfl rfl hl.1 rfl (lv_room (Nat.le_of_ble_eq_true rfl)) dX5_takeOver_20 ⟨Nat.le_of_ble_eq_true rfl, Nat.le_of_ble_eq_true rfl⟩) hS hA hP (fun r_7 H locs hw hP hS => ?_)
        have h_7 : (0 ≤ ce.toInt → 0 ≤ r_7.toInt ∧ r_7.toInt < (jn : Int)) := hw
        refine lv_iconst (v := 1) hx hb dX5_takeOver_23 (by decide) ?_
        refine a_iadd (u := r_7.toInt) (v := 1) hx hb dX5_takeOver_24 (rfl) (by decide) (by omega) (fun z_8 e_8 => ?_)
        refine lv_aload_n hx hb dX5_takeOver_25 rfl (lv_at hl 0 rfl) ?_
        obtain ⟨len_9, fg_9, v1_9, v2_9, v3_9, mp_9, sp_9⟩ := op_0 hI m_b s_b
        obtain ⟨w1_9, w2_9, w3_9, w4_9, w5_9⟩ := lenw hj v1_9 v2_9 v3_9
        refine t_get (D := D) (L := L) (f := f_2) (ci := 5) (v := .int (nI jn)) (C := RX5) (T := TX5) (N := 4) hx hb hts (by decide +kernel) hown hK.1 hP m_b fg_9 rfl 0 (by decide) (hts (.fieldLink RX5 15 "JugglingHall$Row" "jugglers" "I") (by decide +kernel)) (fun _ h9 => h9) rfl dX5_takeOver_26 ?_
        refine a_irem (u := (r_7.toInt + 1)) (v := (jn : Int)) hx hb dX5_takeOver_29 (e_8) (nI_toInt (by omega)) (by omega) (fun z_10 e_10 h_10 k_10 => ?_)
        refine lv_istore_n (lv' := [(3, .int z_10), (0, .ref b), (1, .ref o), (2, .int ce)]) hx hb dX5_takeOver_30 rfl hl (by decide) rfl (fun ls hl => ?_)
        refine lv_aload_n hx hb dX5_takeOver_31 rfl (lv_at hl 2 rfl) ?_
        refine lv_iload_n hx hb dX5_takeOver_32 rfl (lv_at hl 3 rfl) ?_
        refine roP (va_runV (As := [.int ce]) (rest := []) ⟨hx, hb, hml, hown, hts⟩ (t_X5_target l D cI cR cM _  hj hG hI m_o s_o fg_3 fg_4 ) (cwV 1 hts gX5_takeOver_X5_target rfl rfl rfl (by decide +kernel) ⟨Nat.le_of_ble_eq_true rfl, Nat.le_of_ble_eq_true rfl⟩) (pre_T hK hP hD m_o fg_3 rfl) rfl rfl hl.1 rfl (lv_room (Nat.le_of_ble_eq_true rfl)) dX5_takeOver_33 ⟨Nat.le_of_ble_eq_true rfl, Nat.le_of_ble_eq_true rfl⟩) hS hA hP (fun r_11 H locs hw hP hS => ?_)
        obtain ⟨h_11, ht_11⟩ : (0 ≤ r_11.toInt ∧ r_11.toInt ≤ 3) ∧ (0 ≤ ce.toInt ∧ ce.toInt < (o_n : Int) ∧ (c_4 ce.toInt.toNat).toInt ≠ 0 → r_11.toInt < (jn : Int)) := hw
        refine lv_iconst (v := 1) hx hb dX5_takeOver_36 (by decide) ?_
        refine a_iadd (u := r_11.toInt) (v := 1) hx hb dX5_takeOver_37 (rfl) (by decide) (by omega) (fun z_12 e_12 => ?_)
        refine lv_aload_n hx hb dX5_takeOver_38 rfl (lv_at hl 1 rfl) ?_
        refine t_get (D := D) (L := L) (f := f_2) (ci := 5) (v := .int (nI jn)) (C := RX5) (T := TX5) (N := 4) hx hb hts (by decide +kernel) hown hK.1 hP m_b fg_9 rfl 0 (by decide) (hts (.fieldLink RX5 15 "JugglingHall$Row" "jugglers" "I") (by decide +kernel)) (fun _ h9 => h9) rfl dX5_takeOver_39 ?_
        refine a_irem (u := (r_11.toInt + 1)) (v := (jn : Int)) hx hb dX5_takeOver_42 (e_12) (nI_toInt (by omega)) (by omega) (fun z_13 e_13 h_13 k_13 => ?_)
        refine lv_istore (lv' := [(4, .int z_13), (3, .int z_10), (0, .ref b), (1, .ref o), (2, .int ce)]) hx hb dX5_takeOver_43 hl (by decide) rfl (fun ls hl => ?_)
        refine lv_aload_n hx hb dX5_takeOver_45 rfl (lv_at hl 2 rfl) ?_
        refine lv_aload_n hx hb dX5_takeOver_46 rfl (lv_at hl 3 rfl) ?_
        refine lv_iload_n hx hb dX5_takeOver_47 rfl (lv_at hl 4 rfl) ?_
        refine roP (va_runV (As := [.int ce]) (rest := [.ref b]) ⟨hx, hb, hml, hown, hts⟩ (t_X5_beatOf l D cI cR cM _  hj hG hI m_o s_o fg_3 fg_4 ) (cwV 1 hts gX5_takeOver_X5_beatOf rfl rfl rfl (by decide +kernel) ⟨Nat.le_of_ble_eq_true rfl, Nat.le_of_ble_eq_true rfl⟩) (pre_T hK hP hD m_o fg_3 rfl) rfl rfl hl.1 rfl (lv_room (Nat.le_of_ble_eq_true rfl)) dX5_takeOver_48 ⟨Nat.le_of_ble_eq_true rfl, Nat.le_of_ble_eq_true rfl⟩) hS hA hP (fun r_14 H locs hw hP hS => ?_)
        have h_14 : (0 ≤ ce.toInt → 0 ≤ r_14.toInt ∧ r_14.toInt ≤ ce.toInt) := hw
        refine lv_iload_n hx hb dX5_takeOver_51 rfl (lv_at hl 1 rfl) ?_
        refine lv_aload_n hx hb dX5_takeOver_52 rfl (lv_at hl 3 rfl) ?_
        refine lv_iload_n hx hb dX5_takeOver_53 rfl (lv_at hl 4 rfl) ?_
        refine roP (va_runV (As := [.int ce]) (rest := [.int z_10, .int r_14, .ref b]) ⟨hx, hb, hml, hown, hts⟩ (t_X5_height l D cI cR cM _  hj hG hI m_o s_o fg_3 fg_4 ) (cwV 1 hts gX5_takeOver_X5_height rfl rfl rfl (by decide +kernel) ⟨Nat.le_of_ble_eq_true rfl, Nat.le_of_ble_eq_true rfl⟩) (pre_T hK hP hD m_o fg_3 rfl) rfl rfl hl.1 rfl (lv_room (Nat.le_of_ble_eq_true rfl)) dX5_takeOver_54 ⟨Nat.le_of_ble_eq_true rfl, Nat.le_of_ble_eq_true rfl⟩) hS hA hP (fun r_15 H locs hw hP hS => ?_)
        have h_15 : (0 ≤ r_15.toInt ∧ r_15.toInt ≤ 9) := hw
        refine lv_iload hx hb dX5_takeOver_57 (lv_at hl 0 rfl) ?_
        obtain ⟨c_16, fg_16, iv0_16⟩ := op_1 hI m_b_p s_b_p
        refine call_p (va_runV (As := [.int r_14, .int z_10, .int r_15, .int z_13]) (rest := []) ⟨hx, hb, hml, hown, hts⟩ (t_X5_put l D cI cR cM _  hj hG hI m_b s_b fg_9 fg_16 (by first | assumption | omega) (by first | assumption | omega) (by first | assumption | omega) (by first | assumption | omega)) (cwV 4 hts gX5_takeOver_X5_put rfl rfl rfl (by decide +kernel) ⟨Nat.le_of_ble_eq_true rfl, Nat.le_of_ble_eq_true rfl⟩) (pre_T hK hP hD m_b fg_9 rfl) rfl rfl hl.1 rfl (lv_room (Nat.le_of_ble_eq_true rfl)) dX5_takeOver_59 ⟨Nat.le_of_ble_eq_true rfl, Nat.le_of_ble_eq_true rfl⟩) hD hS hA (fun u_17 H locs hw hP hD hS => ?_)
        obtain ⟨r_17, f_17⟩ := u_17
        obtain ⟨hI, hF_17, h01_17⟩ : IN jn cI cR cM g L S f_17 ∧ FR S [1] f_2 f_17 ∧ (r_17.toInt = 0 ∨ r_17.toInt = 1) := hw
        have hP : va_P D vwCl (va_pl L f_17) H := hP
        have hD : va_D A (va_pl L f_17) := hD
        have hF := FR_tr hF hF_17 (by decide)
        have fb_18 : f_17 o = .inr (5, [.int (nI jn), .int (nI (2 * jn)), .ref o_p, .int len_3]) := FR_at hF_17 s_o (show (0 : Nat) ∉ ([1] : List Nat) by decide) fg_3
        have fb_19 : f_17 b = .inr (5, [.int (nI jn), .int (nI (2 * jn)), .ref b_p, .int len_9]) := FR_at hF_17 s_b (show (0 : Nat) ∉ ([1] : List Nat) by decide) fg_9
        refine lv_pop hx hb dX5_takeOver_62 rfl ?_
        obtain ⟨z_20, q_20, e_20⟩ := i_inc (a := ce.toInt) (1) (rfl) (by decide) (by omega) (by omega)
        refine lv_iinc (v := z_20) (lv' := [(2, .int z_20), (4, .int z_13), (3, .int z_10), (0, .ref b), (1, .ref o)]) hx hb dX5_takeOver_63 hl (k := 4) rfl q_20 (by decide) rfl (fun ls hl => ?_)
        refine lv_goto (tgt := 10) hx hb dX5_takeOver_66 (by decide) ?_
        exact ih10 z_20 f_17 _ _ _ (by omega) hI hF (by first | assumption | omega) hP hD hS (lv_sub hl [3, 4, 0] rfl)
  have hz_21 : (0 : Int32).toInt = 0 := by decide
  exact loop10 ((200 - (0 : Int32).toInt).toNat + 1) (0 : Int32) f_1 _ _ _ (by omega) hI hF (by first | assumption | omega) hP hD hS (lv_sub hl [1, 2, 0] rfl)
set_option maxRecDepth 100000 in
set_option maxHeartbeats 4000000 in
theorem t_X5_takeDual (l : Launch) (D : va_G) (cI cR cM : ClassId) (sz : Nat) {jn : Nat} {g : Nat → Nat} {L : List Nat} {S : Sg} {f : Nat → va_E} {b b_p b_n : Nat} {b_l : Int32} {b_c : Nat → Int32} {o o_p o_n : Nat} {o_l : Int32} {o_c : Nat → Int32}  (hj : 1 ≤ jn ∧ jn ≤ 3) (hG : SG g L S) (hI : IN jn cI cR cM g L S f) (m_b : b ∈ L) (s_b : S b = (0, b_p, b_n)) (f_b : f b = .inr (5, [.int (nI jn), .int (nI (2 * jn)), .ref b_p, .int b_l])) (f_b_p : f b_p = .inl (cI, b_n, .inl b_c)) (m_o : o ∈ L) (s_o : S o = (0, o_p, o_n)) (f_o : f o = .inr (5, [.int (nI jn), .int (nI (2 * jn)), .ref o_p, .int o_l])) (f_o_p : f o_p = .inl (cI, o_n, .inl o_c))  : Met l yX5_takeDual wsX5_takeDual ({ frames := 2, cells := 0, slots := 0, locals := 44 }) (P0 D cI cR cM [.ref b, .ref o] sz (va_pl L f)) (QG (S := Int32 × (Nat → va_E)) (fun u => some (.int u.1)) (fun u => va_pl L u.2) (fun u => IN jn cI cR cM g L S u.2 ∧ FR S [0, 1] f u.2 ∧ (u.1.toInt = 0 ∨ u.1.toInt = 1)) D (va_A (va_pl L f) sz)) 0 0 (va_A (va_pl L f) sz) := by
  refine go (cc := cX5_takeDual) (maxL := 3) (ret := (some .boolean)) (by decide +kernel) rfl (Nat.le_of_ble_eq_true rfl) ?_
  intro p e s m below meth c ls args Q hQ hsz hx hb hr hml hts hown hlocks hnm hP hK hD hl
  subst hsz
  have hD := hD.self (sz := s.heap.size)
  generalize hAe : va_A (va_pl L f) s.heap.size = A at hD hQ
  have hA : ∀ q, s.heap.size ≤ q → A q := fun q h => by rw [← hAe]; exact Or.inr h
  have hS : va_S A s.heap s.heap [] := va_S.rf
  have hF : FR S [0, 1] f f := FR_rf
  have hl : lv_has ls 3 [(0, .ref b), (1, .ref o)] := hl
  obtain ⟨v1_b, v2_b, v3_b, m_b_p, s_b_p⟩ := iv_0 hI m_b s_b f_b
  obtain ⟨w1_b, w2_b, w3_b, w4_b, w5_b⟩ := lenw hj v1_b v2_b v3_b
  have k_b := iv_1 hI m_b_p s_b_p f_b_p
  obtain ⟨v1_o, v2_o, v3_o, m_o_p, s_o_p⟩ := iv_0 hI m_o s_o f_o
  obtain ⟨w1_o, w2_o, w3_o, w4_o, w5_o⟩ := lenw hj v1_o v2_o v3_o
  have k_o := iv_1 hI m_o_p s_o_p f_o_p
  refine lv_aload_n hx hb dX5_takeDual_0 rfl (lv_at hl 1 rfl) ?_
  refine roP (va_runV (As := []) (rest := []) ⟨hx, hb, hml, hown, hts⟩ (t_X5_isPlain l D cI cR cM _  hj hG hI m_o s_o f_o f_o_p ) (cwV 0 hts gX5_takeDual_X5_isPlain rfl rfl rfl (by decide +kernel) ⟨Nat.le_of_ble_eq_true rfl, Nat.le_of_ble_eq_true rfl⟩) (pre_T hK hP hD m_o f_o rfl) rfl rfl hl.1 rfl (lv_room (Nat.le_of_ble_eq_true rfl)) dX5_takeDual_1 ⟨Nat.le_of_ble_eq_true rfl, Nat.le_of_ble_eq_true rfl⟩) hS hA hP (fun r_1 H locs hw hP hS => ?_)
  have h01_1 : (r_1.toInt = 0 ∨ r_1.toInt = 1) := hw
  refine a_if_ne (u := r_1.toInt) (tgt := 9) hx hb dX5_takeDual_4 (by decide) (rfl) (fun c_2 => ?_) (fun c_2 => ?_)
  · refine lv_aload_n hx hb dX5_takeDual_9 rfl (lv_at hl 0 rfl) ?_
    refine lv_aload_n hx hb dX5_takeDual_10 rfl (lv_at hl 1 rfl) ?_
    refine t_get (D := D) (L := L) (f := f) (ci := 5) (v := .int o_l) (C := RX5) (T := TX5) (N := 4) hx hb hts (by decide +kernel) hown hK.1 hP m_o f_o rfl 3 (by decide) (hts (.fieldLink RX5 28 "JugglingHall$Row" "length" "I") (by decide +kernel)) (fun _ h9 => h9) rfl dX5_takeDual_11 ?_
    refine call_p (va_runV (As := [.int o_l]) (rest := []) ⟨hx, hb, hml, hown, hts⟩ (t_X5_reset l D cI cR cM _  hj hG hI m_b s_b f_b f_b_p ) (cwV 1 hts gX5_takeDual_X5_reset rfl rfl rfl (by decide +kernel) ⟨Nat.le_of_ble_eq_true rfl, Nat.le_of_ble_eq_true rfl⟩) (pre_T hK hP hD m_b f_b rfl) rfl rfl hl.1 rfl (lv_room (Nat.le_of_ble_eq_true rfl)) dX5_takeDual_14 ⟨Nat.le_of_ble_eq_true rfl, Nat.le_of_ble_eq_true rfl⟩) hD hS hA (fun u_3 H locs hw hP hD hS => ?_)
    obtain ⟨f_3, e0_3⟩ : ∃ x, x = u_3 := ⟨_, rfl⟩
    subst e0_3
    obtain ⟨hI, hF_3⟩ : IN jn cI cR cM g L S f_3 ∧ FR S [0, 1] f f_3 := hw
    have hP : va_P D vwCl (va_pl L f_3) H := hP
    have hD : va_D A (va_pl L f_3) := hD
    have hF := FR_tr hF hF_3 (by decide)
    refine lv_iconst (v := 0) hx hb dX5_takeDual_17 (by decide) ?_
    refine lv_istore_n (lv' := [(2, .int 0), (0, .ref b), (1, .ref o)]) hx hb dX5_takeDual_18 rfl hl (by decide) rfl (fun ls hl => ?_)
    have loop19 : ∀ (ddloop19 : Nat) (ce : Int32) (f_4 : Nat → va_E) (H : Heap) (locs : List Loc) (ls : Array Slot), (200 - ce.toInt).toNat < ddloop19 → IN jn cI cR cM g L S f_4 → FR S [0, 1] f f_4 → (0 ≤ ce.toInt ∧ ce.toInt ≤ 72) → va_P D vwCl (va_pl L f_4) H → va_D A (va_pl L f_4) → va_S A s.heap H locs → lv_has ls 3 [(0, .ref b), (1, .ref o), (2, .int ce)] → W p l e ({ frames := 2, cells := 0, slots := 0, locals := 44 }) s m args below meth c H locs 0 0 Q (F0 m 19 ls []) := by
      intro ddloop19
      induction ddloop19 with
      | zero =>
        intro ce f_4 H locs ls hdd
        exact absurd hdd (Nat.not_lt_zero _)
      | succ ddloop19 ih19 =>
        intro ce f_4 H locs ls hdd hI hF hi hP hD hS hl
        refine lv_iload_n hx hb dX5_takeDual_19 rfl (lv_at hl 2 rfl) ?_
        refine lv_aload_n hx hb dX5_takeDual_20 rfl (lv_at hl 1 rfl) ?_
        obtain ⟨len_5, fg_5, v1_5, v2_5, v3_5, mp_5, sp_5⟩ := op_0 hI m_o s_o
        obtain ⟨w1_5, w2_5, w3_5, w4_5, w5_5⟩ := lenw hj v1_5 v2_5 v3_5
        refine t_get (D := D) (L := L) (f := f_4) (ci := 5) (v := .int len_5) (C := RX5) (T := TX5) (N := 4) hx hb hts (by decide +kernel) hown hK.1 hP m_o fg_5 rfl 3 (by decide) (hts (.fieldLink RX5 28 "JugglingHall$Row" "length" "I") (by decide +kernel)) (fun _ h9 => h9) rfl dX5_takeDual_21 ?_
        refine a_icmp_ge (u := ce.toInt) (v := len_5.toInt) (tgt := 56) hx hb dX5_takeDual_24 (by decide) (rfl) (rfl) (fun c_6 => ?_) (fun c_6 => ?_)
        · refine lv_iconst (v := 1) hx hb dX5_takeDual_56 (by decide) ?_
          have hz_7 : (1 : Int32).toInt = 1 := by decide
          exact g_zret ((1 : Int32), f_4) hx hb hr hlocks hS (by first | exact Or.inl rfl | exact Or.inr rfl) rfl (⟨hI, hF, show (1 : Int32).toInt = 0 ∨ (1 : Int32).toInt = 1 from (by first | assumption | omega)⟩) hP hD hQ (Nat.le_of_ble_eq_true rfl) (Nat.le_of_ble_eq_true rfl) dX5_takeDual_57
        · refine lv_aload_n hx hb dX5_takeDual_27 rfl (lv_at hl 0 rfl) ?_
          refine lv_aload_n hx hb dX5_takeDual_28 rfl (lv_at hl 0 rfl) ?_
          refine lv_iload_n hx hb dX5_takeDual_29 rfl (lv_at hl 2 rfl) ?_
          refine a_ineg (u := ce.toInt) hx hb dX5_takeDual_30 (rfl) (by omega) (fun z_8 e_8 => ?_)
          obtain ⟨len_9, fg_9, v1_9, v2_9, v3_9, mp_9, sp_9⟩ := op_0 hI m_b s_b
          obtain ⟨w1_9, w2_9, w3_9, w4_9, w5_9⟩ := lenw hj v1_9 v2_9 v3_9
          obtain ⟨c_10, fg_10, iv0_10⟩ := op_1 hI m_b_p s_b_p
          refine roP (va_runV (As := [.int z_8]) (rest := [.ref b]) ⟨hx, hb, hml, hown, hts⟩ (t_X5_beatInRound l D cI cR cM _  hj hG hI m_b s_b fg_9 fg_10 ) (cwV 1 hts gX5_takeDual_X5_beatInRound rfl rfl rfl (by decide +kernel) ⟨Nat.le_of_ble_eq_true rfl, Nat.le_of_ble_eq_true rfl⟩) (pre_T hK hP hD m_b fg_9 rfl) rfl rfl hl.1 rfl (lv_room (Nat.le_of_ble_eq_true rfl)) dX5_takeDual_31 ⟨Nat.le_of_ble_eq_true rfl, Nat.le_of_ble_eq_true rfl⟩) hS hA hP (fun r_11 H locs hw hP hS => ?_)
          have h_11 : (0 ≤ r_11.toInt ∧ (r_11.toInt < len_9.toInt ∨ r_11.toInt = 0)) := hw
          refine lv_iconst (v := 0) hx hb dX5_takeDual_34 (by decide) ?_
          refine lv_bipush (v := 9) hx hb dX5_takeDual_35 (by decide) ?_
          refine lv_aload_n hx hb dX5_takeDual_37 rfl (lv_at hl 1 rfl) ?_
          refine lv_iload_n hx hb dX5_takeDual_38 rfl (lv_at hl 2 rfl) ?_
          refine lv_iconst (v := 2) hx hb dX5_takeDual_39 (by decide) ?_
          refine a_imul (u := ce.toInt) (v := 2) hx hb dX5_takeDual_40 (rfl) (by decide) (by omega) (fun z_12 e_12 => ?_)
          obtain ⟨c_13, fg_13, iv0_13⟩ := op_1 hI m_o_p s_o_p
          refine roP (va_runV (As := [.int z_12]) (rest := [.int 9, .int 0, .int r_11, .ref b]) ⟨hx, hb, hml, hown, hts⟩ (t_X5_height l D cI cR cM _  hj hG hI m_o s_o fg_5 fg_13 ) (cwV 1 hts gX5_takeDual_X5_height rfl rfl rfl (by decide +kernel) ⟨Nat.le_of_ble_eq_true rfl, Nat.le_of_ble_eq_true rfl⟩) (pre_T hK hP hD m_o fg_5 rfl) rfl rfl hl.1 rfl (lv_room (Nat.le_of_ble_eq_true rfl)) dX5_takeDual_41 ⟨Nat.le_of_ble_eq_true rfl, Nat.le_of_ble_eq_true rfl⟩) hS hA hP (fun r_14 H locs hw hP hS => ?_)
          have h_14 : (0 ≤ r_14.toInt ∧ r_14.toInt ≤ 9) := hw
          refine a_isub (u := 9) (v := r_14.toInt) hx hb dX5_takeDual_44 (by decide) (rfl) (by omega) (fun z_15 e_15 => ?_)
          refine lv_iconst (v := 0) hx hb dX5_takeDual_45 (by decide) ?_
          have hz_16 : (0 : Int32).toInt = 0 := by decide
          have hz_17 : (0 : Int32).toInt = 0 := by decide
          refine call_p (va_runV (As := [.int r_11, .int 0, .int z_15, .int 0]) (rest := []) ⟨hx, hb, hml, hown, hts⟩ (t_X5_put l D cI cR cM _  hj hG hI m_b s_b fg_9 fg_10 (by first | assumption | omega) (by first | assumption | omega) (by first | assumption | omega) (by first | assumption | omega)) (cwV 4 hts gX5_takeDual_X5_put rfl rfl rfl (by decide +kernel) ⟨Nat.le_of_ble_eq_true rfl, Nat.le_of_ble_eq_true rfl⟩) (pre_T hK hP hD m_b fg_9 rfl) rfl rfl hl.1 rfl (lv_room (Nat.le_of_ble_eq_true rfl)) dX5_takeDual_46 ⟨Nat.le_of_ble_eq_true rfl, Nat.le_of_ble_eq_true rfl⟩) hD hS hA (fun u_18 H locs hw hP hD hS => ?_)
          obtain ⟨r_18, f_18⟩ := u_18
          obtain ⟨hI, hF_18, h01_18⟩ : IN jn cI cR cM g L S f_18 ∧ FR S [1] f_4 f_18 ∧ (r_18.toInt = 0 ∨ r_18.toInt = 1) := hw
          have hP : va_P D vwCl (va_pl L f_18) H := hP
          have hD : va_D A (va_pl L f_18) := hD
          have hF := FR_tr hF hF_18 (by decide)
          have fb_19 : f_18 o = .inr (5, [.int (nI jn), .int (nI (2 * jn)), .ref o_p, .int len_5]) := FR_at hF_18 s_o (show (0 : Nat) ∉ ([1] : List Nat) by decide) fg_5
          have fb_20 : f_18 b = .inr (5, [.int (nI jn), .int (nI (2 * jn)), .ref b_p, .int len_9]) := FR_at hF_18 s_b (show (0 : Nat) ∉ ([1] : List Nat) by decide) fg_9
          refine lv_pop hx hb dX5_takeDual_49 rfl ?_
          obtain ⟨z_21, q_21, e_21⟩ := i_inc (a := ce.toInt) (1) (rfl) (by decide) (by omega) (by omega)
          refine lv_iinc (v := z_21) (lv' := [(2, .int z_21), (0, .ref b), (1, .ref o)]) hx hb dX5_takeDual_50 hl (k := 2) rfl q_21 (by decide) rfl (fun ls hl => ?_)
          refine lv_goto (tgt := 19) hx hb dX5_takeDual_53 (by decide) ?_
          exact ih19 z_21 f_18 _ _ _ (by omega) hI hF (by first | assumption | omega) hP hD hS (lv_sub hl [1, 2, 0] rfl)
    have hz_22 : (0 : Int32).toInt = 0 := by decide
    exact loop19 ((200 - (0 : Int32).toInt).toNat + 1) (0 : Int32) f_3 _ _ _ (by omega) hI hF (by first | assumption | omega) hP hD hS (lv_sub hl [1, 2, 0] rfl)
  · refine lv_iconst (v := 0) hx hb dX5_takeDual_7 (by decide) ?_
    have hz_23 : (0 : Int32).toInt = 0 := by decide
    exact g_zret ((0 : Int32), f) hx hb hr hlocks hS (by first | exact Or.inl rfl | exact Or.inr rfl) rfl (⟨hI, hF, show (0 : Int32).toInt = 0 ∨ (0 : Int32).toInt = 1 from (by first | assumption | omega)⟩) hP hD hQ (Nat.le_of_ble_eq_true rfl) (Nat.le_of_ble_eq_true rfl) dX5_takeDual_8
set_option maxRecDepth 100000 in
set_option maxHeartbeats 4000000 in
theorem t_X5_takeTurned (l : Launch) (D : va_G) (cI cR cM : ClassId) (sz : Nat) {jn : Nat} {g : Nat → Nat} {L : List Nat} {S : Sg} {f : Nat → va_E} {b b_p b_n : Nat} {b_l : Int32} {b_c : Nat → Int32} {o o_p o_n : Nat} {o_l : Int32} {o_c : Nat → Int32} {x : Int32}  (hj : 1 ≤ jn ∧ jn ≤ 3) (hG : SG g L S) (hI : IN jn cI cR cM g L S f) (m_b : b ∈ L) (s_b : S b = (0, b_p, b_n)) (f_b : f b = .inr (5, [.int (nI jn), .int (nI (2 * jn)), .ref b_p, .int b_l])) (f_b_p : f b_p = .inl (cI, b_n, .inl b_c)) (m_o : o ∈ L) (s_o : S o = (0, o_p, o_n)) (f_o : f o = .inr (5, [.int (nI jn), .int (nI (2 * jn)), .ref o_p, .int o_l])) (f_o_p : f o_p = .inl (cI, o_n, .inl o_c))  : Met l yX5_takeTurned wsX5_takeTurned ({ frames := 2, cells := 0, slots := 0, locals := 88 }) (P0 D cI cR cM [.ref b, .ref o, .int x] sz (va_pl L f)) (QG (S := Nat → va_E) (fun u => none) (fun u => va_pl L u) (fun u => IN jn cI cR cM g L S u ∧ FR S [0, 1] f u) D (va_A (va_pl L f) sz)) 0 0 (va_A (va_pl L f) sz) := by
  refine go (cc := cX5_takeTurned) (maxL := 4) (ret := none) (by decide +kernel) rfl (Nat.le_of_ble_eq_true rfl) ?_
  intro p e s m below meth c ls args Q hQ hsz hx hb hr hml hts hown hlocks hnm hP hK hD hl
  subst hsz
  have hD := hD.self (sz := s.heap.size)
  generalize hAe : va_A (va_pl L f) s.heap.size = A at hD hQ
  have hA : ∀ q, s.heap.size ≤ q → A q := fun q h => by rw [← hAe]; exact Or.inr h
  have hS : va_S A s.heap s.heap [] := va_S.rf
  have hF : FR S [0, 1] f f := FR_rf
  have hl : lv_has ls 4 [(0, .ref b), (1, .ref o), (2, .int x)] := hl
  obtain ⟨v1_b, v2_b, v3_b, m_b_p, s_b_p⟩ := iv_0 hI m_b s_b f_b
  obtain ⟨w1_b, w2_b, w3_b, w4_b, w5_b⟩ := lenw hj v1_b v2_b v3_b
  have k_b := iv_1 hI m_b_p s_b_p f_b_p
  obtain ⟨v1_o, v2_o, v3_o, m_o_p, s_o_p⟩ := iv_0 hI m_o s_o f_o
  obtain ⟨w1_o, w2_o, w3_o, w4_o, w5_o⟩ := lenw hj v1_o v2_o v3_o
  have k_o := iv_1 hI m_o_p s_o_p f_o_p
  refine lv_aload_n hx hb dX5_takeTurned_0 rfl (lv_at hl 1 rfl) ?_
  refine lv_iload_n hx hb dX5_takeTurned_1 rfl (lv_at hl 2 rfl) ?_
  refine roP (va_runV (As := [.int x]) (rest := []) ⟨hx, hb, hml, hown, hts⟩ (t_X5_beatInRound l D cI cR cM _  hj hG hI m_o s_o f_o f_o_p ) (cwV 1 hts gX5_takeTurned_X5_beatInRound rfl rfl rfl (by decide +kernel) ⟨Nat.le_of_ble_eq_true rfl, Nat.le_of_ble_eq_true rfl⟩) (pre_T hK hP hD m_o f_o rfl) rfl rfl hl.1 rfl (lv_room (Nat.le_of_ble_eq_true rfl)) dX5_takeTurned_2 ⟨Nat.le_of_ble_eq_true rfl, Nat.le_of_ble_eq_true rfl⟩) hS hA hP (fun r_1 H locs hw hP hS => ?_)
  have h_1 : (0 ≤ r_1.toInt ∧ (r_1.toInt < o_l.toInt ∨ r_1.toInt = 0)) := hw
  refine lv_istore_n (lv' := [(3, .int r_1), (0, .ref b), (1, .ref o), (2, .int x)]) hx hb dX5_takeTurned_5 rfl hl (by decide) rfl (fun ls hl => ?_)
  refine lv_aload_n hx hb dX5_takeTurned_6 rfl (lv_at hl 1 rfl) ?_
  refine lv_iconst (v := 0) hx hb dX5_takeTurned_7 (by decide) ?_
  have hz_3 : (0 : Int32).toInt = 0 := by decide
  refine t_put (D := D) (L := L) (f := f) (ci := 5) (v := .int 0) (ty := .int) (C := RX5) (T := TX5) (N := 4) hx hb hts (by decide +kernel) tyX5 tyX5_ok nmX5 hown hK.1 hP hD hS m_b f_b rfl 3 (by decide) (hts (.fieldLink RX5 28 "JugglingHall$Row" "length" "I") (by decide +kernel)) (fun _ h9 => h9) rfl (by decide +kernel) rfl rfl (Nat.le_of_ble_eq_true rfl) dX5_takeTurned_8 (fun f_2 H locs e9_2 o_2 hP hD hS => ?_)
  have fa_2 : f_2 b = .inr (5, [.int (nI jn), .int (nI (2 * jn)), .ref b_p, .int 0]) := e9_2
  have hI := IN_set (e := .inr (5, [.int (nI jn), .int (nI (2 * jn)), .ref b_p, .int 0])) hI s_b (mk_0 (by first | assumption | omega | (rcases j3 hj with h9 | h9 | h9 <;> subst h9 <;> omega)) (by first | assumption | omega | (rcases j3 hj with h9 | h9 | h9 <;> subst h9 <;> omega)) (by first | assumption | omega | (rcases j3 hj with h9 | h9 | h9 <;> subst h9 <;> omega)) (by first | assumption | omega | (rcases j3 hj with h9 | h9 | h9 <;> subst h9 <;> omega)) (by first | assumption | omega | (rcases j3 hj with h9 | h9 | h9 <;> subst h9 <;> omega))) fa_2 o_2
  have hF := FR_set hF s_b (show (0 : Nat) ∈ ([0, 1] : List Nat) by decide) o_2
  have fb_4 : f_2 b_p = .inl (cI, b_n, .inl b_c) := f_at o_2 (S_ne s_b_p s_b (show (1 : Nat) ≠ 0 by decide)) f_b_p
  have fb_5 : f_2 o_p = .inl (cI, o_n, .inl o_c) := f_at o_2 (S_ne s_o_p s_b (show (1 : Nat) ≠ 0 by decide)) f_o_p
  refine lv_aload_n hx hb dX5_takeTurned_11 rfl (lv_at hl 1 rfl) ?_
  refine lv_aload_n hx hb dX5_takeTurned_12 rfl (lv_at hl 2 rfl) ?_
  refine lv_iload_n hx hb dX5_takeTurned_13 rfl (lv_at hl 0 rfl) ?_
  refine lv_aload_n hx hb dX5_takeTurned_14 rfl (lv_at hl 2 rfl) ?_
  obtain ⟨len_6, fg_6, v1_6, v2_6, v3_6, mp_6, sp_6⟩ := op_0 hI m_o s_o
  obtain ⟨w1_6, w2_6, w3_6, w4_6, w5_6⟩ := lenw hj v1_6 v2_6 v3_6
  refine t_get (D := D) (L := L) (f := f_2) (ci := 5) (v := .int len_6) (C := RX5) (T := TX5) (N := 4) hx hb hts (by decide +kernel) hown hK.1 hP m_o fg_6 rfl 3 (by decide) (hts (.fieldLink RX5 28 "JugglingHall$Row" "length" "I") (by decide +kernel)) (fun _ h9 => h9) rfl dX5_takeTurned_15 ?_
  have hz_7 : (0 : Int32).toInt = 0 := by decide
  refine call_p (va_runV (As := [.ref o, .int r_1, .int len_6]) (rest := []) ⟨hx, hb, hml, hown, hts⟩ (t_X5_append l D cI cR cM _  hj hG hI m_b s_b fa_2 fb_4 m_o s_o fg_6 fb_5 (by first | assumption | omega | (rcases j3 hj with h9 | h9 | h9 <;> subst h9 <;> omega)) (by first | assumption | omega | (rcases j3 hj with h9 | h9 | h9 <;> subst h9 <;> omega))) (cwV 3 hts gX5_takeTurned_X5_append rfl rfl rfl (by decide +kernel) ⟨Nat.le_of_ble_eq_true rfl, Nat.le_of_ble_eq_true rfl⟩) (pre_T hK hP hD m_b fa_2 rfl) rfl rfl hl.1 rfl (lv_room (Nat.le_of_ble_eq_true rfl)) dX5_takeTurned_18 ⟨Nat.le_of_ble_eq_true rfl, Nat.le_of_ble_eq_true rfl⟩) hD hS hA (fun u_8 H locs hw hP hD hS => ?_)
  obtain ⟨r_8, f_8⟩ := u_8
  obtain ⟨hI, hF_8, h01_8⟩ : IN jn cI cR cM g L S f_8 ∧ FR S [0, 1] f_2 f_8 ∧ (r_8.toInt = 0 ∨ r_8.toInt = 1) := hw
  have hP : va_P D vwCl (va_pl L f_8) H := hP
  have hD : va_D A (va_pl L f_8) := hD
  have hF := FR_tr hF hF_8 (by decide)
  refine lv_pop hx hb dX5_takeTurned_21 rfl ?_
  refine lv_aload_n hx hb dX5_takeTurned_22 rfl (lv_at hl 1 rfl) ?_
  refine lv_aload_n hx hb dX5_takeTurned_23 rfl (lv_at hl 2 rfl) ?_
  refine lv_iconst (v := 0) hx hb dX5_takeTurned_24 (by decide) ?_
  refine lv_iload_n hx hb dX5_takeTurned_25 rfl (lv_at hl 0 rfl) ?_
  have hz_9 : (0 : Int32).toInt = 0 := by decide
  obtain ⟨len_10, fg_10, v1_10, v2_10, v3_10, mp_10, sp_10⟩ := op_0 hI m_b s_b
  obtain ⟨w1_10, w2_10, w3_10, w4_10, w5_10⟩ := lenw hj v1_10 v2_10 v3_10
  obtain ⟨c_11, fg_11, iv0_11⟩ := op_1 hI m_b_p s_b_p
  obtain ⟨len_12, fg_12, v1_12, v2_12, v3_12, mp_12, sp_12⟩ := op_0 hI m_o s_o
  obtain ⟨w1_12, w2_12, w3_12, w4_12, w5_12⟩ := lenw hj v1_12 v2_12 v3_12
  obtain ⟨c_13, fg_13, iv0_13⟩ := op_1 hI m_o_p s_o_p
  refine call_p (va_runV (As := [.ref o, .int 0, .int r_1]) (rest := []) ⟨hx, hb, hml, hown, hts⟩ (t_X5_append l D cI cR cM _  hj hG hI m_b s_b fg_10 fg_11 m_o s_o fg_12 fg_13 (by first | assumption | omega | (rcases j3 hj with h9 | h9 | h9 <;> subst h9 <;> omega)) (by first | assumption | omega | (rcases j3 hj with h9 | h9 | h9 <;> subst h9 <;> omega))) (cwV 3 hts gX5_takeTurned_X5_append rfl rfl rfl (by decide +kernel) ⟨Nat.le_of_ble_eq_true rfl, Nat.le_of_ble_eq_true rfl⟩) (pre_T hK hP hD m_b fg_10 rfl) rfl rfl hl.1 rfl (lv_room (Nat.le_of_ble_eq_true rfl)) dX5_takeTurned_26 ⟨Nat.le_of_ble_eq_true rfl, Nat.le_of_ble_eq_true rfl⟩) hD hS hA (fun u_14 H locs hw hP hD hS => ?_)
  obtain ⟨r_14, f_14⟩ := u_14
  obtain ⟨hI, hF_14, h01_14⟩ : IN jn cI cR cM g L S f_14 ∧ FR S [0, 1] f_8 f_14 ∧ (r_14.toInt = 0 ∨ r_14.toInt = 1) := hw
  have hP : va_P D vwCl (va_pl L f_14) H := hP
  have hD : va_D A (va_pl L f_14) := hD
  have hF := FR_tr hF hF_14 (by decide)
  refine lv_pop hx hb dX5_takeTurned_29 rfl ?_
  exact g_vret f_14 hx hb hr hlocks hS rfl (⟨hI, hF⟩) hP hD hQ (Nat.le_of_ble_eq_true rfl) (Nat.le_of_ble_eq_true rfl) dX5_takeTurned_30
