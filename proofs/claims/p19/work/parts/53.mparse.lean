theorem dX11_hands_0 : decode cX11_hands 0 = .ok (.aload_n 0, 1) := by decide +kernel
theorem dX11_hands_1 : decode cX11_hands 1 = .ok (.getfield 131, 3) := by decide +kernel
theorem dX11_hands_4 : decode cX11_hands 4 = .ok (.bipush 91, 2) := by decide +kernel
theorem dX11_hands_6 : decode cX11_hands 6 = .ok (.if_icmp .ne 7, 3) := by decide +kernel
theorem dX11_hands_9 : decode cX11_hands 9 = .ok (.iconst 1, 1) := by decide +kernel
theorem dX11_hands_10 : decode cX11_hands 10 = .ok (.goto 4, 3) := by decide +kernel
theorem dX11_hands_13 : decode cX11_hands 13 = .ok (.iconst 0, 1) := by decide +kernel
theorem dX11_hands_14 : decode cX11_hands 14 = .ok (.istore_n 2, 1) := by decide +kernel
theorem dX11_hands_15 : decode cX11_hands 15 = .ok (.iload_n 2, 1) := by decide +kernel
theorem dX11_hands_16 : decode cX11_hands 16 = .ok (.ifCond .eq 7, 3) := by decide +kernel
theorem dX11_hands_19 : decode cX11_hands 19 = .ok (.aload_n 0, 1) := by decide +kernel
theorem dX11_hands_20 : decode cX11_hands 20 = .ok (.invokevirtual 163, 3) := by decide +kernel
theorem dX11_hands_23 : decode cX11_hands 23 = .ok (.bipush 6, 2) := by decide +kernel
theorem dX11_hands_25 : decode cX11_hands 25 = .ok (.aload_n 0, 1) := by decide +kernel
theorem dX11_hands_26 : decode cX11_hands 26 = .ok (.getfield 151, 3) := by decide +kernel
theorem dX11_hands_29 : decode cX11_hands 29 = .ok (.imul, 1) := by decide +kernel
theorem dX11_hands_30 : decode cX11_hands 30 = .ok (.iconst 2, 1) := by decide +kernel
theorem dX11_hands_31 : decode cX11_hands 31 = .ok (.iload_n 1, 1) := by decide +kernel
theorem dX11_hands_32 : decode cX11_hands 32 = .ok (.imul, 1) := by decide +kernel
theorem dX11_hands_33 : decode cX11_hands 33 = .ok (.iadd, 1) := by decide +kernel
theorem dX11_hands_34 : decode cX11_hands 34 = .ok (.istore_n 3, 1) := by decide +kernel
theorem dX11_hands_35 : decode cX11_hands 35 = .ok (.aload_n 0, 1) := by decide +kernel
theorem dX11_hands_36 : decode cX11_hands 36 = .ok (.iload_n 1, 1) := by decide +kernel
theorem dX11_hands_37 : decode cX11_hands 37 = .ok (.invokevirtual 169, 3) := by decide +kernel
theorem dX11_hands_40 : decode cX11_hands 40 = .ok (.istore 4, 2) := by decide +kernel
theorem dX11_hands_42 : decode cX11_hands 42 = .ok (.iload 4, 2) := by decide +kernel
theorem dX11_hands_44 : decode cX11_hands 44 = .ok (.ifCond .eq 6, 3) := by decide +kernel
theorem dX11_hands_47 : decode cX11_hands 47 = .ok (.iload 4, 2) := by decide +kernel
theorem dX11_hands_49 : decode cX11_hands 49 = .ok (.ireturn, 1) := by decide +kernel
theorem dX11_hands_50 : decode cX11_hands 50 = .ok (.aload_n 0, 1) := by decide +kernel
theorem dX11_hands_51 : decode cX11_hands 51 = .ok (.getfield 27, 3) := by decide +kernel
theorem dX11_hands_54 : decode cX11_hands 54 = .ok (.iload_n 3, 1) := by decide +kernel
theorem dX11_hands_55 : decode cX11_hands 55 = .ok (.aload_n 0, 1) := by decide +kernel
theorem dX11_hands_56 : decode cX11_hands 56 = .ok (.getfield 166, 3) := by decide +kernel
theorem dX11_hands_59 : decode cX11_hands 59 = .ok (.iastore, 1) := by decide +kernel
theorem dX11_hands_60 : decode cX11_hands 60 = .ok (.aload_n 0, 1) := by decide +kernel
theorem dX11_hands_61 : decode cX11_hands 61 = .ok (.getfield 27, 3) := by decide +kernel
theorem dX11_hands_64 : decode cX11_hands 64 = .ok (.iload_n 3, 1) := by decide +kernel
theorem dX11_hands_65 : decode cX11_hands 65 = .ok (.iconst 1, 1) := by decide +kernel
theorem dX11_hands_66 : decode cX11_hands 66 = .ok (.iadd, 1) := by decide +kernel
theorem dX11_hands_67 : decode cX11_hands 67 = .ok (.iconst 0, 1) := by decide +kernel
theorem dX11_hands_68 : decode cX11_hands 68 = .ok (.iastore, 1) := by decide +kernel
theorem dX11_hands_69 : decode cX11_hands 69 = .ok (.iload_n 2, 1) := by decide +kernel
theorem dX11_hands_70 : decode cX11_hands 70 = .ok (.ifCond .ne 5, 3) := by decide +kernel
theorem dX11_hands_73 : decode cX11_hands 73 = .ok (.iconst 0, 1) := by decide +kernel
theorem dX11_hands_74 : decode cX11_hands 74 = .ok (.ireturn, 1) := by decide +kernel
theorem dX11_hands_75 : decode cX11_hands 75 = .ok (.aload_n 0, 1) := by decide +kernel
theorem dX11_hands_76 : decode cX11_hands 76 = .ok (.iload_n 1, 1) := by decide +kernel
theorem dX11_hands_77 : decode cX11_hands 77 = .ok (.invokevirtual 169, 3) := by decide +kernel
theorem dX11_hands_80 : decode cX11_hands 80 = .ok (.istore 4, 2) := by decide +kernel
theorem dX11_hands_82 : decode cX11_hands 82 = .ok (.iload 4, 2) := by decide +kernel
theorem dX11_hands_84 : decode cX11_hands 84 = .ok (.ifCond .eq 6, 3) := by decide +kernel
theorem dX11_hands_87 : decode cX11_hands 87 = .ok (.iload 4, 2) := by decide +kernel
theorem dX11_hands_89 : decode cX11_hands 89 = .ok (.ireturn, 1) := by decide +kernel
theorem dX11_hands_90 : decode cX11_hands 90 = .ok (.aload_n 0, 1) := by decide +kernel
theorem dX11_hands_91 : decode cX11_hands 91 = .ok (.getfield 27, 3) := by decide +kernel
theorem dX11_hands_94 : decode cX11_hands 94 = .ok (.iload_n 3, 1) := by decide +kernel
theorem dX11_hands_95 : decode cX11_hands 95 = .ok (.iconst 1, 1) := by decide +kernel
theorem dX11_hands_96 : decode cX11_hands 96 = .ok (.iadd, 1) := by decide +kernel
theorem dX11_hands_97 : decode cX11_hands 97 = .ok (.aload_n 0, 1) := by decide +kernel
theorem dX11_hands_98 : decode cX11_hands 98 = .ok (.getfield 166, 3) := by decide +kernel
theorem dX11_hands_101 : decode cX11_hands 101 = .ok (.iastore, 1) := by decide +kernel
theorem dX11_hands_102 : decode cX11_hands 102 = .ok (.aload_n 0, 1) := by decide +kernel
theorem dX11_hands_103 : decode cX11_hands 103 = .ok (.getfield 27, 3) := by decide +kernel
theorem dX11_hands_106 : decode cX11_hands 106 = .ok (.iload_n 3, 1) := by decide +kernel
theorem dX11_hands_107 : decode cX11_hands 107 = .ok (.invokestatic 172, 3) := by decide +kernel
theorem dX11_hands_110 : decode cX11_hands 110 = .ok (.aload_n 0, 1) := by decide +kernel
theorem dX11_hands_111 : decode cX11_hands 111 = .ok (.getfield 131, 3) := by decide +kernel
theorem dX11_hands_114 : decode cX11_hands 114 = .ok (.bipush 93, 2) := by decide +kernel
theorem dX11_hands_116 : decode cX11_hands 116 = .ok (.if_icmp .eq 13, 3) := by decide +kernel
theorem dX11_hands_119 : decode cX11_hands 119 = .ok (.aload_n 0, 1) := by decide +kernel
theorem dX11_hands_120 : decode cX11_hands 120 = .ok (.iconst 1, 1) := by decide +kernel
theorem dX11_hands_121 : decode cX11_hands 121 = .ok (.aload_n 0, 1) := by decide +kernel
theorem dX11_hands_122 : decode cX11_hands 122 = .ok (.getfield 120, 3) := by decide +kernel
theorem dX11_hands_125 : decode cX11_hands 125 = .ok (.invokevirtual 157, 3) := by decide +kernel
theorem dX11_hands_128 : decode cX11_hands 128 = .ok (.ireturn, 1) := by decide +kernel
theorem dX11_hands_129 : decode cX11_hands 129 = .ok (.aload_n 0, 1) := by decide +kernel
theorem dX11_hands_130 : decode cX11_hands 130 = .ok (.aload_n 0, 1) := by decide +kernel
theorem dX11_hands_131 : decode cX11_hands 131 = .ok (.getfield 120, 3) := by decide +kernel
theorem dX11_hands_134 : decode cX11_hands 134 = .ok (.putfield 160, 3) := by decide +kernel
theorem dX11_hands_137 : decode cX11_hands 137 = .ok (.aload_n 0, 1) := by decide +kernel
theorem dX11_hands_138 : decode cX11_hands 138 = .ok (.invokevirtual 163, 3) := by decide +kernel
theorem dX11_hands_141 : decode cX11_hands 141 = .ok (.iconst 0, 1) := by decide +kernel
theorem dX11_hands_142 : decode cX11_hands 142 = .ok (.ireturn, 1) := by decide +kernel
set_option maxRecDepth 100000 in
set_option maxHeartbeats 4000000 in
theorem ggX11_hands_X11_nextToken : GoodIn wsX11_hands wsX11_nextToken := goodIn_r _ [11, 12, 5, 1, 13, 14, 15, 16, 10, 17, 18, 19, 20, 21, 22, 23, 24, 25, 26, 27, 28, 29, 30, 31, 32, 33, 34, 35, 36, 50, 51, 52, 53, 54, 55, 56, 57, 58, 59, 60, 61, 62, 63, 64, 65, 66, 67, 68, 69, 70, 71, 72, 73, 74, 75, 76, 77, 78, 79, 80, 81, 82, 83, 84, 85, 86, 87, 88, 89, 90, 91, 92, 93, 94, 95, 96] (by with_unfolding_all rfl) (by decide +kernel)
set_option maxRecDepth 20000 in
theorem gX11_hands_X11_nextToken : GoodIn wsX11_hands (wsV RX11 163 RX11 yX11_nextToken wsX11_nextToken) := goodIn_app (goodIn_of _ (by decide +kernel)) ggX11_hands_X11_nextToken
set_option maxRecDepth 100000 in
set_option maxHeartbeats 4000000 in
theorem ggX11_hands_X11_oneThrow : GoodIn wsX11_hands wsX11_oneThrow := goodIn_r _ [40, 1, 5, 13, 6, 41, 4, 42, 43, 44, 10, 45, 46, 7, 8, 9, 11, 12, 14, 15, 16, 17, 18, 19, 20, 21, 22, 23, 24, 25, 26, 27, 28, 29, 30, 31, 32, 33, 34, 35, 36, 50, 51, 52, 53, 54, 55, 56, 57, 58, 59, 60, 61, 62, 63, 64, 65, 66, 67, 68, 69, 70, 71, 72, 73, 74, 75, 76, 77, 78, 79, 80, 81, 82, 83, 84, 85, 86, 87, 88, 89, 90, 91, 92, 93, 94, 95, 96] (by with_unfolding_all rfl) (by decide +kernel)
set_option maxRecDepth 20000 in
theorem gX11_hands_X11_oneThrow : GoodIn wsX11_hands (wsV RX11 169 RX11 yX11_oneThrow wsX11_oneThrow) := goodIn_app (goodIn_of _ (by decide +kernel)) ggX11_hands_X11_oneThrow
set_option maxRecDepth 20000 in
theorem ggX11_hands_X11_order : GoodIn wsX11_hands wsX11_order := goodIn_r _ [49] (by decide +kernel) (by decide +kernel)
set_option maxRecDepth 20000 in
theorem gX11_hands_X11_order : GoodIn wsX11_hands (va_wsS RX11 172 yX11_order wsX11_order) := goodIn_app (goodIn_of _ (by decide +kernel)) ggX11_hands_X11_order
set_option maxRecDepth 20000 in
theorem ggX11_hands_X11_fails : GoodIn wsX11_hands wsX11_fails := goodIn_r _ [45, 46, 50, 51, 52, 53, 54, 55, 56, 57, 58, 59, 60, 61, 62, 63, 64, 65, 66, 67, 68, 69, 70, 71, 72, 73, 74, 75, 76, 77, 78, 79, 80, 81, 82, 83, 84, 85, 86, 87, 88, 89, 90, 91, 92, 93, 94, 95, 96] (by decide +kernel) (by decide +kernel)
set_option maxRecDepth 20000 in
theorem gX11_hands_X11_fails : GoodIn wsX11_hands (wsV RX11 157 RX11 yX11_fails wsX11_fails) := goodIn_app (goodIn_of _ (by decide +kernel)) ggX11_hands_X11_fails
set_option maxRecDepth 100000 in
set_option maxHeartbeats 4000000 in
theorem k_hands (l : Launch) (D : va_G) (cI cR cM : ClassId) (sz : Nat) {jn mm : Nat} {q : Nat → Nat} {x0 x1 x2 x3 x4 x5 x6 x7 x8 x9 x10 x11 x12 x13 x14 x15 x16 x17 x18 x19 x20 : Int32} {f0 f1 f2 f3 f4 f5 f6 f7 f8 f9 f10 f11 f12 f13 f14 f15 f16 f17 f18 f19 f20 f21 f22 f23 f24 : Nat → Int32} {j : Int32}  (ht : 0 ≤ x2.toInt ∧ x2.toInt ≤ 300) (h5 : 0 ≤ x5.toInt ∧ x5.toInt ≤ x2.toInt) (hT : TokOK x7 x8) (hj : 1 ≤ jn ∧ jn ≤ 3) (hjj : 0 ≤ j.toInt ∧ j.toInt < (jn : Int)) (h10 : 0 ≤ x10.toInt ∧ x10.toInt ≤ 200) (hC : CellsX jn f3 0 (6 * x10.toInt + 6)) : Met l yX11_hands wsX11_hands ({ frames := 5, cells := 0, slots := 0, locals := 111 }) (P0 D cI cR cM [.ref mm, .int j] sz (mX mm q jn cI x0 x1 x2 x3 x4 x5 x6 x7 x8 x9 x10 x11 x12 x13 x14 x15 x16 x17 x18 x19 x20 f0 f1 f2 f3 f4 f5 f6 f7 f8 f9 f10 f11 f12 f13 f14 f15 f16 f17 f18 f19 f20 f21 f22 f23 f24)) (QG (S := Int32 × Int32 × Int32 × Int32 × Int32 × Int32 × Int32 × Int32 × (Nat → Int32)) (fun u => some (.int u.1)) (fun u => mX mm q jn cI x0 x1 x2 x3 x4 (u.2.1) (u.2.2.1) (u.2.2.2.1) (u.2.2.2.2.1) (u.2.2.2.2.2.1) x10 x11 x12 (u.2.2.2.2.2.2.1) (u.2.2.2.2.2.2.2.1) x15 x16 x17 x18 x19 x20 f0 f1 f2 (u.2.2.2.2.2.2.2.2) f4 f5 f6 f7 f8 f9 f10 f11 f12 f13 f14 f15 f16 f17 f18 f19 f20 f21 f22 f23 f24) (fun u => (x5.toInt ≤ u.2.1.toInt ∧ u.2.1.toInt ≤ x2.toInt) ∧ (TokOK u.2.2.2.1 u.2.2.2.2.1) ∧ (u.1.toInt = 0 → x5.toInt < u.2.1.toInt ∨ u.2.2.2.1.toInt = 0) ∧ (u.1.toInt = 0 → CellsX jn u.2.2.2.2.2.2.2.2 0 (6 * x10.toInt + 6)) ∧ (u.1.toInt = 0 → x7.toInt ≠ 0)) D (va_A (mX mm q jn cI x0 x1 x2 x3 x4 x5 x6 x7 x8 x9 x10 x11 x12 x13 x14 x15 x16 x17 x18 x19 x20 f0 f1 f2 f3 f4 f5 f6 f7 f8 f9 f10 f11 f12 f13 f14 f15 f16 f17 f18 f19 f20 f21 f22 f23 f24) sz)) 0 0 (va_A (mX mm q jn cI x0 x1 x2 x3 x4 x5 x6 x7 x8 x9 x10 x11 x12 x13 x14 x15 x16 x17 x18 x19 x20 f0 f1 f2 f3 f4 f5 f6 f7 f8 f9 f10 f11 f12 f13 f14 f15 f16 f17 f18 f19 f20 f21 f22 f23 f24) sz) := by
  refine go (cc := cX11_hands) (maxL := 5) (ret := (some .int)) (by decide) rfl (Nat.le_of_ble_eq_true rfl) ?_
  intro p e s m below meth c ls args Q hQ hsz hx hb hr hml hts hown hlocks hnm hP hK hD hl
  subst hsz
  have hD := hD.self (sz := s.heap.size)
  generalize hAe : va_A (mX mm q jn cI x0 x1 x2 x3 x4 x5 x6 x7 x8 x9 x10 x11 x12 x13 x14 x15 x16 x17 x18 x19 x20 f0 f1 f2 f3 f4 f5 f6 f7 f8 f9 f10 f11 f12 f13 f14 f15 f16 f17 f18 f19 f20 f21 f22 f23 f24) s.heap.size = A at hD hQ
  have hA : ∀ q, s.heap.size ≤ q → A q := fun q h => by rw [← hAe]; exact Or.inr h
  have hS : va_S A s.heap s.heap [] := va_S.rf
  have hl : lv_has ls 5 [(0, .ref mm), (1, .int j)] := hl
  have join1 : ∀ (t2 : Int32) (a5 : Int32) (a6 : Int32) (a7 : Int32) (a8 : Int32) (H : Heap) (locs : List Loc) (ls : Array Slot), (x5.toInt ≤ a5.toInt ∧ a5.toInt ≤ x2.toInt) → (TokOK a7 a8) → (x5.toInt < a5.toInt ∨ a7.toInt = 0 ∨ (a5.toInt = x5.toInt ∧ a7.toInt = x7.toInt)) → (x7.toInt = 91 ∨ a7.toInt = x7.toInt) → va_P D vwCl (mX mm q jn cI x0 x1 x2 x3 x4 a5 a6 a7 a8 x9 x10 x11 x12 x13 x14 x15 x16 x17 x18 x19 x20 f0 f1 f2 f3 f4 f5 f6 f7 f8 f9 f10 f11 f12 f13 f14 f15 f16 f17 f18 f19 f20 f21 f22 f23 f24) H → va_D A (mX mm q jn cI x0 x1 x2 x3 x4 a5 a6 a7 a8 x9 x10 x11 x12 x13 x14 x15 x16 x17 x18 x19 x20 f0 f1 f2 f3 f4 f5 f6 f7 f8 f9 f10 f11 f12 f13 f14 f15 f16 f17 f18 f19 f20 f21 f22 f23 f24) → va_S A s.heap H locs → lv_has ls 5 [(0, .ref mm), (1, .int j), (2, .int t2)] → W p l e ({ frames := 5, cells := 0, slots := 0, locals := 111 }) s m args below meth c H locs 0 0 Q (F0 m 23 ls []) := by
    intro t2 a5 a6 a7 a8 H locs ls hp hT hp2 hp3 hP hD hS hl
    refine lv_bipush (v := 6) hx hb dX11_hands_23 (by decide) ?_
    refine lv_aload_n hx hb dX11_hands_25 rfl (lv_at hl 0 rfl) ?_
    refine va_get (D := D) (ci := 11) (v := .int x10) (C := RX11) (T := TX11) (N := 47) hx hb hts (by decide +kernel) hown hK.1 hP 0 rfl rfl 19 (by decide) (hts (.fieldLink RX11 151 "JugglingHallModel" "top" "I") (by decide +kernel)) (fun _ h9 => h9) rfl dX11_hands_26 ?_
    refine a_imul (u := 6) (v := x10.toInt) hx hb dX11_hands_29 (by decide) (rfl) (by omega) (fun z_2 e_2 => ?_)
    refine lv_iconst (v := 2) hx hb dX11_hands_30 (by decide) ?_
    refine lv_iload_n hx hb dX11_hands_31 rfl (lv_at hl 1 rfl) ?_
    refine a_imul (u := 2) (v := j.toInt) hx hb dX11_hands_32 (by decide) (rfl) (by omega) (fun z_3 e_3 => ?_)
    refine a_iadd (u := (6 * x10.toInt)) (v := (2 * j.toInt)) hx hb dX11_hands_33 (e_2) (e_3) (by omega) (fun z_4 e_4 => ?_)
    refine lv_istore_n (lv' := [(3, .int z_4), (0, .ref mm), (1, .int j), (2, .int t2)]) hx hb dX11_hands_34 rfl hl (by decide) rfl (fun ls hl => ?_)
    refine lv_aload_n hx hb dX11_hands_35 rfl (lv_at hl 1 rfl) ?_
    refine lv_iload_n hx hb dX11_hands_36 rfl (lv_at hl 2 rfl) ?_
    refine call_g (wr := []) (va_runV (As := [.int j]) (rest := []) ⟨hx, hb, hml, hown, hts⟩ (k_oneThrow l D cI cR cM _  (by first | assumption | omega) (by first | assumption | omega) (by first | assumption | omega) (by first | assumption | omega) (by first | assumption | omega)) (cwV 1 hts gX11_hands_X11_oneThrow rfl rfl rfl (by decide +kernel) ⟨Nat.le_of_ble_eq_true rfl, Nat.le_of_ble_eq_true rfl⟩) (pre_V hK hP hD 0 11 rfl rfl) rfl rfl hl.1 rfl (lv_room (Nat.le_of_ble_eq_true rfl)) dX11_hands_37 ⟨Nat.le_of_ble_eq_true rfl, Nat.le_of_ble_eq_true rfl⟩) hP hD hS hA [0, 1, 2, 3, 4, 5, 6, 7, 8, 9, 10, 11, 12, 13, 14, 15, 16, 17, 18, 19, 20, 21, 22, 23, 24, 25] [] (by with_unfolding_all rfl) rfl (by decide) (by decide) (fun u_5 H locs hw hP hD hS => ?_)
    obtain ⟨r_5, y5_5, y6_5, y7_5, y8_5, y9_5, y13_5, y14_5⟩ := u_5
    have hP : va_P D vwCl (mX mm q jn cI x0 x1 x2 x3 x4 y5_5 y6_5 y7_5 y8_5 y9_5 x10 x11 x12 y13_5 y14_5 x15 x16 x17 x18 x19 x20 f0 f1 f2 f3 f4 f5 f6 f7 f8 f9 f10 f11 f12 f13 f14 f15 f16 f17 f18 f19 f20 f21 f22 f23 f24) H := hP
    have hD : va_D A (mX mm q jn cI x0 x1 x2 x3 x4 y5_5 y6_5 y7_5 y8_5 y9_5 x10 x11 x12 y13_5 y14_5 x15 x16 x17 x18 x19 x20 f0 f1 f2 f3 f4 f5 f6 f7 f8 f9 f10 f11 f12 f13 f14 f15 f16 f17 f18 f19 f20 f21 f22 f23 f24) := hD
    obtain ⟨ha_5, hT_5, hg_5, hc_5, h7_5⟩ : (a5.toInt ≤ y5_5.toInt ∧ y5_5.toInt ≤ x2.toInt) ∧ (TokOK y7_5 y8_5) ∧ (r_5.toInt = 0 → a5.toInt < y5_5.toInt ∨ y7_5.toInt = 0) ∧ (r_5.toInt = 0 → CellX jn y13_5) ∧ (r_5.toInt = 0 → a7.toInt = 1) := hw
    refine lv_istore (lv' := [(4, .int r_5), (3, .int z_4), (0, .ref mm), (1, .int j), (2, .int t2)]) hx hb dX11_hands_40 hl (by decide) rfl (fun ls hl => ?_)
    refine lv_iload hx hb dX11_hands_42 (lv_at hl 0 rfl) ?_
    refine a_if_eq (u := r_5.toInt) (tgt := 50) hx hb dX11_hands_44 (by decide) (rfl) (fun c_6 => ?_) (fun c_6 => ?_)
    · have hcA := hc_5 (by omega)
      refine lv_aload_n hx hb dX11_hands_50 rfl (lv_at hl 2 rfl) ?_
      refine va_get (D := D) (ci := 11) (v := .ref (q 3)) (C := RX11) (T := TX11) (N := 47) hx hb hts (by decide +kernel) hown hK.1 hP 0 rfl rfl 14 (by decide) (hts (.fieldLink RX11 27 "JugglingHallModel" "work" "[I") (by decide +kernel)) (fun _ h9 => h9) rfl dX11_hands_51 ?_
      refine lv_iload_n hx hb dX11_hands_54 rfl (lv_at hl 1 rfl) ?_
      refine lv_aload_n hx hb dX11_hands_55 rfl (lv_at hl 2 rfl) ?_
      refine va_get (D := D) (ci := 11) (v := .int y13_5) (C := RX11) (T := TX11) (N := 47) hx hb hts (by decide +kernel) hown hK.1 hP 0 rfl rfl 25 (by decide) (hts (.fieldLink RX11 166 "JugglingHallModel" "made" "I") (by decide +kernel)) (fun _ h9 => h9) rfl dX11_hands_56 ?_
      refine ma_3 (u := ((6 * x10.toInt) + (2 * j.toInt))) hx hb hK hP hD hS dX11_hands_59 (e_4) (by omega) (fun g_7 H locs eg_7 hP hD hS => ?_)
      refine lv_aload_n hx hb dX11_hands_60 rfl (lv_at hl 2 rfl) ?_
      refine va_get (D := D) (ci := 11) (v := .ref (q 3)) (C := RX11) (T := TX11) (N := 47) hx hb hts (by decide +kernel) hown hK.1 hP 0 rfl rfl 14 (by decide) (hts (.fieldLink RX11 27 "JugglingHallModel" "work" "[I") (by decide +kernel)) (fun _ h9 => h9) rfl dX11_hands_61 ?_
      refine lv_iload_n hx hb dX11_hands_64 rfl (lv_at hl 1 rfl) ?_
      refine lv_iconst (v := 1) hx hb dX11_hands_65 (by decide) ?_
      refine a_iadd (u := ((6 * x10.toInt) + (2 * j.toInt))) (v := 1) hx hb dX11_hands_66 (e_4) (by decide) (by omega) (fun z_8 e_8 => ?_)
      refine lv_iconst (v := 0) hx hb dX11_hands_67 (by decide) ?_
      refine ma_3 (u := (((6 * x10.toInt) + (2 * j.toInt)) + 1)) hx hb hK hP hD hS dX11_hands_68 (e_8) (by omega) (fun g_9 H locs eg_9 hP hD hS => ?_)
      have hX : 6 * x10.toInt + 2 * j.toInt = (6 * x10.toInt + 2 * j.toInt) := by omega
      have hB0 : g_9 (6 * x10.toInt + 2 * j.toInt).toNat = y13_5 := by rw [eg_9, un_i (by omega) (by omega) (by omega), eg_7, ← hX, pk_us]
      have hB1 : g_9 ((6 * x10.toInt + 2 * j.toInt) + 1).toNat = 0 := by rw [eg_9, ← hX, pk_us]
      have hBu : ∀ i : Int, 0 ≤ i → i ≠ (6 * x10.toInt + 2 * j.toInt) → i ≠ (6 * x10.toInt + 2 * j.toInt) + 1 → g_9 i.toNat = f3 i.toNat := fun i i0 i1 i2 => by rw [eg_9, un_i i0 (by omega) (by omega), eg_7, un_i i0 (by omega) (by omega)]
      have hz0 : (0 : Int32).toInt = 0 := by decide
      have hCB : CellsX jn g_9 0 (6 * x10.toInt + 6) := cx_set2 (k := 3 * x10.toInt + j.toInt) hC (by omega) (by omega) hBu (by rw [hB0]; exact hcA) (by rw [hB1]; exact cx_0 (by omega) hz0) (by rw [hB1]; intro _; exact hz0)
      refine lv_iload_n hx hb dX11_hands_69 rfl (lv_at hl 4 rfl) ?_
      refine a_if_ne (u := t2.toInt) (tgt := 75) hx hb dX11_hands_70 (by decide) (rfl) (fun c_10 => ?_) (fun c_10 => ?_)
      · refine lv_aload_n hx hb dX11_hands_75 rfl (lv_at hl 2 rfl) ?_
        refine lv_iload_n hx hb dX11_hands_76 rfl (lv_at hl 3 rfl) ?_
        refine call_g (wr := []) (va_runV (As := [.int j]) (rest := []) ⟨hx, hb, hml, hown, hts⟩ (k_oneThrow l D cI cR cM _  (by first | assumption | omega) (by first | assumption | omega) (by first | assumption | omega) (by first | assumption | omega) (by first | assumption | omega)) (cwV 1 hts gX11_hands_X11_oneThrow rfl rfl rfl (by decide +kernel) ⟨Nat.le_of_ble_eq_true rfl, Nat.le_of_ble_eq_true rfl⟩) (pre_V hK hP hD 0 11 rfl rfl) rfl rfl hl.1 rfl (lv_room (Nat.le_of_ble_eq_true rfl)) dX11_hands_77 ⟨Nat.le_of_ble_eq_true rfl, Nat.le_of_ble_eq_true rfl⟩) hP hD hS hA [0, 1, 2, 3, 4, 5, 6, 7, 8, 9, 10, 11, 12, 13, 14, 15, 16, 17, 18, 19, 20, 21, 22, 23, 24, 25] [] (by with_unfolding_all rfl) rfl (by decide) (by decide) (fun u_11 H locs hw hP hD hS => ?_)
        obtain ⟨r_11, y5_11, y6_11, y7_11, y8_11, y9_11, y13_11, y14_11⟩ := u_11
        have hP : va_P D vwCl (mX mm q jn cI x0 x1 x2 x3 x4 y5_11 y6_11 y7_11 y8_11 y9_11 x10 x11 x12 y13_11 y14_11 x15 x16 x17 x18 x19 x20 f0 f1 f2 g_9 f4 f5 f6 f7 f8 f9 f10 f11 f12 f13 f14 f15 f16 f17 f18 f19 f20 f21 f22 f23 f24) H := hP
        have hD : va_D A (mX mm q jn cI x0 x1 x2 x3 x4 y5_11 y6_11 y7_11 y8_11 y9_11 x10 x11 x12 y13_11 y14_11 x15 x16 x17 x18 x19 x20 f0 f1 f2 g_9 f4 f5 f6 f7 f8 f9 f10 f11 f12 f13 f14 f15 f16 f17 f18 f19 f20 f21 f22 f23 f24) := hD
        obtain ⟨ha_11, hT_11, hg_11, hc_11, h7_11⟩ : (y5_5.toInt ≤ y5_11.toInt ∧ y5_11.toInt ≤ x2.toInt) ∧ (TokOK y7_11 y8_11) ∧ (r_11.toInt = 0 → y5_5.toInt < y5_11.toInt ∨ y7_11.toInt = 0) ∧ (r_11.toInt = 0 → CellX jn y13_11) ∧ (r_11.toInt = 0 → y7_5.toInt = 1) := hw
        refine lv_istore (lv' := [(4, .int r_11), (3, .int z_4), (0, .ref mm), (1, .int j), (2, .int t2)]) hx hb dX11_hands_80 hl (by decide) rfl (fun ls hl => ?_)
        refine lv_iload hx hb dX11_hands_82 (lv_at hl 0 rfl) ?_
        refine a_if_eq (u := r_11.toInt) (tgt := 90) hx hb dX11_hands_84 (by decide) (rfl) (fun c_12 => ?_) (fun c_12 => ?_)
        · have hcB := hc_11 (by omega)
          refine lv_aload_n hx hb dX11_hands_90 rfl (lv_at hl 2 rfl) ?_
          refine va_get (D := D) (ci := 11) (v := .ref (q 3)) (C := RX11) (T := TX11) (N := 47) hx hb hts (by decide +kernel) hown hK.1 hP 0 rfl rfl 14 (by decide) (hts (.fieldLink RX11 27 "JugglingHallModel" "work" "[I") (by decide +kernel)) (fun _ h9 => h9) rfl dX11_hands_91 ?_
          refine lv_iload_n hx hb dX11_hands_94 rfl (lv_at hl 1 rfl) ?_
          refine lv_iconst (v := 1) hx hb dX11_hands_95 (by decide) ?_
          refine a_iadd (u := ((6 * x10.toInt) + (2 * j.toInt))) (v := 1) hx hb dX11_hands_96 (e_4) (by decide) (by omega) (fun z_13 e_13 => ?_)
          refine lv_aload_n hx hb dX11_hands_97 rfl (lv_at hl 2 rfl) ?_
          refine va_get (D := D) (ci := 11) (v := .int y13_11) (C := RX11) (T := TX11) (N := 47) hx hb hts (by decide +kernel) hown hK.1 hP 0 rfl rfl 25 (by decide) (hts (.fieldLink RX11 166 "JugglingHallModel" "made" "I") (by decide +kernel)) (fun _ h9 => h9) rfl dX11_hands_98 ?_
          refine ma_3 (u := (((6 * x10.toInt) + (2 * j.toInt)) + 1)) hx hb hK hP hD hS dX11_hands_101 (e_13) (by omega) (fun g_14 H locs eg_14 hP hD hS => ?_)
          have hC0 : g_14 (6 * x10.toInt + 2 * j.toInt).toNat = g_9 (6 * x10.toInt + 2 * j.toInt).toNat := by rw [eg_14, un_i (by omega) (by omega) (by omega)]
          have hC1 : g_14 ((6 * x10.toInt + 2 * j.toInt) + 1).toNat = y13_11 := by rw [eg_14, ← hX, pk_us]
          have hCu : ∀ i : Int, 0 ≤ i → i ≠ (6 * x10.toInt + 2 * j.toInt) → i ≠ (6 * x10.toInt + 2 * j.toInt) + 1 → g_14 i.toNat = f3 i.toNat := fun i i0 i1 i2 => by rw [eg_14, un_i i0 (by omega) (by omega)]; exact hBu i i0 i1 i2
          refine lv_aload_n hx hb dX11_hands_102 rfl (lv_at hl 2 rfl) ?_
          refine va_get (D := D) (ci := 11) (v := .ref (q 3)) (C := RX11) (T := TX11) (N := 47) hx hb hts (by decide +kernel) hown hK.1 hP 0 rfl rfl 14 (by decide) (hts (.fieldLink RX11 27 "JugglingHallModel" "work" "[I") (by decide +kernel)) (fun _ h9 => h9) rfl dX11_hands_103 ?_
          refine lv_iload_n hx hb dX11_hands_106 rfl (lv_at hl 1 rfl) ?_
          have hxe0 : z_4.toInt = (6 * x10.toInt + 2 * j.toInt) := by omega
          have hPc := hP.sub (ws' := [(q 3, .inl (cI, 2400, .inl g_14))]) [4] (by with_unfolding_all rfl)
          have hDc := hD.sub (ws' := [(q 3, .inl (cI, 2400, .inl g_14))]) [4] (by decide) (by with_unfolding_all rfl)
          refine call_g (wr := [(mm, .inr (11, mXF q jn x0 x1 x2 x3 x4 y5_11 y6_11 y7_11 y8_11 y9_11 x10 x11 x12 y13_11 y14_11 x15 x16 x17 x18 x19 x20)), (q 0, .inl (cI, 73200, .inl f0)), (q 1, .inl (cI, 488, .inl f1)), (q 2, .inl (cI, 300, .inl f2)), (q 4, .inl (cI, 6, .inl f4)), (q 5, .inl (cI, 6, .inl f5)), (q 6, .inl (cI, 7, .inl f6)), (q 7, .inl (cI, 144, .inl f7)), (q 8, .inl (cI, 8, .inl f8)), (q 9, .inl (cI, 1152, .inl f9)), (q 10, .inl (cI, 8, .inl f10)), (q 11, .inl (cI, 8, .inl f11)), (q 12, .inl (cI, 72, .inl f12)), (q 13, .inl (cI, 144, .inl f13)), (q 14, .inl (cI, 144, .inl f14)), (q 15, .inl (cI, 144, .inl f15)), (q 16, .inl (cI, 6, .inl f16)), (q 17, .inl (cI, 512, .inl f17)), (q 18, .inl (cI, 512, .inl f18)), (q 19, .inl (cI, 11, .inl f19)), (q 20, .inl (cI, 11, .inl f20)), (q 21, .inl (cI, 300, .inl f21)), (q 22, .inl (cI, 300, .inl f22)), (q 23, .inl (cI, 8, .inl f23)), (q 24, .inl (cI, 8, .inl f24))]) (va_runS (As := [.ref (q 3), .int z_4]) (rest := []) ⟨hx, hb, hml, hown, hts⟩ (k_order l D cI cR cM _  (by first | assumption | omega) (by rw [hxe0, hC0, hB0]; exact ⟨hcA.1, hcA.2.2.2⟩) (by rw [hxe0, hC1]; exact ⟨hcB.1, hcB.2.2.2⟩) (by decide)) (va_cwS 2 hts gX11_hands_X11_order rfl rfl rfl (by decide +kernel) ⟨Nat.le_of_ble_eq_true rfl, Nat.le_of_ble_eq_true rfl⟩) (pre_S hK hPc hDc) rfl rfl hl.1 rfl (lv_room (Nat.le_of_ble_eq_true rfl)) dX11_hands_107 ⟨Nat.le_of_ble_eq_true rfl, Nat.le_of_ble_eq_true rfl⟩) hP hD hS hA [4] [0, 1, 2, 3, 5, 6, 7, 8, 9, 10, 11, 12, 13, 14, 15, 16, 17, 18, 19, 20, 21, 22, 23, 24, 25] (by with_unfolding_all rfl) (by with_unfolding_all rfl) (by decide) (by decide) (fun g_15 H locs hw hP hD hS => ?_)
          have hP : va_P D vwCl (mX mm q jn cI x0 x1 x2 x3 x4 y5_11 y6_11 y7_11 y8_11 y9_11 x10 x11 x12 y13_11 y14_11 x15 x16 x17 x18 x19 x20 f0 f1 f2 g_15 f4 f5 f6 f7 f8 f9 f10 f11 f12 f13 f14 f15 f16 f17 f18 f19 f20 f21 f22 f23 f24) H := hP.sub [0, 1, 2, 3, 25, 4, 5, 6, 7, 8, 9, 10, 11, 12, 13, 14, 15, 16, 17, 18, 19, 20, 21, 22, 23, 24] (by with_unfolding_all rfl)
          have hD : va_D A (mX mm q jn cI x0 x1 x2 x3 x4 y5_11 y6_11 y7_11 y8_11 y9_11 x10 x11 x12 y13_11 y14_11 x15 x16 x17 x18 x19 x20 f0 f1 f2 g_15 f4 f5 f6 f7 f8 f9 f10 f11 f12 f13 f14 f15 f16 f17 f18 f19 f20 f21 f22 f23 f24) := hD.sub [0, 1, 2, 3, 25, 4, 5, 6, 7, 8, 9, 10, 11, 12, 13, 14, 15, 16, 17, 18, 19, 20, 21, 22, 23, 24] (by decide) (by with_unfolding_all rfl)
          obtain ⟨hu_15, hs_15, hz_15⟩ : (∀ i : Int, 0 ≤ i → i ≠ z_4.toInt → i ≠ z_4.toInt + 1 → g_15 i.toNat = g_14 i.toNat) ∧ ((g_15 z_4.toInt.toNat = g_14 z_4.toInt.toNat ∧ g_15 (z_4.toInt + 1).toNat = g_14 (z_4.toInt + 1).toNat) ∨ (g_15 z_4.toInt.toNat = g_14 (z_4.toInt + 1).toNat ∧ g_15 (z_4.toInt + 1).toNat = g_14 z_4.toInt.toNat)) ∧ ((g_15 z_4.toInt.toNat).toInt = 0 → (g_15 (z_4.toInt + 1).toNat).toInt = 0) := hw
          have hxe : z_4.toInt = (6 * x10.toInt + 2 * j.toInt) := by omega
          rw [hxe] at hu_15 hs_15 hz_15
          have hp1 : CellX jn (g_15 (6 * x10.toInt + 2 * j.toInt).toNat) := by
            rcases hs_15 with q | q
            · rw [q.1, hC0, hB0]; exact hcA
            · rw [q.1, hC1]; exact hcB
          have hp2 : CellX jn (g_15 ((6 * x10.toInt + 2 * j.toInt) + 1).toNat) := by
            rcases hs_15 with q | q
            · rw [q.2, hC1]; exact hcB
            · rw [q.2, hC0, hB0]; exact hcA
          have hCC : CellsX jn g_15 0 (6 * x10.toInt + 6) := cx_set2 (k := 3 * x10.toInt + j.toInt) hC (by omega) (by omega) (fun i i0 i1 i2 => by rw [hu_15 i i0 i1 i2]; exact hCu i i0 i1 i2) hp1 hp2 hz_15
          refine lv_aload_n hx hb dX11_hands_110 rfl (lv_at hl 2 rfl) ?_
          refine va_get (D := D) (ci := 11) (v := .int y7_11) (C := RX11) (T := TX11) (N := 47) hx hb hts (by decide +kernel) hown hK.1 hP 0 rfl rfl 11 (by decide) (hts (.fieldLink RX11 131 "JugglingHallModel" "token" "I") (by decide +kernel)) (fun _ h9 => h9) rfl dX11_hands_111 ?_
          refine lv_bipush (v := 93) hx hb dX11_hands_114 (by decide) ?_
          refine a_icmp_eq (u := y7_11.toInt) (v := 93) (tgt := 129) hx hb dX11_hands_116 (by decide) (rfl) (by decide) (fun c_16 => ?_) (fun c_16 => ?_)
          · refine lv_aload_n hx hb dX11_hands_129 rfl (lv_at hl 2 rfl) ?_
            refine lv_aload_n hx hb dX11_hands_130 rfl (lv_at hl 2 rfl) ?_
            refine va_get (D := D) (ci := 11) (v := .int y6_11) (C := RX11) (T := TX11) (N := 47) hx hb hts (by decide +kernel) hown hK.1 hP 0 rfl rfl 10 (by decide) (hts (.fieldLink RX11 120 "JugglingHallModel" "place" "I") (by decide +kernel)) (fun _ h9 => h9) rfl dX11_hands_131 ?_
            refine mp_14 hx hb hts (by decide +kernel) hown hK hP hD hS (hts (.fieldLink RX11 160 "JugglingHallModel" "lastPlace" "I") (by decide +kernel)) dX11_hands_134 (fun H locs hP hD hS => ?_)
            refine lv_aload_n hx hb dX11_hands_137 rfl (lv_at hl 2 rfl) ?_
            refine call_g (wr := []) (va_runV (As := []) (rest := []) ⟨hx, hb, hml, hown, hts⟩ (k_next l D cI cR cM _  (by first | assumption | omega) (by first | assumption | omega)) (cwV 0 hts gX11_hands_X11_nextToken rfl rfl rfl (by decide +kernel) ⟨Nat.le_of_ble_eq_true rfl, Nat.le_of_ble_eq_true rfl⟩) (pre_V hK hP hD 0 11 rfl rfl) rfl rfl hl.1 rfl (lv_room (Nat.le_of_ble_eq_true rfl)) dX11_hands_138 ⟨Nat.le_of_ble_eq_true rfl, Nat.le_of_ble_eq_true rfl⟩) hP hD hS hA [0, 1, 2, 3, 4, 5, 6, 7, 8, 9, 10, 11, 12, 13, 14, 15, 16, 17, 18, 19, 20, 21, 22, 23, 24, 25] [] (by with_unfolding_all rfl) rfl (by decide) (by decide) (fun u_17 H locs hw hP hD hS => ?_)
            obtain ⟨y5_17, y6_17, y7_17, y8_17⟩ := u_17
            have hP : va_P D vwCl (mX mm q jn cI x0 x1 x2 x3 x4 y5_17 y6_17 y7_17 y8_17 y9_11 x10 x11 x12 y13_11 y6_11 x15 x16 x17 x18 x19 x20 f0 f1 f2 g_15 f4 f5 f6 f7 f8 f9 f10 f11 f12 f13 f14 f15 f16 f17 f18 f19 f20 f21 f22 f23 f24) H := hP
            have hD : va_D A (mX mm q jn cI x0 x1 x2 x3 x4 y5_17 y6_17 y7_17 y8_17 y9_11 x10 x11 x12 y13_11 y6_11 x15 x16 x17 x18 x19 x20 f0 f1 f2 g_15 f4 f5 f6 f7 f8 f9 f10 f11 f12 f13 f14 f15 f16 f17 f18 f19 f20 f21 f22 f23 f24) := hD
            obtain ⟨ha_17, hp_17, hk_17, hT_17⟩ : (y5_11.toInt ≤ y5_17.toInt ∧ y5_17.toInt ≤ x2.toInt) ∧ (0 ≤ y6_17.toInt ∧ y6_17.toInt ≤ 300) ∧ (y7_17.toInt = 0 ∨ y5_11.toInt < y5_17.toInt) ∧ (TokOK y7_17 y8_17) := hw
            refine lv_iconst (v := 0) hx hb dX11_hands_141 (by decide) ?_
            have hz_18 : (0 : Int32).toInt = 0 := by decide
            exact g_iret ((0 : Int32), y5_17, y6_17, y7_17, y8_17, y9_11, y13_11, y6_11, g_15) hx hb hr hlocks hS rfl (⟨show x5.toInt ≤ y5_17.toInt ∧ y5_17.toInt ≤ x2.toInt from (by first | assumption | omega), show TokOK y7_17 y8_17 from (by first | assumption | omega), show (0 : Int32).toInt = 0 → x5.toInt < y5_17.toInt ∨ y7_17.toInt = 0 from (by first | assumption | omega), show (0 : Int32).toInt = 0 → CellsX jn g_15 0 (6 * x10.toInt + 6) from (fun _ => hCC), show (0 : Int32).toInt = 0 → x7.toInt ≠ 0 from (by first | assumption | omega)⟩) hP hD hQ (Nat.le_of_ble_eq_true rfl) (Nat.le_of_ble_eq_true rfl) dX11_hands_142
          · refine lv_aload_n hx hb dX11_hands_119 rfl (lv_at hl 2 rfl) ?_
            refine lv_iconst (v := 1) hx hb dX11_hands_120 (by decide) ?_
            refine lv_aload_n hx hb dX11_hands_121 rfl (lv_at hl 2 rfl) ?_
            refine va_get (D := D) (ci := 11) (v := .int y6_11) (C := RX11) (T := TX11) (N := 47) hx hb hts (by decide +kernel) hown hK.1 hP 0 rfl rfl 10 (by decide) (hts (.fieldLink RX11 120 "JugglingHallModel" "place" "I") (by decide +kernel)) (fun _ h9 => h9) rfl dX11_hands_122 ?_
            have hz_19 : (1 : Int32).toInt = 1 := by decide
            refine call_g (wr := []) (va_runV (As := [.int 1, .int y6_11]) (rest := []) ⟨hx, hb, hml, hown, hts⟩ (k_fails l D cI cR cM _  ) (cwV 2 hts gX11_hands_X11_fails rfl rfl rfl (by decide +kernel) ⟨Nat.le_of_ble_eq_true rfl, Nat.le_of_ble_eq_true rfl⟩) (pre_V hK hP hD 0 11 rfl rfl) rfl rfl hl.1 rfl (lv_room (Nat.le_of_ble_eq_true rfl)) dX11_hands_125 ⟨Nat.le_of_ble_eq_true rfl, Nat.le_of_ble_eq_true rfl⟩) hP hD hS hA [0, 1, 2, 3, 4, 5, 6, 7, 8, 9, 10, 11, 12, 13, 14, 15, 16, 17, 18, 19, 20, 21, 22, 23, 24, 25] [] (by with_unfolding_all rfl) rfl (by decide) (by decide) (fun u_20 H locs hw hP hD hS => ?_)
            obtain ⟨r_20, y9_20⟩ := u_20
            have hP : va_P D vwCl (mX mm q jn cI x0 x1 x2 x3 x4 y5_11 y6_11 y7_11 y8_11 y9_20 x10 x11 x12 y13_11 y14_11 x15 x16 x17 x18 x19 x20 f0 f1 f2 g_15 f4 f5 f6 f7 f8 f9 f10 f11 f12 f13 f14 f15 f16 f17 f18 f19 f20 f21 f22 f23 f24) H := hP
            have hD : va_D A (mX mm q jn cI x0 x1 x2 x3 x4 y5_11 y6_11 y7_11 y8_11 y9_20 x10 x11 x12 y13_11 y14_11 x15 x16 x17 x18 x19 x20 f0 f1 f2 g_15 f4 f5 f6 f7 f8 f9 f10 f11 f12 f13 f14 f15 f16 f17 f18 f19 f20 f21 f22 f23 f24) := hD
            have hr_20 : (r_20.toInt = (1 : Int32).toInt) := hw
            exact g_iret (r_20, y5_11, y6_11, y7_11, y8_11, y9_20, y13_11, y14_11, g_15) hx hb hr hlocks hS rfl (⟨show x5.toInt ≤ y5_11.toInt ∧ y5_11.toInt ≤ x2.toInt from (by first | assumption | omega), show TokOK y7_11 y8_11 from (by first | assumption | omega), show r_20.toInt = 0 → x5.toInt < y5_11.toInt ∨ y7_11.toInt = 0 from (by first | assumption | omega), show r_20.toInt = 0 → CellsX jn g_15 0 (6 * x10.toInt + 6) from (fun q => absurd q (by omega)), show r_20.toInt = 0 → x7.toInt ≠ 0 from (by first | assumption | omega)⟩) hP hD hQ (Nat.le_of_ble_eq_true rfl) (Nat.le_of_ble_eq_true rfl) dX11_hands_128
        · refine lv_iload hx hb dX11_hands_87 (lv_at hl 0 rfl) ?_
          exact g_iret (r_11, y5_11, y6_11, y7_11, y8_11, y9_11, y13_11, y14_11, g_9) hx hb hr hlocks hS rfl (⟨show x5.toInt ≤ y5_11.toInt ∧ y5_11.toInt ≤ x2.toInt from (by first | assumption | omega), show TokOK y7_11 y8_11 from (by first | assumption | omega), show r_11.toInt = 0 → x5.toInt < y5_11.toInt ∨ y7_11.toInt = 0 from (by first | assumption | omega), show r_11.toInt = 0 → CellsX jn g_9 0 (6 * x10.toInt + 6) from (fun q => absurd q (by omega)), show r_11.toInt = 0 → x7.toInt ≠ 0 from (by first | assumption | omega)⟩) hP hD hQ (Nat.le_of_ble_eq_true rfl) (Nat.le_of_ble_eq_true rfl) dX11_hands_89
      · refine lv_iconst (v := 0) hx hb dX11_hands_73 (by decide) ?_
        have hz_21 : (0 : Int32).toInt = 0 := by decide
        exact g_iret ((0 : Int32), y5_5, y6_5, y7_5, y8_5, y9_5, y13_5, y14_5, g_9) hx hb hr hlocks hS rfl (⟨show x5.toInt ≤ y5_5.toInt ∧ y5_5.toInt ≤ x2.toInt from (by first | assumption | omega), show TokOK y7_5 y8_5 from (by first | assumption | omega), show (0 : Int32).toInt = 0 → x5.toInt < y5_5.toInt ∨ y7_5.toInt = 0 from (by first | assumption | omega), show (0 : Int32).toInt = 0 → CellsX jn g_9 0 (6 * x10.toInt + 6) from (fun _ => hCB), show (0 : Int32).toInt = 0 → x7.toInt ≠ 0 from (by first | assumption | omega)⟩) hP hD hQ (Nat.le_of_ble_eq_true rfl) (Nat.le_of_ble_eq_true rfl) dX11_hands_74
    · refine lv_iload hx hb dX11_hands_47 (lv_at hl 0 rfl) ?_
      exact g_iret (r_5, y5_5, y6_5, y7_5, y8_5, y9_5, y13_5, y14_5, f3) hx hb hr hlocks hS rfl (⟨show x5.toInt ≤ y5_5.toInt ∧ y5_5.toInt ≤ x2.toInt from (by first | assumption | omega), show TokOK y7_5 y8_5 from (by first | assumption | omega), show r_5.toInt = 0 → x5.toInt < y5_5.toInt ∨ y7_5.toInt = 0 from (by first | assumption | omega), show r_5.toInt = 0 → CellsX jn f3 0 (6 * x10.toInt + 6) from (fun q => absurd q (by omega)), show r_5.toInt = 0 → x7.toInt ≠ 0 from (by first | assumption | omega)⟩) hP hD hQ (Nat.le_of_ble_eq_true rfl) (Nat.le_of_ble_eq_true rfl) dX11_hands_49
  refine lv_aload_n hx hb dX11_hands_0 rfl (lv_at hl 0 rfl) ?_
  refine va_get (D := D) (ci := 11) (v := .int x7) (C := RX11) (T := TX11) (N := 47) hx hb hts (by decide +kernel) hown hK.1 hP 0 rfl rfl 11 (by decide) (hts (.fieldLink RX11 131 "JugglingHallModel" "token" "I") (by decide +kernel)) (fun _ h9 => h9) rfl dX11_hands_1 ?_
  refine lv_bipush (v := 91) hx hb dX11_hands_4 (by decide) ?_
  refine a_icmp_ne (u := x7.toInt) (v := 91) (tgt := 13) hx hb dX11_hands_6 (by decide) (rfl) (by decide) (fun c_22 => ?_) (fun c_22 => ?_)
  · refine lv_iconst (v := 0) hx hb dX11_hands_13 (by decide) ?_
    refine lv_istore_n (lv' := [(2, .int 0), (0, .ref mm), (1, .int j)]) hx hb dX11_hands_14 rfl hl (by decide) rfl (fun ls hl => ?_)
    refine lv_iload_n hx hb dX11_hands_15 rfl (lv_at hl 0 rfl) ?_
    refine a_if_eq (u := 0) (tgt := 23) hx hb dX11_hands_16 (by decide) (by decide) (fun c_23 => ?_) (fun c_23 => absurd c_23 (by omega))
    have hz_24 : (0 : Int32).toInt = 0 := by decide
    exact join1 (0 : Int32) x5 x6 x7 x8 _ _ _ (by first | assumption | omega) (by first | assumption | omega) (by first | assumption | omega) (by first | assumption | omega) hP hD hS (lv_sub hl [1, 2, 0] rfl)
  · refine lv_iconst (v := 1) hx hb dX11_hands_9 (by decide) ?_
    refine lv_goto (tgt := 14) hx hb dX11_hands_10 (by decide) ?_
    refine lv_istore_n (lv' := [(2, .int 1), (0, .ref mm), (1, .int j)]) hx hb dX11_hands_14 rfl hl (by decide) rfl (fun ls hl => ?_)
    refine lv_iload_n hx hb dX11_hands_15 rfl (lv_at hl 0 rfl) ?_
    refine a_if_eq (u := 1) (tgt := 23) hx hb dX11_hands_16 (by decide) (by decide) (fun c_25 => absurd c_25 (by omega)) (fun c_25 => ?_)
    refine lv_aload_n hx hb dX11_hands_19 rfl (lv_at hl 1 rfl) ?_
    refine call_g (wr := []) (va_runV (As := []) (rest := []) ⟨hx, hb, hml, hown, hts⟩ (k_next l D cI cR cM _  (by first | assumption | omega) (by first | assumption | omega)) (cwV 0 hts gX11_hands_X11_nextToken rfl rfl rfl (by decide +kernel) ⟨Nat.le_of_ble_eq_true rfl, Nat.le_of_ble_eq_true rfl⟩) (pre_V hK hP hD 0 11 rfl rfl) rfl rfl hl.1 rfl (lv_room (Nat.le_of_ble_eq_true rfl)) dX11_hands_20 ⟨Nat.le_of_ble_eq_true rfl, Nat.le_of_ble_eq_true rfl⟩) hP hD hS hA [0, 1, 2, 3, 4, 5, 6, 7, 8, 9, 10, 11, 12, 13, 14, 15, 16, 17, 18, 19, 20, 21, 22, 23, 24, 25] [] (by with_unfolding_all rfl) rfl (by decide) (by decide) (fun u_26 H locs hw hP hD hS => ?_)
    obtain ⟨y5_26, y6_26, y7_26, y8_26⟩ := u_26
    have hP : va_P D vwCl (mX mm q jn cI x0 x1 x2 x3 x4 y5_26 y6_26 y7_26 y8_26 x9 x10 x11 x12 x13 x14 x15 x16 x17 x18 x19 x20 f0 f1 f2 f3 f4 f5 f6 f7 f8 f9 f10 f11 f12 f13 f14 f15 f16 f17 f18 f19 f20 f21 f22 f23 f24) H := hP
    have hD : va_D A (mX mm q jn cI x0 x1 x2 x3 x4 y5_26 y6_26 y7_26 y8_26 x9 x10 x11 x12 x13 x14 x15 x16 x17 x18 x19 x20 f0 f1 f2 f3 f4 f5 f6 f7 f8 f9 f10 f11 f12 f13 f14 f15 f16 f17 f18 f19 f20 f21 f22 f23 f24) := hD
    obtain ⟨ha_26, hp_26, hk_26, hT_26⟩ : (x5.toInt ≤ y5_26.toInt ∧ y5_26.toInt ≤ x2.toInt) ∧ (0 ≤ y6_26.toInt ∧ y6_26.toInt ≤ 300) ∧ (y7_26.toInt = 0 ∨ x5.toInt < y5_26.toInt) ∧ (TokOK y7_26 y8_26) := hw
    have hz_27 : (1 : Int32).toInt = 1 := by decide
    exact join1 (1 : Int32) y5_26 y6_26 y7_26 y8_26 _ _ _ (by first | assumption | omega) (by first | assumption | omega) (by first | assumption | omega) (by first | assumption | omega) hP hD hS (lv_sub hl [1, 2, 0] rfl)
