theorem dX11_landOn_0 : decode cX11_landOn 0 = .ok (.aload_n 0, 1) := by decide +kernel
theorem dX11_landOn_1 : decode cX11_landOn 1 = .ok (.getfield 8, 3) := by decide +kernel
theorem dX11_landOn_4 : decode cX11_landOn 4 = .ok (.iload_n 1, 1) := by decide +kernel
theorem dX11_landOn_5 : decode cX11_landOn 5 = .ok (.iaload, 1) := by decide +kernel
theorem dX11_landOn_6 : decode cX11_landOn 6 = .ok (.istore 4, 2) := by decide +kernel
theorem dX11_landOn_8 : decode cX11_landOn 8 = .ok (.iconst 0, 1) := by decide +kernel
theorem dX11_landOn_9 : decode cX11_landOn 9 = .ok (.istore 5, 2) := by decide +kernel
theorem dX11_landOn_11 : decode cX11_landOn 11 = .ok (.iconst 0, 1) := by decide +kernel
theorem dX11_landOn_12 : decode cX11_landOn 12 = .ok (.istore 6, 2) := by decide +kernel
theorem dX11_landOn_14 : decode cX11_landOn 14 = .ok (.iload 6, 2) := by decide +kernel
theorem dX11_landOn_16 : decode cX11_landOn 16 = .ok (.bipush 6, 2) := by decide +kernel
theorem dX11_landOn_18 : decode cX11_landOn 18 = .ok (.iload 4, 2) := by decide +kernel
theorem dX11_landOn_20 : decode cX11_landOn 20 = .ok (.imul, 1) := by decide +kernel
theorem dX11_landOn_21 : decode cX11_landOn 21 = .ok (.if_icmp .ge 120, 3) := by decide +kernel
theorem dX11_landOn_24 : decode cX11_landOn 24 = .ok (.aload_n 0, 1) := by decide +kernel
theorem dX11_landOn_25 : decode cX11_landOn 25 = .ok (.iload_n 1, 1) := by decide +kernel
theorem dX11_landOn_26 : decode cX11_landOn 26 = .ok (.iload 6, 2) := by decide +kernel
theorem dX11_landOn_28 : decode cX11_landOn 28 = .ok (.invokevirtual 258, 3) := by decide +kernel
theorem dX11_landOn_31 : decode cX11_landOn 31 = .ok (.istore 7, 2) := by decide +kernel
theorem dX11_landOn_33 : decode cX11_landOn 33 = .ok (.iload 7, 2) := by decide +kernel
theorem dX11_landOn_35 : decode cX11_landOn 35 = .ok (.ifCond .eq 100, 3) := by decide +kernel
theorem dX11_landOn_38 : decode cX11_landOn 38 = .ok (.iload 6, 2) := by decide +kernel
theorem dX11_landOn_40 : decode cX11_landOn 40 = .ok (.bipush 6, 2) := by decide +kernel
theorem dX11_landOn_42 : decode cX11_landOn 42 = .ok (.idiv, 1) := by decide +kernel
theorem dX11_landOn_43 : decode cX11_landOn 43 = .ok (.iload 7, 2) := by decide +kernel
theorem dX11_landOn_45 : decode cX11_landOn 45 = .ok (.iadd, 1) := by decide +kernel
theorem dX11_landOn_46 : decode cX11_landOn 46 = .ok (.iload 4, 2) := by decide +kernel
theorem dX11_landOn_48 : decode cX11_landOn 48 = .ok (.irem, 1) := by decide +kernel
theorem dX11_landOn_49 : decode cX11_landOn 49 = .ok (.iload_n 2, 1) := by decide +kernel
theorem dX11_landOn_50 : decode cX11_landOn 50 = .ok (.if_icmp .ne 85, 3) := by decide +kernel
theorem dX11_landOn_53 : decode cX11_landOn 53 = .ok (.aload_n 0, 1) := by decide +kernel
theorem dX11_landOn_54 : decode cX11_landOn 54 = .ok (.getfield 8, 3) := by decide +kernel
theorem dX11_landOn_57 : decode cX11_landOn 57 = .ok (.iload_n 1, 1) := by decide +kernel
theorem dX11_landOn_58 : decode cX11_landOn 58 = .ok (.iconst 1, 1) := by decide +kernel
theorem dX11_landOn_59 : decode cX11_landOn 59 = .ok (.iadd, 1) := by decide +kernel
theorem dX11_landOn_60 : decode cX11_landOn 60 = .ok (.iload 6, 2) := by decide +kernel
theorem dX11_landOn_62 : decode cX11_landOn 62 = .ok (.iadd, 1) := by decide +kernel
theorem dX11_landOn_63 : decode cX11_landOn 63 = .ok (.iaload, 1) := by decide +kernel
theorem dX11_landOn_64 : decode cX11_landOn 64 = .ok (.iconst 4, 1) := by decide +kernel
theorem dX11_landOn_65 : decode cX11_landOn 65 = .ok (.irem, 1) := by decide +kernel
theorem dX11_landOn_66 : decode cX11_landOn 66 = .ok (.iload_n 3, 1) := by decide +kernel
theorem dX11_landOn_67 : decode cX11_landOn 67 = .ok (.if_icmp .eq 6, 3) := by decide +kernel
theorem dX11_landOn_70 : decode cX11_landOn 70 = .ok (.goto 65, 3) := by decide +kernel
theorem dX11_landOn_73 : decode cX11_landOn 73 = .ok (.iload 5, 2) := by decide +kernel
theorem dX11_landOn_75 : decode cX11_landOn 75 = .ok (.istore 8, 2) := by decide +kernel
theorem dX11_landOn_77 : decode cX11_landOn 77 = .ok (.iload 8, 2) := by decide +kernel
theorem dX11_landOn_79 : decode cX11_landOn 79 = .ok (.ifCond .le 44, 3) := by decide +kernel
theorem dX11_landOn_82 : decode cX11_landOn 82 = .ok (.aload_n 0, 1) := by decide +kernel
theorem dX11_landOn_83 : decode cX11_landOn 83 = .ok (.iload_n 1, 1) := by decide +kernel
theorem dX11_landOn_84 : decode cX11_landOn 84 = .ok (.iload 6, 2) := by decide +kernel
theorem dX11_landOn_86 : decode cX11_landOn 86 = .ok (.aload_n 0, 1) := by decide +kernel
theorem dX11_landOn_87 : decode cX11_landOn 87 = .ok (.getfield 66, 3) := by decide +kernel
theorem dX11_landOn_90 : decode cX11_landOn 90 = .ok (.iload 8, 2) := by decide +kernel
theorem dX11_landOn_92 : decode cX11_landOn 92 = .ok (.iconst 1, 1) := by decide +kernel
theorem dX11_landOn_93 : decode cX11_landOn 93 = .ok (.isub, 1) := by decide +kernel
theorem dX11_landOn_94 : decode cX11_landOn 94 = .ok (.iaload, 1) := by decide +kernel
theorem dX11_landOn_95 : decode cX11_landOn 95 = .ok (.invokevirtual 261, 3) := by decide +kernel
theorem dX11_landOn_98 : decode cX11_landOn 98 = .ok (.ifCond .eq 25, 3) := by decide +kernel
theorem dX11_landOn_101 : decode cX11_landOn 101 = .ok (.aload_n 0, 1) := by decide +kernel
theorem dX11_landOn_102 : decode cX11_landOn 102 = .ok (.getfield 66, 3) := by decide +kernel
theorem dX11_landOn_105 : decode cX11_landOn 105 = .ok (.iload 8, 2) := by decide +kernel
theorem dX11_landOn_107 : decode cX11_landOn 107 = .ok (.aload_n 0, 1) := by decide +kernel
theorem dX11_landOn_108 : decode cX11_landOn 108 = .ok (.getfield 66, 3) := by decide +kernel
theorem dX11_landOn_111 : decode cX11_landOn 111 = .ok (.iload 8, 2) := by decide +kernel
theorem dX11_landOn_113 : decode cX11_landOn 113 = .ok (.iconst 1, 1) := by decide +kernel
theorem dX11_landOn_114 : decode cX11_landOn 114 = .ok (.isub, 1) := by decide +kernel
theorem dX11_landOn_115 : decode cX11_landOn 115 = .ok (.iaload, 1) := by decide +kernel
theorem dX11_landOn_116 : decode cX11_landOn 116 = .ok (.iastore, 1) := by decide +kernel
theorem dX11_landOn_117 : decode cX11_landOn 117 = .ok (.iinc 8 (-1), 3) := by decide +kernel
theorem dX11_landOn_120 : decode cX11_landOn 120 = .ok (.goto (-43), 3) := by decide +kernel
theorem dX11_landOn_123 : decode cX11_landOn 123 = .ok (.aload_n 0, 1) := by decide +kernel
theorem dX11_landOn_124 : decode cX11_landOn 124 = .ok (.getfield 66, 3) := by decide +kernel
theorem dX11_landOn_127 : decode cX11_landOn 127 = .ok (.iload 8, 2) := by decide +kernel
theorem dX11_landOn_129 : decode cX11_landOn 129 = .ok (.iload 6, 2) := by decide +kernel
theorem dX11_landOn_131 : decode cX11_landOn 131 = .ok (.iastore, 1) := by decide +kernel
theorem dX11_landOn_132 : decode cX11_landOn 132 = .ok (.iinc 5 1, 3) := by decide +kernel
theorem dX11_landOn_135 : decode cX11_landOn 135 = .ok (.iinc 6 1, 3) := by decide +kernel
theorem dX11_landOn_138 : decode cX11_landOn 138 = .ok (.goto (-124), 3) := by decide +kernel
theorem dX11_landOn_141 : decode cX11_landOn 141 = .ok (.iload 5, 2) := by decide +kernel
theorem dX11_landOn_143 : decode cX11_landOn 143 = .ok (.ireturn, 1) := by decide +kernel
theorem dX11_isCaughtAhead_0 : decode cX11_isCaughtAhead 0 = .ok (.aload_n 0, 1) := by decide +kernel
theorem dX11_isCaughtAhead_1 : decode cX11_isCaughtAhead 1 = .ok (.iload_n 1, 1) := by decide +kernel
theorem dX11_isCaughtAhead_2 : decode cX11_isCaughtAhead 2 = .ok (.iload_n 2, 1) := by decide +kernel
theorem dX11_isCaughtAhead_3 : decode cX11_isCaughtAhead 3 = .ok (.invokevirtual 258, 3) := by decide +kernel
theorem dX11_isCaughtAhead_6 : decode cX11_isCaughtAhead 6 = .ok (.istore 4, 2) := by decide +kernel
theorem dX11_isCaughtAhead_8 : decode cX11_isCaughtAhead 8 = .ok (.aload_n 0, 1) := by decide +kernel
theorem dX11_isCaughtAhead_9 : decode cX11_isCaughtAhead 9 = .ok (.iload_n 1, 1) := by decide +kernel
theorem dX11_isCaughtAhead_10 : decode cX11_isCaughtAhead 10 = .ok (.iload_n 3, 1) := by decide +kernel
theorem dX11_isCaughtAhead_11 : decode cX11_isCaughtAhead 11 = .ok (.invokevirtual 258, 3) := by decide +kernel
theorem dX11_isCaughtAhead_14 : decode cX11_isCaughtAhead 14 = .ok (.istore 5, 2) := by decide +kernel
theorem dX11_isCaughtAhead_16 : decode cX11_isCaughtAhead 16 = .ok (.iload 4, 2) := by decide +kernel
theorem dX11_isCaughtAhead_18 : decode cX11_isCaughtAhead 18 = .ok (.iload 5, 2) := by decide +kernel
theorem dX11_isCaughtAhead_20 : decode cX11_isCaughtAhead 20 = .ok (.if_icmp .eq 18, 3) := by decide +kernel
theorem dX11_isCaughtAhead_23 : decode cX11_isCaughtAhead 23 = .ok (.iload 4, 2) := by decide +kernel
theorem dX11_isCaughtAhead_25 : decode cX11_isCaughtAhead 25 = .ok (.iload 5, 2) := by decide +kernel
theorem dX11_isCaughtAhead_27 : decode cX11_isCaughtAhead 27 = .ok (.if_icmp .le 7, 3) := by decide +kernel
theorem dX11_isCaughtAhead_30 : decode cX11_isCaughtAhead 30 = .ok (.iconst 1, 1) := by decide +kernel
theorem dX11_isCaughtAhead_31 : decode cX11_isCaughtAhead 31 = .ok (.goto 23, 3) := by decide +kernel
theorem dX11_isCaughtAhead_34 : decode cX11_isCaughtAhead 34 = .ok (.iconst 0, 1) := by decide +kernel
theorem dX11_isCaughtAhead_35 : decode cX11_isCaughtAhead 35 = .ok (.goto 19, 3) := by decide +kernel
theorem dX11_isCaughtAhead_38 : decode cX11_isCaughtAhead 38 = .ok (.iload_n 2, 1) := by decide +kernel
theorem dX11_isCaughtAhead_39 : decode cX11_isCaughtAhead 39 = .ok (.bipush 6, 2) := by decide +kernel
theorem dX11_isCaughtAhead_41 : decode cX11_isCaughtAhead 41 = .ok (.irem, 1) := by decide +kernel
theorem dX11_isCaughtAhead_42 : decode cX11_isCaughtAhead 42 = .ok (.iload_n 3, 1) := by decide +kernel
theorem dX11_isCaughtAhead_43 : decode cX11_isCaughtAhead 43 = .ok (.bipush 6, 2) := by decide +kernel
theorem dX11_isCaughtAhead_45 : decode cX11_isCaughtAhead 45 = .ok (.irem, 1) := by decide +kernel
theorem dX11_isCaughtAhead_46 : decode cX11_isCaughtAhead 46 = .ok (.if_icmp .ge 7, 3) := by decide +kernel
theorem dX11_isCaughtAhead_49 : decode cX11_isCaughtAhead 49 = .ok (.iconst 1, 1) := by decide +kernel
theorem dX11_isCaughtAhead_50 : decode cX11_isCaughtAhead 50 = .ok (.goto 4, 3) := by decide +kernel
theorem dX11_isCaughtAhead_53 : decode cX11_isCaughtAhead 53 = .ok (.iconst 0, 1) := by decide +kernel
theorem dX11_isCaughtAhead_54 : decode cX11_isCaughtAhead 54 = .ok (.ireturn, 1) := by decide +kernel
set_option maxRecDepth 20000 in
theorem ggX11_landOn_X11_heightOf : GoodIn wsX11_landOn wsX11_heightOf := goodIn_r _ [7, 1, 12, 13, 14, 15, 16, 17, 18, 19, 20, 21, 22, 23, 24, 25, 26, 27, 28, 29, 30, 31, 32, 33, 34, 35, 36, 37, 38, 39, 40, 41, 42, 43, 44, 45, 46, 47, 48, 49, 50, 51, 52, 53, 54, 55, 56, 57, 58] (by decide +kernel) (by decide +kernel)
set_option maxRecDepth 20000 in
theorem gX11_landOn_X11_heightOf : GoodIn wsX11_landOn (wsV RX11 258 RX11 yX11_heightOf wsX11_heightOf) := goodIn_app (goodIn_of _ (by decide +kernel)) ggX11_landOn_X11_heightOf
set_option maxRecDepth 20000 in
theorem ggX11_landOn_X11_isCaughtAhead : GoodIn wsX11_landOn wsX11_isCaughtAhead := goodIn_r _ [11, 3, 4, 5, 6, 7, 1, 12, 13, 14, 15, 16, 17, 18, 19, 20, 21, 22, 23, 24, 25, 26, 27, 28, 29, 30, 31, 32, 33, 34, 35, 36, 37, 38, 39, 40, 41, 42, 43, 44, 45, 46, 47, 48, 49, 50, 51, 52, 53, 54, 55, 56, 57, 58] (by decide +kernel) (by decide +kernel)
set_option maxRecDepth 20000 in
theorem gX11_landOn_X11_isCaughtAhead : GoodIn wsX11_landOn (wsV RX11 261 RX11 yX11_isCaughtAhead wsX11_isCaughtAhead) := goodIn_app (goodIn_of _ (by decide +kernel)) ggX11_landOn_X11_isCaughtAhead
set_option maxRecDepth 20000 in
theorem ggX11_isCaughtAhead_X11_heightOf : GoodIn wsX11_isCaughtAhead wsX11_heightOf := goodIn_r _ [5, 6, 7, 8, 9, 10, 11, 12, 13, 14, 15, 16, 17, 18, 19, 20, 21, 22, 23, 24, 25, 26, 27, 28, 29, 30, 31, 32, 33, 34, 35, 36, 37, 38, 39, 40, 41, 42, 43, 44, 45, 46, 47, 48, 49, 50, 51, 52, 53] (by decide +kernel) (by decide +kernel)
set_option maxRecDepth 20000 in
theorem gX11_isCaughtAhead_X11_heightOf : GoodIn wsX11_isCaughtAhead (wsV RX11 258 RX11 yX11_heightOf wsX11_heightOf) := goodIn_app (goodIn_of _ (by decide +kernel)) ggX11_isCaughtAhead_X11_heightOf
theorem z32 : (0 : Int32).toInt = 0 := by decide
set_option maxRecDepth 100000 in
set_option maxHeartbeats 4000000 in
theorem k_weigh2 (l : Launch) (D : va_G) (cI cR cM : ClassId) (sz : Nat) {jn mm : Nat} {q : Nat → Nat} {x0 x1 x2 x3 x4 x5 x6 x7 x8 x9 x10 x11 x12 x13 x14 x15 x16 x17 x18 x19 x20 : Int32} {f0 f1 f2 f3 f4 f5 f6 f7 f8 f9 f10 f11 f12 f13 f14 f15 f16 f17 f18 f19 f20 f21 f22 f23 f24 : Nat → Int32} {a : Int32}  (hj : 1 ≤ jn ∧ jn ≤ 3) (hrow9 : IsRow jn f0 a.toInt) : Met l yX11_weigh wsX11_weigh ({ frames := 1, cells := 0, slots := 0, locals := 24 }) (P0 D cI cR cM [.ref mm, .int a] sz (mX mm q jn cI x0 x1 x2 x3 x4 x5 x6 x7 x8 x9 x10 x11 x12 x13 x14 x15 x16 x17 x18 x19 x20 f0 f1 f2 f3 f4 f5 f6 f7 f8 f9 f10 f11 f12 f13 f14 f15 f16 f17 f18 f19 f20 f21 f22 f23 f24)) (QG (S := Int32 × Int32 × (Nat → Int32)) (fun u => none) (fun u => mX mm q jn cI x0 x1 x2 x3 x4 x5 x6 x7 x8 x9 x10 x11 x12 x13 x14 (u.1) (u.2.1) x17 x18 x19 x20 f0 f1 f2 f3 f4 f5 f6 f7 f8 f9 f10 f11 (u.2.2) f13 f14 f15 f16 f17 f18 f19 f20 f21 f22 f23 f24) (fun u => (-1 ≤ u.1.toInt ∧ u.1.toInt ≤ 71) ∧ (u.2.1.toInt = cy_S f0 a.toInt (6 * (f0 a.toInt.toNat).toInt).toNat) ∧ (u.1.toInt < 0 → cy_G f0 a.toInt (f0 a.toInt.toNat).toInt)) D (va_A (mX mm q jn cI x0 x1 x2 x3 x4 x5 x6 x7 x8 x9 x10 x11 x12 x13 x14 x15 x16 x17 x18 x19 x20 f0 f1 f2 f3 f4 f5 f6 f7 f8 f9 f10 f11 f12 f13 f14 f15 f16 f17 f18 f19 f20 f21 f22 f23 f24) sz)) 0 0 (va_A (mX mm q jn cI x0 x1 x2 x3 x4 x5 x6 x7 x8 x9 x10 x11 x12 x13 x14 x15 x16 x17 x18 x19 x20 f0 f1 f2 f3 f4 f5 f6 f7 f8 f9 f10 f11 f12 f13 f14 f15 f16 f17 f18 f19 f20 f21 f22 f23 f24) sz) := by
  refine go (cc := cX11_weigh) (maxL := 6) (ret := none) (by decide) rfl (Nat.le_of_ble_eq_true rfl) ?_
  intro p e s m below meth c ls args Q hQ hsz hx hb hr hml hts hown hlocks hnm hP hK hD hl
  subst hsz
  have hD := hD.self (sz := s.heap.size)
  generalize hAe : va_A (mX mm q jn cI x0 x1 x2 x3 x4 x5 x6 x7 x8 x9 x10 x11 x12 x13 x14 x15 x16 x17 x18 x19 x20 f0 f1 f2 f3 f4 f5 f6 f7 f8 f9 f10 f11 f12 f13 f14 f15 f16 f17 f18 f19 f20 f21 f22 f23 f24) s.heap.size = A at hD hQ
  have hA : ∀ q, s.heap.size ≤ q → A q := fun q h => by rw [← hAe]; exact Or.inr h
  have hS : va_S A s.heap s.heap [] := va_S.rf
  have hl : lv_has ls 6 [(0, .ref mm), (1, .int a)] := hl
  have hr0 := hrow9
  obtain ⟨hr1, hr2, hr3, hr4, hr5, hr6⟩ := hrow9
  refine lv_aload_n hx hb dX11_weigh_0 rfl (lv_at hl 0 rfl) ?_
  refine va_get (D := D) (ci := 11) (v := .ref (q 0)) (C := RX11) (T := TX11) (N := 47) hx hb hts (by decide +kernel) hown hK.1 hP 0 rfl rfl 1 (by decide) (hts (.fieldLink RX11 8 "JugglingHallModel" "rows" "[I") (by decide +kernel)) (fun _ h9 => h9) rfl dX11_weigh_1 ?_
  refine lv_iload_n hx hb dX11_weigh_4 rfl (lv_at hl 1 rfl) ?_
  refine a_iald (f := f0) (u := a.toInt) hx hb hK.1 hP 1 0 rfl rfl dX11_weigh_5 (rfl) (by omega) (fun z_1 q_1 e_1 => ?_)
  have hn9 : z_1.toInt = (f0 a.toInt.toNat).toInt := e_1
  refine lv_istore_n (lv' := [(2, .int z_1), (0, .ref mm), (1, .int a)]) hx hb dX11_weigh_6 rfl hl (by decide) rfl (fun ls hl => ?_)
  refine lv_iconst (v := 0) hx hb dX11_weigh_7 (by decide) ?_
  refine lv_istore_n (lv' := [(3, .int 0), (2, .int z_1), (0, .ref mm), (1, .int a)]) hx hb dX11_weigh_8 rfl hl (by decide) rfl (fun ls hl => ?_)
  have loop9 : ∀ (ddloop9 : Nat) (k : Int32) (ga : (Nat → Int32)) (H : Heap) (locs : List Loc) (ls : Array Slot), (100 - k.toInt).toNat < ddloop9 → (0 ≤ k.toInt ∧ k.toInt ≤ 3 * (f0 a.toInt.toNat).toInt) → (∀ i9 : Int, 0 ≤ i9 → i9 < k.toInt → (ga i9.toNat).toInt = 0) → va_P D vwCl (mX mm q jn cI x0 x1 x2 x3 x4 x5 x6 x7 x8 x9 x10 x11 x12 x13 x14 x15 x16 x17 x18 x19 x20 f0 f1 f2 f3 f4 f5 f6 f7 f8 f9 f10 f11 ga f13 f14 f15 f16 f17 f18 f19 f20 f21 f22 f23 f24) H → va_D A (mX mm q jn cI x0 x1 x2 x3 x4 x5 x6 x7 x8 x9 x10 x11 x12 x13 x14 x15 x16 x17 x18 x19 x20 f0 f1 f2 f3 f4 f5 f6 f7 f8 f9 f10 f11 ga f13 f14 f15 f16 f17 f18 f19 f20 f21 f22 f23 f24) → va_S A s.heap H locs → lv_has ls 6 [(0, .ref mm), (1, .int a), (2, .int z_1), (3, .int k)] → W p l e ({ frames := 1, cells := 0, slots := 0, locals := 24 }) s m args below meth c H locs 0 0 Q (F0 m 9 ls []) := by
    intro ddloop9
    induction ddloop9 with
    | zero =>
      intro k ga H locs ls hdd
      exact absurd hdd (Nat.not_lt_zero _)
    | succ ddloop9 ih9 =>
      intro k ga H locs ls hdd hk hz0 hP hD hS hl
      refine lv_iload_n hx hb dX11_weigh_9 rfl (lv_at hl 3 rfl) ?_
      refine lv_iconst (v := 3) hx hb dX11_weigh_10 (by decide) ?_
      refine lv_iload_n hx hb dX11_weigh_11 rfl (lv_at hl 2 rfl) ?_
      refine a_imul (u := 3) (v := z_1.toInt) hx hb dX11_weigh_12 (by decide) (rfl) (by omega) (fun z_2 e_2 => ?_)
      refine a_icmp_ge (u := k.toInt) (v := (3 * z_1.toInt)) (tgt := 29) hx hb dX11_weigh_13 (by decide) (rfl) (e_2) (fun c_3 => ?_) (fun c_3 => ?_)
      · refine lv_aload_n hx hb dX11_weigh_29 rfl (lv_at hl 0 rfl) ?_
        refine lv_iconst (v := 0) hx hb dX11_weigh_30 (by decide) ?_
        refine mp_16 hx hb hts (by decide +kernel) hown hK hP hD hS (hts (.fieldLink RX11 246 "JugglingHallModel" "sum" "I") (by decide +kernel)) dX11_weigh_31 (fun H locs hP hD hS => ?_)
        refine lv_iconst (v := 0) hx hb dX11_weigh_34 (by decide) ?_
        refine lv_istore_n (lv' := [(3, .int 0), (0, .ref mm), (1, .int a), (2, .int z_1)]) hx hb dX11_weigh_35 rfl hl (by decide) rfl (fun ls hl => ?_)
        have loop36 : ∀ (ddloop36 : Nat) (i : Int32) (s6 : Int32) (gb : (Nat → Int32)) (H : Heap) (locs : List Loc) (ls : Array Slot), (30 - i.toInt).toNat < ddloop36 → (0 ≤ i.toInt ∧ i.toInt ≤ (f0 a.toInt.toNat).toInt) → (s6.toInt = cy_S f0 a.toInt (6 * i.toInt).toNat) → (∀ p9 : Int, 0 ≤ p9 → p9 < 3 * (f0 a.toInt.toNat).toInt → (gb p9.toNat).toInt = cy_L f0 a.toInt (f0 a.toInt.toNat).toInt p9 (6 * i.toInt).toNat - cy_T f0 a.toInt p9 (6 * i.toInt).toNat) → va_P D vwCl (mX mm q jn cI x0 x1 x2 x3 x4 x5 x6 x7 x8 x9 x10 x11 x12 x13 x14 x15 s6 x17 x18 x19 x20 f0 f1 f2 f3 f4 f5 f6 f7 f8 f9 f10 f11 gb f13 f14 f15 f16 f17 f18 f19 f20 f21 f22 f23 f24) H → va_D A (mX mm q jn cI x0 x1 x2 x3 x4 x5 x6 x7 x8 x9 x10 x11 x12 x13 x14 x15 s6 x17 x18 x19 x20 f0 f1 f2 f3 f4 f5 f6 f7 f8 f9 f10 f11 gb f13 f14 f15 f16 f17 f18 f19 f20 f21 f22 f23 f24) → va_S A s.heap H locs → lv_has ls 6 [(0, .ref mm), (1, .int a), (2, .int z_1), (3, .int i)] → W p l e ({ frames := 1, cells := 0, slots := 0, locals := 24 }) s m args below meth c H locs 0 0 Q (F0 m 36 ls []) := by
          intro ddloop36
          induction ddloop36 with
          | zero =>
            intro i s6 gb H locs ls hdd
            exact absurd hdd (Nat.not_lt_zero _)
          | succ ddloop36 ih36 =>
            intro i s6 gb H locs ls hdd hi hs6 hL hP hD hS hl
            refine lv_iload_n hx hb dX11_weigh_36 rfl (lv_at hl 3 rfl) ?_
            refine lv_iload_n hx hb dX11_weigh_37 rfl (lv_at hl 2 rfl) ?_
            refine a_icmp_ge (u := i.toInt) (v := z_1.toInt) (tgt := 147) hx hb dX11_weigh_38 (by decide) (rfl) (rfl) (fun c_4 => ?_) (fun c_4 => ?_)
            · have hi9 : i.toInt = (f0 a.toInt.toNat).toInt := by omega
              rw [hi9] at hL hs6
              refine lv_aload_n hx hb dX11_weigh_147 rfl (lv_at hl 0 rfl) ?_
              refine lv_iconst (v := (-1)) hx hb dX11_weigh_148 (by decide) ?_
              refine mp_15 hx hb hts (by decide +kernel) hown hK hP hD hS (hts (.fieldLink RX11 249 "JugglingHallModel" "bad" "I") (by decide +kernel)) dX11_weigh_149 (fun H locs hP hD hS => ?_)
              refine lv_iconst (v := 3) hx hb dX11_weigh_152 (by decide) ?_
              refine lv_iload_n hx hb dX11_weigh_153 rfl (lv_at hl 2 rfl) ?_
              refine a_imul (u := 3) (v := z_1.toInt) hx hb dX11_weigh_154 (by decide) (rfl) (by omega) (fun z_5 e_5 => ?_)
              refine lv_iconst (v := 1) hx hb dX11_weigh_155 (by decide) ?_
              refine a_isub (u := (3 * z_1.toInt)) (v := 1) hx hb dX11_weigh_156 (e_5) (by decide) (by omega) (fun z_6 e_6 => ?_)
              refine lv_istore_n (lv' := [(3, .int z_6), (0, .ref mm), (1, .int a), (2, .int z_1)]) hx hb dX11_weigh_157 rfl hl (by decide) rfl (fun ls hl => ?_)
              have loop158 : ∀ (ddloop158 : Nat) (k2 : Int32) (b5 : Int32) (H : Heap) (locs : List Loc) (ls : Array Slot), (k2.toInt + 2).toNat < ddloop158 → (-1 ≤ k2.toInt ∧ k2.toInt < 3 * (f0 a.toInt.toNat).toInt) → (-1 ≤ b5.toInt ∧ b5.toInt ≤ 71) → (b5.toInt < 0 → ∀ p9 : Int, k2.toInt < p9 → p9 < 3 * (f0 a.toInt.toNat).toInt → (gb p9.toNat).toInt = 0) → va_P D vwCl (mX mm q jn cI x0 x1 x2 x3 x4 x5 x6 x7 x8 x9 x10 x11 x12 x13 x14 b5 s6 x17 x18 x19 x20 f0 f1 f2 f3 f4 f5 f6 f7 f8 f9 f10 f11 gb f13 f14 f15 f16 f17 f18 f19 f20 f21 f22 f23 f24) H → va_D A (mX mm q jn cI x0 x1 x2 x3 x4 x5 x6 x7 x8 x9 x10 x11 x12 x13 x14 b5 s6 x17 x18 x19 x20 f0 f1 f2 f3 f4 f5 f6 f7 f8 f9 f10 f11 gb f13 f14 f15 f16 f17 f18 f19 f20 f21 f22 f23 f24) → va_S A s.heap H locs → lv_has ls 6 [(0, .ref mm), (1, .int a), (2, .int z_1), (3, .int k2)] → W p l e ({ frames := 1, cells := 0, slots := 0, locals := 24 }) s m args below meth c H locs 0 0 Q (F0 m 158 ls []) := by
                intro ddloop158
                induction ddloop158 with
                | zero =>
                  intro k2 b5 H locs ls hdd
                  exact absurd hdd (Nat.not_lt_zero _)
                | succ ddloop158 ih158 =>
                  intro k2 b5 H locs ls hdd hk2 hb5 hb6 hP hD hS hl
                  refine lv_iload_n hx hb dX11_weigh_158 rfl (lv_at hl 3 rfl) ?_
                  refine a_if_lt (u := k2.toInt) (tgt := 182) hx hb dX11_weigh_159 (by decide) (rfl) (fun c_7 => ?_) (fun c_7 => ?_)
                  · exact g_vret (b5, s6, gb) hx hb hr hlocks hS rfl (⟨show -1 ≤ b5.toInt ∧ b5.toInt ≤ 71 from (by first | assumption | omega), show s6.toInt = cy_S f0 a.toInt (6 * (f0 a.toInt.toNat).toInt).toNat from (hs6), show b5.toInt < 0 → cy_G f0 a.toInt (f0 a.toInt.toNat).toInt from (fun q p9 h8 h9 => by have h6 := hb6 q p9 (by omega) h9; have h7 := hL p9 h8 h9; omega)⟩) hP hD hQ (Nat.le_of_ble_eq_true rfl) (Nat.le_of_ble_eq_true rfl) dX11_weigh_182
                  · refine lv_aload_n hx hb dX11_weigh_162 rfl (lv_at hl 0 rfl) ?_
                    refine va_get (D := D) (ci := 11) (v := .ref (q 12)) (C := RX11) (T := TX11) (N := 47) hx hb hts (by decide +kernel) hown hK.1 hP 0 rfl rfl 30 (by decide) (hts (.fieldLink RX11 54 "JugglingHallModel" "lands" "[I") (by decide +kernel)) (fun _ h9 => h9) rfl dX11_weigh_163 ?_
                    refine lv_iload_n hx hb dX11_weigh_166 rfl (lv_at hl 3 rfl) ?_
                    refine a_iald (f := gb) (u := k2.toInt) hx hb hK.1 hP 13 0 rfl rfl dX11_weigh_167 (rfl) (by omega) (fun z_8 q_8 e_8 => ?_)
                    refine a_if_eq (u := z_8.toInt) (tgt := 176) hx hb dX11_weigh_168 (by decide) (rfl) (fun c_9 => ?_) (fun c_9 => ?_)
                    · obtain ⟨z_10, q_10, e_10⟩ := i_inc (a := k2.toInt) (-1) (rfl) (by decide) (by omega) (by omega)
                      refine lv_iinc (v := z_10) (lv' := [(3, .int z_10), (0, .ref mm), (1, .int a), (2, .int z_1)]) hx hb dX11_weigh_176 hl (k := 3) rfl q_10 (by decide) rfl (fun ls hl => ?_)
                      refine lv_goto (tgt := 158) hx hb dX11_weigh_179 (by decide) ?_
                      exact ih158 z_10 b5 _ _ _ (by omega) (by first | assumption | omega) (by first | assumption | omega) (fun q p9 h8 h9 => by
                        by_cases q9 : p9 = k2.toInt
                        · rw [q9]; omega
                        · exact hb6 q p9 (by omega) h9) hP hD hS (lv_sub hl [1, 2, 3, 0] rfl)
                    · refine lv_aload_n hx hb dX11_weigh_171 rfl (lv_at hl 0 rfl) ?_
                      refine lv_iload_n hx hb dX11_weigh_172 rfl (lv_at hl 3 rfl) ?_
                      refine mp_15 hx hb hts (by decide +kernel) hown hK hP hD hS (hts (.fieldLink RX11 249 "JugglingHallModel" "bad" "I") (by decide +kernel)) dX11_weigh_173 (fun H locs hP hD hS => ?_)
                      obtain ⟨z_11, q_11, e_11⟩ := i_inc (a := k2.toInt) (-1) (rfl) (by decide) (by omega) (by omega)
                      refine lv_iinc (v := z_11) (lv' := [(3, .int z_11), (0, .ref mm), (1, .int a), (2, .int z_1)]) hx hb dX11_weigh_176 hl (k := 3) rfl q_11 (by decide) rfl (fun ls hl => ?_)
                      refine lv_goto (tgt := 158) hx hb dX11_weigh_179 (by decide) ?_
                      exact ih158 z_11 k2 _ _ _ (by omega) (by first | assumption | omega) (by first | assumption | omega) (fun q => absurd q (by omega)) hP hD hS (lv_sub hl [1, 2, 3, 0] rfl)
              have hz_12 : (-1 : Int32).toInt = (-1) := by decide
              exact loop158 ((z_6.toInt + 2).toNat + 1) z_6 (-1 : Int32) _ _ _ (by omega) (by first | assumption | omega) (by first | assumption | omega) (fun _ p9 h8 h9 => absurd h8 (by omega)) hP hD hS (lv_sub hl [1, 2, 3, 0] rfl)
            · refine lv_iconst (v := 0) hx hb dX11_weigh_41 (by decide) ?_
              refine lv_istore (lv' := [(4, .int 0), (0, .ref mm), (1, .int a), (2, .int z_1), (3, .int i)]) hx hb dX11_weigh_42 hl (by decide) rfl (fun ls hl => ?_)
              have loop44 : ∀ (ddloop44 : Nat) (x : Int32) (s7 : Int32) (gc : (Nat → Int32)) (H : Heap) (locs : List Loc) (ls : Array Slot), (10 - x.toInt).toNat < ddloop44 → (0 ≤ x.toInt ∧ x.toInt ≤ 6) → (s7.toInt = cy_S f0 a.toInt (6 * i.toInt + x.toInt).toNat) → (∀ p9 : Int, 0 ≤ p9 → p9 < 3 * (f0 a.toInt.toNat).toInt → (gc p9.toNat).toInt = cy_L f0 a.toInt (f0 a.toInt.toNat).toInt p9 (6 * i.toInt + x.toInt).toNat - cy_T f0 a.toInt p9 (6 * i.toInt + x.toInt).toNat) → va_P D vwCl (mX mm q jn cI x0 x1 x2 x3 x4 x5 x6 x7 x8 x9 x10 x11 x12 x13 x14 x15 s7 x17 x18 x19 x20 f0 f1 f2 f3 f4 f5 f6 f7 f8 f9 f10 f11 gc f13 f14 f15 f16 f17 f18 f19 f20 f21 f22 f23 f24) H → va_D A (mX mm q jn cI x0 x1 x2 x3 x4 x5 x6 x7 x8 x9 x10 x11 x12 x13 x14 x15 s7 x17 x18 x19 x20 f0 f1 f2 f3 f4 f5 f6 f7 f8 f9 f10 f11 gc f13 f14 f15 f16 f17 f18 f19 f20 f21 f22 f23 f24) → va_S A s.heap H locs → lv_has ls 6 [(0, .ref mm), (1, .int a), (2, .int z_1), (3, .int i), (4, .int x)] → W p l e ({ frames := 1, cells := 0, slots := 0, locals := 24 }) s m args below meth c H locs 0 0 Q (F0 m 44 ls []) := by
                intro ddloop44
                induction ddloop44 with
                | zero =>
                  intro x s7 gc H locs ls hdd
                  exact absurd hdd (Nat.not_lt_zero _)
                | succ ddloop44 ih44 =>
                  intro x s7 gc H locs ls hdd hx9 hs7 hL2 hP hD hS hl
                  refine lv_iload hx hb dX11_weigh_44 (lv_at hl 4 rfl) ?_
                  refine lv_bipush (v := 6) hx hb dX11_weigh_46 (by decide) ?_
                  refine a_icmp_ge (u := x.toInt) (v := 6) (tgt := 141) hx hb dX11_weigh_48 (by decide) (rfl) (by decide) (fun c_13 => ?_) (fun c_13 => ?_)
                  · obtain ⟨z_14, q_14, e_14⟩ := i_inc (a := i.toInt) (1) (rfl) (by decide) (by omega) (by omega)
                    refine lv_iinc (v := z_14) (lv' := [(3, .int z_14), (0, .ref mm), (1, .int a), (2, .int z_1), (4, .int x)]) hx hb dX11_weigh_141 hl (k := 3) rfl q_14 (by decide) rfl (fun ls hl => ?_)
                    refine lv_goto (tgt := 36) hx hb dX11_weigh_144 (by decide) ?_
                    exact ih36 z_14 s7 gc _ _ _ (by omega) (by first | assumption | omega) (by rw [show (6 * z_14.toInt).toNat = (6 * i.toInt + x.toInt).toNat by omega]; exact hs7) (by rw [show (6 * z_14.toInt).toNat = (6 * i.toInt + x.toInt).toNat by omega]; exact hL2) hP hD hS (lv_sub hl [1, 2, 3, 0] rfl)
                  · refine lv_aload_n hx hb dX11_weigh_51 rfl (lv_at hl 0 rfl) ?_
                    refine lv_iload_n hx hb dX11_weigh_52 rfl (lv_at hl 1 rfl) ?_
                    refine lv_iload_n hx hb dX11_weigh_53 rfl (lv_at hl 3 rfl) ?_
                    refine lv_iload hx hb dX11_weigh_54 (lv_at hl 4 rfl) ?_
                    refine lv_iconst (v := 2) hx hb dX11_weigh_56 (by decide) ?_
                    refine a_idiv (u := x.toInt) (v := 2) hx hb dX11_weigh_57 (rfl) (by decide) (by omega) (fun z_15 e_15 => ?_)
                    refine lv_iload hx hb dX11_weigh_58 (lv_at hl 4 rfl) ?_
                    refine lv_iconst (v := 2) hx hb dX11_weigh_60 (by decide) ?_
                    refine a_irem (u := x.toInt) (v := 2) hx hb dX11_weigh_61 (rfl) (by decide) (by omega) (fun z_16 e_16 h_16 k_16 => ?_)
                    have hsb := cy_Sb hr6 (6 * i.toInt + x.toInt).toNat (by omega)
                    refine roP (va_runV (As := [.int a, .int i, .int z_15, .int z_16]) (rest := []) ⟨hx, hb, hml, hown, hts⟩ (k_heightAt2 l D cI cR cM _  (by first | assumption | omega) (hr0) (by first | assumption | omega) (by first | assumption | omega) (by first | assumption | omega)) (cwV 4 hts gX11_weigh_X11_heightAt rfl rfl rfl (by decide +kernel) ⟨Nat.le_of_ble_eq_true rfl, Nat.le_of_ble_eq_true rfl⟩) (pre_V hK hP hD 0 11 rfl rfl) rfl rfl hl.1 rfl (lv_room (Nat.le_of_ble_eq_true rfl)) dX11_weigh_62 ⟨Nat.le_of_ble_eq_true rfl, Nat.le_of_ble_eq_true rfl⟩) hS hA hP (fun r_17 H locs hw hP hS => ?_)
                    obtain ⟨h_17, hx_17⟩ : (0 ≤ r_17.toInt ∧ r_17.toInt ≤ 9) ∧ (r_17.toInt = (f0 (a.toInt + 1 + 6 * i.toInt + 2 * z_15.toInt + z_16.toInt).toNat).toInt / 4) := hw
                    have hh9 : r_17.toInt = cy_h f0 a.toInt (6 * i.toInt + x.toInt) := by
                      rw [hx_17]; unfold cy_h
                      congr 3
                      omega
                    refine lv_istore (lv' := [(5, .int r_17), (0, .ref mm), (1, .int a), (2, .int z_1), (3, .int i), (4, .int x)]) hx hb dX11_weigh_65 hl (by decide) rfl (fun ls hl => ?_)
                    refine lv_iload hx hb dX11_weigh_67 (lv_at hl 0 rfl) ?_
                    refine a_if_ne (u := r_17.toInt) (tgt := 75) hx hb dX11_weigh_69 (by decide) (rfl) (fun c_18 => ?_) (fun c_18 => ?_)
                    · refine lv_aload_n hx hb dX11_weigh_75 rfl (lv_at hl 1 rfl) ?_
                      refine lv_dup hx hb dX11_weigh_76 rfl ?_
                      refine va_get (D := D) (ci := 11) (v := .int s7) (C := RX11) (T := TX11) (N := 47) hx hb hts (by decide +kernel) hown hK.1 hP 0 rfl rfl 29 (by decide) (hts (.fieldLink RX11 246 "JugglingHallModel" "sum" "I") (by decide +kernel)) (fun _ h9 => h9) rfl dX11_weigh_77 ?_
                      refine lv_iload hx hb dX11_weigh_80 (lv_at hl 0 rfl) ?_
                      refine a_iadd (u := s7.toInt) (v := r_17.toInt) hx hb dX11_weigh_82 (rfl) (rfl) (by omega) (fun z_19 e_19 => ?_)
                      refine mp_16 hx hb hts (by decide +kernel) hown hK hP hD hS (hts (.fieldLink RX11 246 "JugglingHallModel" "sum" "I") (by decide +kernel)) dX11_weigh_83 (fun H locs hP hD hS => ?_)
                      refine lv_aload_n hx hb dX11_weigh_86 rfl (lv_at hl 1 rfl) ?_
                      refine va_get (D := D) (ci := 11) (v := .ref (q 12)) (C := RX11) (T := TX11) (N := 47) hx hb hts (by decide +kernel) hown hK.1 hP 0 rfl rfl 30 (by decide) (hts (.fieldLink RX11 54 "JugglingHallModel" "lands" "[I") (by decide +kernel)) (fun _ h9 => h9) rfl dX11_weigh_87 ?_
                      refine lv_iconst (v := 3) hx hb dX11_weigh_90 (by decide) ?_
                      refine lv_iload_n hx hb dX11_weigh_91 rfl (lv_at hl 4 rfl) ?_
                      refine a_imul (u := 3) (v := i.toInt) hx hb dX11_weigh_92 (by decide) (rfl) (by omega) (fun z_20 e_20 => ?_)
                      refine lv_iload hx hb dX11_weigh_93 (lv_at hl 5 rfl) ?_
                      refine lv_iconst (v := 2) hx hb dX11_weigh_95 (by decide) ?_
                      refine a_idiv (u := x.toInt) (v := 2) hx hb dX11_weigh_96 (rfl) (by decide) (by omega) (fun z_21 e_21 => ?_)
                      refine a_iadd (u := (3 * i.toInt)) (v := (x.toInt / 2)) hx hb dX11_weigh_97 (e_20) (e_21) (by omega) (fun z_22 e_22 => ?_)
                      refine lv_dup2_11 hx hb dX11_weigh_98 rfl rfl ?_
                      refine a_iald (f := gc) (u := ((3 * i.toInt) + (x.toInt / 2))) hx hb hK.1 hP 13 0 rfl rfl dX11_weigh_99 (e_22) (by omega) (fun z_23 q_23 e_23 => ?_)
                      have hLa := hL2 (((3 * i.toInt) + (x.toInt / 2))) (by omega) (by omega)
                      have hLb := cy_Lb f0 a.toInt (f0 a.toInt.toNat).toInt (((3 * i.toInt) + (x.toInt / 2))) (6 * i.toInt + x.toInt).toNat
                      have hLc := cy_Tb f0 a.toInt (((3 * i.toInt) + (x.toInt / 2))) (6 * i.toInt + x.toInt).toNat
                      refine lv_iconst (v := 1) hx hb dX11_weigh_100 (by decide) ?_
                      refine a_isub (u := z_23.toInt) (v := 1) hx hb dX11_weigh_101 (rfl) (by decide) (by omega) (fun z_24 e_24 => ?_)
                      refine ma_12 (u := ((3 * i.toInt) + (x.toInt / 2))) hx hb hK hP hD hS dX11_weigh_102 (e_22) (by omega) (fun g_25 H locs eg_25 hP hD hS => ?_)
                      refine lv_aload_n hx hb dX11_weigh_103 rfl (lv_at hl 1 rfl) ?_
                      refine va_get (D := D) (ci := 11) (v := .ref (q 12)) (C := RX11) (T := TX11) (N := 47) hx hb hts (by decide +kernel) hown hK.1 hP 0 rfl rfl 30 (by decide) (hts (.fieldLink RX11 54 "JugglingHallModel" "lands" "[I") (by decide +kernel)) (fun _ h9 => h9) rfl dX11_weigh_104 ?_
                      refine lv_iconst (v := 3) hx hb dX11_weigh_107 (by decide) ?_
                      refine lv_iload_n hx hb dX11_weigh_108 rfl (lv_at hl 4 rfl) ?_
                      refine lv_iload hx hb dX11_weigh_109 (lv_at hl 0 rfl) ?_
                      refine a_iadd (u := i.toInt) (v := r_17.toInt) hx hb dX11_weigh_111 (rfl) (rfl) (by omega) (fun z_26 e_26 => ?_)
                      refine lv_iload_n hx hb dX11_weigh_112 rfl (lv_at hl 3 rfl) ?_
                      refine a_irem (u := (i.toInt + r_17.toInt)) (v := z_1.toInt) hx hb dX11_weigh_113 (e_26) (rfl) (by omega) (fun z_27 e_27 h_27 k_27 => ?_)
                      refine a_imul (u := 3) (v := z_27.toInt) hx hb dX11_weigh_114 (by decide) (rfl) (by omega) (fun z_28 e_28 => ?_)
                      refine lv_aload_n hx hb dX11_weigh_115 rfl (lv_at hl 1 rfl) ?_
                      refine lv_iload_n hx hb dX11_weigh_116 rfl (lv_at hl 2 rfl) ?_
                      refine lv_iload_n hx hb dX11_weigh_117 rfl (lv_at hl 4 rfl) ?_
                      refine lv_iload hx hb dX11_weigh_118 (lv_at hl 5 rfl) ?_
                      refine lv_iconst (v := 2) hx hb dX11_weigh_120 (by decide) ?_
                      refine a_idiv (u := x.toInt) (v := 2) hx hb dX11_weigh_121 (rfl) (by decide) (by omega) (fun z_29 e_29 => ?_)
                      refine lv_iload hx hb dX11_weigh_122 (lv_at hl 5 rfl) ?_
                      refine lv_iconst (v := 2) hx hb dX11_weigh_124 (by decide) ?_
                      refine a_irem (u := x.toInt) (v := 2) hx hb dX11_weigh_125 (rfl) (by decide) (by omega) (fun z_30 e_30 h_30 k_30 => ?_)
                      refine roP (va_runV (As := [.int a, .int i, .int z_29, .int z_30]) (rest := [.int z_28, .ref (q 12)]) ⟨hx, hb, hml, hown, hts⟩ (k_toAt2 l D cI cR cM _  (by first | assumption | omega) (hr0) (by first | assumption | omega) (by first | assumption | omega) (by first | assumption | omega)) (cwV 4 hts gX11_weigh_X11_toAt rfl rfl rfl (by decide +kernel) ⟨Nat.le_of_ble_eq_true rfl, Nat.le_of_ble_eq_true rfl⟩) (pre_V hK hP hD 0 11 rfl rfl) rfl rfl hl.1 rfl (lv_room (Nat.le_of_ble_eq_true rfl)) dX11_weigh_126 ⟨Nat.le_of_ble_eq_true rfl, Nat.le_of_ble_eq_true rfl⟩) hS hA hP (fun r_31 H locs hw hP hS => ?_)
                      obtain ⟨h_31, hx_31⟩ : (0 ≤ r_31.toInt ∧ r_31.toInt < (jn : Int)) ∧ (r_31.toInt = (f0 (a.toInt + 1 + 6 * i.toInt + 2 * z_29.toInt + z_30.toInt).toNat).toInt % 4) := hw
                      have ht9 : r_31.toInt = (f0 (a.toInt + 1 + (6 * i.toInt + x.toInt)).toNat).toInt % 4 := by
                        rw [hx_31]
                        congr 3
                        omega
                      refine a_iadd (u := (3 * z_27.toInt)) (v := r_31.toInt) hx hb dX11_weigh_129 (e_28) (rfl) (by omega) (fun z_32 e_32 => ?_)
                      have hbi : cy_b f0 a.toInt (f0 a.toInt.toNat).toInt (6 * i.toInt + x.toInt) = ((3 * z_27.toInt) + r_31.toInt) := by
                        unfold cy_b
                        rw [← hh9, ← ht9, show (6 * i.toInt + x.toInt) / 6 = i.toInt by omega, ← hn9]
                        omega
                      have hbx := cy_bb hj.2 hr3 hr6 (t := 6 * i.toInt + x.toInt) (by omega) (by omega)
                      refine lv_dup2_11 hx hb dX11_weigh_130 rfl rfl ?_
                      refine a_iald (f := g_25) (u := ((3 * z_27.toInt) + r_31.toInt)) hx hb hK.1 hP 13 0 rfl rfl dX11_weigh_131 (e_32) (by omega) (fun z_33 q_33 e_33 => ?_)
                      have hLd : -400 ≤ (g_25 (((3 * z_27.toInt) + r_31.toInt)).toNat).toInt ∧ (g_25 (((3 * z_27.toInt) + r_31.toInt)).toNat).toInt ≤ 400 := by
                        by_cases q : ((3 * z_27.toInt) + r_31.toInt) = ((3 * i.toInt) + (x.toInt / 2))
                        · rw [eg_25, q, pk_us]; omega
                        · rw [eg_25, un_i (by omega) (by omega) q]
                          have h6 := hL2 (((3 * z_27.toInt) + r_31.toInt)) (by omega) (by omega)
                          have h7 := cy_Lb f0 a.toInt (f0 a.toInt.toNat).toInt (((3 * z_27.toInt) + r_31.toInt)) (6 * i.toInt + x.toInt).toNat
                          have h8 := cy_Tb f0 a.toInt (((3 * z_27.toInt) + r_31.toInt)) (6 * i.toInt + x.toInt).toNat
                          omega
                      refine lv_iconst (v := 1) hx hb dX11_weigh_132 (by decide) ?_
                      refine a_iadd (u := z_33.toInt) (v := 1) hx hb dX11_weigh_133 (rfl) (by decide) (by omega) (fun z_34 e_34 => ?_)
                      refine ma_12 (u := ((3 * z_27.toInt) + r_31.toInt)) hx hb hK hP hD hS dX11_weigh_134 (e_32) (by omega) (fun g_35 H locs eg_35 hP hD hS => ?_)
                      obtain ⟨z_36, q_36, e_36⟩ := i_inc (a := x.toInt) (1) (rfl) (by decide) (by omega) (by omega)
                      refine lv_iinc (v := z_36) (lv' := [(4, .int z_36), (5, .int r_17), (0, .ref mm), (1, .int a), (2, .int z_1), (3, .int i)]) hx hb dX11_weigh_135 hl (k := 5) rfl q_36 (by decide) rfl (fun ls hl => ?_)
                      refine lv_goto (tgt := 44) hx hb dX11_weigh_138 (by decide) ?_
                      exact ih44 z_36 z_19 g_35 _ _ _ (by omega) (by first | assumption | omega) (by rw [show (6 * i.toInt + z_36.toInt).toNat = (6 * i.toInt + x.toInt + 1).toNat by omega, cy_Ss (by omega)]; omega) (by rw [show (6 * i.toInt + z_36.toInt).toNat = (6 * i.toInt + x.toInt + 1).toNat by omega]; exact cy_ws hL2 (by omega) (by omega) (show (6 * i.toInt + x.toInt) / 2 = ((3 * i.toInt) + (x.toInt / 2)) by omega) hbi (by omega) (by omega) eg_25 (by omega) eg_35 (by omega)) hP hD hS (lv_sub hl [2, 3, 4, 5, 0] rfl)
                    · refine lv_goto (tgt := 135) hx hb dX11_weigh_72 (by decide) ?_
                      obtain ⟨z_37, q_37, e_37⟩ := i_inc (a := x.toInt) (1) (rfl) (by decide) (by omega) (by omega)
                      refine lv_iinc (v := z_37) (lv' := [(4, .int z_37), (5, .int r_17), (0, .ref mm), (1, .int a), (2, .int z_1), (3, .int i)]) hx hb dX11_weigh_135 hl (k := 5) rfl q_37 (by decide) rfl (fun ls hl => ?_)
                      refine lv_goto (tgt := 44) hx hb dX11_weigh_138 (by decide) ?_
                      exact ih44 z_37 s7 gc _ _ _ (by omega) (by first | assumption | omega) (by rw [show (6 * i.toInt + z_37.toInt).toNat = (6 * i.toInt + x.toInt + 1).toNat by omega, cy_Ss (by omega)]; omega) (by rw [show (6 * i.toInt + z_37.toInt).toNat = (6 * i.toInt + x.toInt + 1).toNat by omega]; exact cy_w0 hL2 (by omega) (by omega)) hP hD hS (lv_sub hl [2, 3, 4, 5, 0] rfl)
              have hz_38 : (0 : Int32).toInt = 0 := by decide
              exact loop44 ((10 - (0 : Int32).toInt).toNat + 1) (0 : Int32) s6 gb _ _ _ (by omega) (by first | assumption | omega) (by rw [z32, Int.add_zero]; exact hs6) (by rw [z32, Int.add_zero]; exact hL) hP hD hS (lv_sub hl [1, 2, 3, 4, 0] rfl)
        have hz_39 : (0 : Int32).toInt = 0 := by decide
        have hz_40 : (0 : Int32).toInt = 0 := by decide
        exact loop36 ((30 - (0 : Int32).toInt).toNat + 1) (0 : Int32) (0 : Int32) ga _ _ _ (by omega) (by first | assumption | omega) (by rw [show (6 * (0 : Int32).toInt).toNat = 0 by decide]; exact z32) (fun p9 h8 h9 => by
          rw [show (6 * (0 : Int32).toInt).toNat = 0 by decide, hz0 p9 h8 (by omega)]; rfl) hP hD hS (lv_sub hl [1, 2, 3, 0] rfl)
      · refine lv_aload_n hx hb dX11_weigh_16 rfl (lv_at hl 0 rfl) ?_
        refine va_get (D := D) (ci := 11) (v := .ref (q 12)) (C := RX11) (T := TX11) (N := 47) hx hb hts (by decide +kernel) hown hK.1 hP 0 rfl rfl 30 (by decide) (hts (.fieldLink RX11 54 "JugglingHallModel" "lands" "[I") (by decide +kernel)) (fun _ h9 => h9) rfl dX11_weigh_17 ?_
        refine lv_iload_n hx hb dX11_weigh_20 rfl (lv_at hl 3 rfl) ?_
        refine lv_iconst (v := 0) hx hb dX11_weigh_21 (by decide) ?_
        refine ma_12 (u := k.toInt) hx hb hK hP hD hS dX11_weigh_22 (rfl) (by omega) (fun g_41 H locs eg_41 hP hD hS => ?_)
        obtain ⟨z_42, q_42, e_42⟩ := i_inc (a := k.toInt) (1) (rfl) (by decide) (by omega) (by omega)
        refine lv_iinc (v := z_42) (lv' := [(3, .int z_42), (0, .ref mm), (1, .int a), (2, .int z_1)]) hx hb dX11_weigh_23 hl (k := 3) rfl q_42 (by decide) rfl (fun ls hl => ?_)
        refine lv_goto (tgt := 9) hx hb dX11_weigh_26 (by decide) ?_
        exact ih9 z_42 g_41 _ _ _ (by omega) (by first | assumption | omega) (fun i9 h8 h9 => by
          by_cases q : i9 = k.toInt
          · rw [eg_41, q, pk_us]; decide
          · rw [eg_41, un_i (by omega) (by omega) (by omega)]; exact hz0 i9 h8 (by omega)) hP hD hS (lv_sub hl [1, 2, 3, 0] rfl)
  have hz_43 : (0 : Int32).toInt = 0 := by decide
  exact loop9 ((100 - (0 : Int32).toInt).toNat + 1) (0 : Int32) f12 _ _ _ (by omega) (by first | assumption | omega) (fun i9 h8 h9 => absurd h9 (by omega)) hP hD hS (lv_sub hl [2, 3, 1, 0] rfl)
set_option maxRecDepth 100000 in
set_option maxHeartbeats 4000000 in
theorem k_isGood2 (l : Launch) (D : va_G) (cI cR cM : ClassId) (sz : Nat) {jn mm : Nat} {q : Nat → Nat} {x0 x1 x2 x3 x4 x5 x6 x7 x8 x9 x10 x11 x12 x13 x14 x15 x16 x17 x18 x19 x20 : Int32} {f0 f1 f2 f3 f4 f5 f6 f7 f8 f9 f10 f11 f12 f13 f14 f15 f16 f17 f18 f19 f20 f21 f22 f23 f24 : Nat → Int32} {a : Int32}  (hj : 1 ≤ jn ∧ jn ≤ 3) (hr0 : a.toInt = -1 ∨ IsRow jn f0 a.toInt) : Met l yX11_isGood wsX11_isGood ({ frames := 2, cells := 0, slots := 0, locals := 49 }) (P0 D cI cR cM [.ref mm, .int a] sz (mX mm q jn cI x0 x1 x2 x3 x4 x5 x6 x7 x8 x9 x10 x11 x12 x13 x14 x15 x16 x17 x18 x19 x20 f0 f1 f2 f3 f4 f5 f6 f7 f8 f9 f10 f11 f12 f13 f14 f15 f16 f17 f18 f19 f20 f21 f22 f23 f24)) (QG (S := Int32 × Int32 × Int32 × (Nat → Int32)) (fun u => some (.int u.1)) (fun u => mX mm q jn cI x0 x1 x2 x3 x4 x5 x6 x7 x8 x9 x10 x11 x12 x13 x14 (u.2.1) (u.2.2.1) x17 x18 x19 x20 f0 f1 f2 f3 f4 f5 f6 f7 f8 f9 f10 f11 (u.2.2.2) f13 f14 f15 f16 f17 f18 f19 f20 f21 f22 f23 f24) (fun u => (u.1.toInt = 0 ∨ u.1.toInt = 1) ∧ (u.1.toInt = 1 → 0 ≤ a.toInt) ∧ (u.1.toInt = 1 → u.2.2.1.toInt = cy_S f0 a.toInt (6 * (f0 a.toInt.toNat).toInt).toNat) ∧ (u.1.toInt = 1 → cy_G f0 a.toInt (f0 a.toInt.toNat).toInt)) D (va_A (mX mm q jn cI x0 x1 x2 x3 x4 x5 x6 x7 x8 x9 x10 x11 x12 x13 x14 x15 x16 x17 x18 x19 x20 f0 f1 f2 f3 f4 f5 f6 f7 f8 f9 f10 f11 f12 f13 f14 f15 f16 f17 f18 f19 f20 f21 f22 f23 f24) sz)) 0 0 (va_A (mX mm q jn cI x0 x1 x2 x3 x4 x5 x6 x7 x8 x9 x10 x11 x12 x13 x14 x15 x16 x17 x18 x19 x20 f0 f1 f2 f3 f4 f5 f6 f7 f8 f9 f10 f11 f12 f13 f14 f15 f16 f17 f18 f19 f20 f21 f22 f23 f24) sz) := by
  refine go (cc := cX11_isGood) (maxL := 2) (ret := (some .boolean)) (by decide) rfl (Nat.le_of_ble_eq_true rfl) ?_
  intro p e s m below meth c ls args Q hQ hsz hx hb hr hml hts hown hlocks hnm hP hK hD hl
  subst hsz
  have hD := hD.self (sz := s.heap.size)
  generalize hAe : va_A (mX mm q jn cI x0 x1 x2 x3 x4 x5 x6 x7 x8 x9 x10 x11 x12 x13 x14 x15 x16 x17 x18 x19 x20 f0 f1 f2 f3 f4 f5 f6 f7 f8 f9 f10 f11 f12 f13 f14 f15 f16 f17 f18 f19 f20 f21 f22 f23 f24) s.heap.size = A at hD hQ
  have hA : ∀ q, s.heap.size ≤ q → A q := fun q h => by rw [← hAe]; exact Or.inr h
  have hS : va_S A s.heap s.heap [] := va_S.rf
  have hl : lv_has ls 2 [(0, .ref mm), (1, .int a)] := hl
  refine lv_iload_n hx hb dX11_isGood_0 rfl (lv_at hl 1 rfl) ?_
  refine a_if_ge (u := a.toInt) (tgt := 6) hx hb dX11_isGood_1 (by decide) (rfl) (fun c_1 => ?_) (fun c_1 => ?_)
  · refine lv_aload_n hx hb dX11_isGood_6 rfl (lv_at hl 0 rfl) ?_
    refine lv_iload_n hx hb dX11_isGood_7 rfl (lv_at hl 1 rfl) ?_
    refine call_g (wr := []) (va_runV (As := [.int a]) (rest := []) ⟨hx, hb, hml, hown, hts⟩ (k_weigh2 l D cI cR cM _  (by first | assumption | omega) (hr0.resolve_left (by omega))) (cwV 1 hts gX11_isGood_X11_weigh rfl rfl rfl (by decide +kernel) ⟨Nat.le_of_ble_eq_true rfl, Nat.le_of_ble_eq_true rfl⟩) (pre_V hK hP hD 0 11 rfl rfl) rfl rfl hl.1 rfl (lv_room (Nat.le_of_ble_eq_true rfl)) dX11_isGood_8 ⟨Nat.le_of_ble_eq_true rfl, Nat.le_of_ble_eq_true rfl⟩) hP hD hS hA [0, 1, 2, 3, 4, 5, 6, 7, 8, 9, 10, 11, 12, 13, 14, 15, 16, 17, 18, 19, 20, 21, 22, 23, 24, 25] [] (by with_unfolding_all rfl) rfl (by decide) (by decide) (fun u_2 H locs hw hP hD hS => ?_)
    obtain ⟨y15_2, y16_2, g12_2⟩ := u_2
    have hP : va_P D vwCl (mX mm q jn cI x0 x1 x2 x3 x4 x5 x6 x7 x8 x9 x10 x11 x12 x13 x14 y15_2 y16_2 x17 x18 x19 x20 f0 f1 f2 f3 f4 f5 f6 f7 f8 f9 f10 f11 g12_2 f13 f14 f15 f16 f17 f18 f19 f20 f21 f22 f23 f24) H := hP
    have hD : va_D A (mX mm q jn cI x0 x1 x2 x3 x4 x5 x6 x7 x8 x9 x10 x11 x12 x13 x14 y15_2 y16_2 x17 x18 x19 x20 f0 f1 f2 f3 f4 f5 f6 f7 f8 f9 f10 f11 g12_2 f13 f14 f15 f16 f17 f18 f19 f20 f21 f22 f23 f24) := hD
    obtain ⟨hb_2, hs_2, hg_2⟩ : (-1 ≤ y15_2.toInt ∧ y15_2.toInt ≤ 71) ∧ (y16_2.toInt = cy_S f0 a.toInt (6 * (f0 a.toInt.toNat).toInt).toNat) ∧ (y15_2.toInt < 0 → cy_G f0 a.toInt (f0 a.toInt.toNat).toInt) := hw
    refine lv_aload_n hx hb dX11_isGood_11 rfl (lv_at hl 0 rfl) ?_
    refine va_get (D := D) (ci := 11) (v := .int y15_2) (C := RX11) (T := TX11) (N := 47) hx hb hts (by decide +kernel) hown hK.1 hP 0 rfl rfl 28 (by decide) (hts (.fieldLink RX11 249 "JugglingHallModel" "bad" "I") (by decide +kernel)) (fun _ h9 => h9) rfl dX11_isGood_12 ?_
    refine a_if_ge (u := y15_2.toInt) (tgt := 22) hx hb dX11_isGood_15 (by decide) (rfl) (fun c_3 => ?_) (fun c_3 => ?_)
    · refine lv_iconst (v := 0) hx hb dX11_isGood_22 (by decide) ?_
      have hz_4 : (0 : Int32).toInt = 0 := by decide
      exact g_zret ((0 : Int32), y15_2, y16_2, g12_2) hx hb hr hlocks hS (by first | exact Or.inl rfl | exact Or.inr rfl) rfl (⟨show (0 : Int32).toInt = 0 ∨ (0 : Int32).toInt = 1 from (by first | assumption | omega), show (0 : Int32).toInt = 1 → 0 ≤ a.toInt from (by first | assumption | omega), show (0 : Int32).toInt = 1 → y16_2.toInt = cy_S f0 a.toInt (6 * (f0 a.toInt.toNat).toInt).toNat from (by first | assumption | omega), show (0 : Int32).toInt = 1 → cy_G f0 a.toInt (f0 a.toInt.toNat).toInt from (fun q => absurd q (by decide))⟩) hP hD hQ (Nat.le_of_ble_eq_true rfl) (Nat.le_of_ble_eq_true rfl) dX11_isGood_23
    · refine lv_iconst (v := 1) hx hb dX11_isGood_18 (by decide) ?_
      refine lv_goto (tgt := 23) hx hb dX11_isGood_19 (by decide) ?_
      have hz_5 : (1 : Int32).toInt = 1 := by decide
      exact g_zret ((1 : Int32), y15_2, y16_2, g12_2) hx hb hr hlocks hS (by first | exact Or.inl rfl | exact Or.inr rfl) rfl (⟨show (1 : Int32).toInt = 0 ∨ (1 : Int32).toInt = 1 from (by first | assumption | omega), show (1 : Int32).toInt = 1 → 0 ≤ a.toInt from (by first | assumption | omega), show (1 : Int32).toInt = 1 → y16_2.toInt = cy_S f0 a.toInt (6 * (f0 a.toInt.toNat).toInt).toNat from (by first | assumption | omega), show (1 : Int32).toInt = 1 → cy_G f0 a.toInt (f0 a.toInt.toNat).toInt from (fun _ => hg_2 (by omega))⟩) hP hD hQ (Nat.le_of_ble_eq_true rfl) (Nat.le_of_ble_eq_true rfl) dX11_isGood_23
  · refine lv_iconst (v := 0) hx hb dX11_isGood_4 (by decide) ?_
    have hz_6 : (0 : Int32).toInt = 0 := by decide
    exact g_zret ((0 : Int32), x15, x16, f12) hx hb hr hlocks hS (by first | exact Or.inl rfl | exact Or.inr rfl) rfl (⟨show (0 : Int32).toInt = 0 ∨ (0 : Int32).toInt = 1 from (by first | assumption | omega), show (0 : Int32).toInt = 1 → 0 ≤ a.toInt from (by first | assumption | omega), show (0 : Int32).toInt = 1 → x16.toInt = cy_S f0 a.toInt (6 * (f0 a.toInt.toNat).toInt).toNat from (by first | assumption | omega), show (0 : Int32).toInt = 1 → cy_G f0 a.toInt (f0 a.toInt.toNat).toInt from (fun q => absurd q (by decide))⟩) hP hD hQ (Nat.le_of_ble_eq_true rfl) (Nat.le_of_ble_eq_true rfl) dX11_isGood_5
set_option maxRecDepth 100000 in
set_option maxHeartbeats 4000000 in
theorem k_latest3 (l : Launch) (D : va_G) (cI cR cM : ClassId) (sz : Nat) {jn mm : Nat} {q : Nat → Nat} {x0 x1 x2 x3 x4 x5 x6 x7 x8 x9 x10 x11 x12 x13 x14 x15 x16 x17 x18 x19 x20 : Int32} {f0 f1 f2 f3 f4 f5 f6 f7 f8 f9 f10 f11 f12 f13 f14 f15 f16 f17 f18 f19 f20 f21 f22 f23 f24 : Nat → Int32} {k t : Int32}  (h1 : 0 ≤ t.toInt ∧ t.toInt ≤ 60) (h2 : 0 ≤ k.toInt ∧ k.toInt < 8) (hR : RowsX jn f0) (hRZ : RowsZ jn f0) : Met l yX11_latest wsX11_latest ({ frames := 1, cells := 0, slots := 0, locals := 21 }) (P0 D cI cR cM [.ref mm, .int k, .int t] sz (mX mm q jn cI x0 x1 x2 x3 x4 x5 x6 x7 x8 x9 x10 x11 x12 x13 x14 x15 x16 x17 x18 x19 x20 f0 f1 f2 f3 f4 f5 f6 f7 f8 f9 f10 f11 f12 f13 f14 f15 f16 f17 f18 f19 f20 f21 f22 f23 f24)) (QP (fun r => (r.toInt = -1 ∨ (IsRow jn f0 r.toInt ∧ ZX jn f0 (r.toInt + 1) (f0 r.toInt.toNat).toInt)) ∧ (r.toInt ≤ 150 * (8 * t.toInt + 7))) sz) 0 0 (va_A [] sz) := by
  refine go (cc := cX11_latest) (maxL := 4) (ret := (some .int)) (by decide) rfl (Nat.le_of_ble_eq_true rfl) ?_
  intro p e s m below meth c ls args Q hQ hsz hx hb hr hml hts hown hlocks hnm hP hK hD hl
  subst hsz
  have hS : va_S (va_A [] s.heap.size) s.heap s.heap [] := va_S.rf
  have hA : ∀ q, s.heap.size ≤ q → va_A [] s.heap.size q := fun q h => Or.inr h
  have hl : lv_has ls 4 [(0, .ref mm), (1, .int k), (2, .int t)] := hl
  refine lv_iload_n hx hb dX11_latest_0 rfl (lv_at hl 2 rfl) ?_
  refine lv_istore_n (lv' := [(3, .int t), (0, .ref mm), (1, .int k), (2, .int t)]) hx hb dX11_latest_1 rfl hl (by decide) rfl (fun ls hl => ?_)
  have loop2 : ∀ (ddloop2 : Nat) (i : Int32) (H : Heap) (locs : List Loc) (ls : Array Slot), (i.toInt).toNat < ddloop2 → (0 ≤ i.toInt ∧ i.toInt ≤ t.toInt) → va_P D vwCl (mX mm q jn cI x0 x1 x2 x3 x4 x5 x6 x7 x8 x9 x10 x11 x12 x13 x14 x15 x16 x17 x18 x19 x20 f0 f1 f2 f3 f4 f5 f6 f7 f8 f9 f10 f11 f12 f13 f14 f15 f16 f17 f18 f19 f20 f21 f22 f23 f24) H → va_S (va_A [] s.heap.size) s.heap H locs → lv_has ls 4 [(0, .ref mm), (1, .int k), (2, .int t), (3, .int i)] → W p l e ({ frames := 1, cells := 0, slots := 0, locals := 21 }) s m args below meth c H locs 0 0 Q (F0 m 2 ls []) := by
    intro ddloop2
    induction ddloop2 with
    | zero =>
      intro i H locs ls hdd
      exact absurd hdd (Nat.not_lt_zero _)
    | succ ddloop2 ih2 =>
      intro i H locs ls hdd hi hP hS hl
      refine lv_iload_n hx hb dX11_latest_2 rfl (lv_at hl 3 rfl) ?_
      refine a_if_le (u := i.toInt) (tgt := 31) hx hb dX11_latest_3 (by decide) (rfl) (fun c_1 => ?_) (fun c_1 => ?_)
      · refine lv_iconst (v := (-1)) hx hb dX11_latest_31 (by decide) ?_
        have hz_2 : (-1 : Int32).toInt = (-1) := by decide
        exact rp_iret hx hb hr hlocks hS (⟨show (-1 : Int32).toInt = -1 ∨ (IsRow jn f0 (-1 : Int32).toInt ∧ ZX jn f0 ((-1 : Int32).toInt + 1) (f0 (-1 : Int32).toInt.toNat).toInt) from (Or.inl (by omega)), show (-1 : Int32).toInt ≤ 150 * (8 * t.toInt + 7) from (by first | assumption | omega)⟩) hQ dX11_latest_32
      · refine lv_aload_n hx hb dX11_latest_6 rfl (lv_at hl 0 rfl) ?_
        refine va_get (D := D) (ci := 11) (v := .ref (q 0)) (C := RX11) (T := TX11) (N := 47) hx hb hts (by decide +kernel) hown hK.1 hP 0 rfl rfl 1 (by decide) (hts (.fieldLink RX11 8 "JugglingHallModel" "rows" "[I") (by decide +kernel)) (fun _ h9 => h9) rfl dX11_latest_7 ?_
        refine lv_iload_n hx hb dX11_latest_10 rfl (lv_at hl 3 rfl) ?_
        refine lv_iload_n hx hb dX11_latest_11 rfl (lv_at hl 1 rfl) ?_
        refine roP (va_runS (As := [.int i, .int k]) (rest := [.ref (q 0)]) ⟨hx, hb, hml, hown, hts⟩ (k_rowAt l D cI cR cM _  (by first | assumption | omega) (by first | assumption | omega)) (va_cwS 2 hts gX11_latest_X11_rowAt rfl rfl rfl (by decide +kernel) ⟨Nat.le_of_ble_eq_true rfl, Nat.le_of_ble_eq_true rfl⟩) (pre_S hK va_P_nil (va_D_nil (A := fun _ => True))) rfl rfl hl.1 rfl (lv_room (Nat.le_of_ble_eq_true rfl)) dX11_latest_12 ⟨Nat.le_of_ble_eq_true rfl, Nat.le_of_ble_eq_true rfl⟩) hS hA hP (fun r_3 H locs hw hP hS => ?_)
        have h_3 : (r_3.toInt = 150 * (8 * i.toInt + k.toInt)) := hw
        refine a_iald (f := f0) (u := r_3.toInt) hx hb hK.1 hP 1 0 rfl rfl dX11_latest_15 (rfl) (by omega) (fun z_4 q_4 e_4 => ?_)
        refine a_if_le (u := z_4.toInt) (tgt := 25) hx hb dX11_latest_16 (by decide) (rfl) (fun c_5 => ?_) (fun c_5 => ?_)
        · obtain ⟨z_6, q_6, e_6⟩ := i_inc (a := i.toInt) (-1) (rfl) (by decide) (by omega) (by omega)
          refine lv_iinc (v := z_6) (lv' := [(3, .int z_6), (0, .ref mm), (1, .int k), (2, .int t)]) hx hb dX11_latest_25 hl (k := 3) rfl q_6 (by decide) rfl (fun ls hl => ?_)
          refine lv_goto (tgt := 2) hx hb dX11_latest_28 (by decide) ?_
          exact ih2 z_6 _ _ _ (by omega) (by first | assumption | omega) hP hS (lv_sub hl [1, 2, 3, 0] rfl)
        · refine lv_iload_n hx hb dX11_latest_19 rfl (lv_at hl 3 rfl) ?_
          refine lv_iload_n hx hb dX11_latest_20 rfl (lv_at hl 1 rfl) ?_
          refine roP (va_runS (As := [.int i, .int k]) (rest := []) ⟨hx, hb, hml, hown, hts⟩ (k_rowAt l D cI cR cM _  (by first | assumption | omega) (by first | assumption | omega)) (va_cwS 2 hts gX11_latest_X11_rowAt rfl rfl rfl (by decide +kernel) ⟨Nat.le_of_ble_eq_true rfl, Nat.le_of_ble_eq_true rfl⟩) (pre_S hK va_P_nil (va_D_nil (A := fun _ => True))) rfl rfl hl.1 rfl (lv_room (Nat.le_of_ble_eq_true rfl)) dX11_latest_21 ⟨Nat.le_of_ble_eq_true rfl, Nat.le_of_ble_eq_true rfl⟩) hS hA hP (fun r_7 H locs hw hP hS => ?_)
          have h_7 : (r_7.toInt = 150 * (8 * i.toInt + k.toInt)) := hw
          exact rp_iret hx hb hr hlocks hS (⟨show r_7.toInt = -1 ∨ (IsRow jn f0 r_7.toInt ∧ ZX jn f0 (r_7.toInt + 1) (f0 r_7.toInt.toNat).toInt) from (Or.inr (by have hq2 := hR i.toInt k.toInt (by omega) (by omega) (by omega) (by omega); have hqz := hRZ i.toInt k.toInt (by omega) (by omega) (by omega) (by omega); have hq3 : 150 * (8 * i.toInt + k.toInt) = r_7.toInt := (by omega); have hq4 : r_3.toInt = r_7.toInt := (by omega); rw [hq3] at hq2 hqz; rw [hq4] at e_4; exact ⟨⟨by omega, by omega, by omega, hq2⟩, hqz⟩)), show r_7.toInt ≤ 150 * (8 * t.toInt + 7) from (by first | assumption | omega)⟩) hQ dX11_latest_24
  exact loop2 ((t.toInt).toNat + 1) t _ _ _ (by omega) (by first | assumption | omega) hP hS (lv_sub hl [1, 2, 3, 0] rfl)
set_option maxRecDepth 100000 in
set_option maxHeartbeats 4000000 in
theorem k_rowOf2 (l : Launch) (D : va_G) (cI cR cM : ClassId) (sz : Nat) {jn mm : Nat} {q : Nat → Nat} {x0 x1 x2 x3 x4 x5 x6 x7 x8 x9 x10 x11 x12 x13 x14 x15 x16 x17 x18 x19 x20 : Int32} {f0 f1 f2 f3 f4 f5 f6 f7 f8 f9 f10 f11 f12 f13 f14 f15 f16 f17 f18 f19 f20 f21 f22 f23 f24 : Nat → Int32} {k : Int32}  (h1 : 0 ≤ x1.toInt ∧ x1.toInt ≤ 60) (hR : RowsX jn f0) (hRZ : RowsZ jn f0) : Met l yX11_rowOf wsX11_rowOf ({ frames := 2, cells := 0, slots := 0, locals := 44 }) (P0 D cI cR cM [.ref mm, .int k] sz (mX mm q jn cI x0 x1 x2 x3 x4 x5 x6 x7 x8 x9 x10 x11 x12 x13 x14 x15 x16 x17 x18 x19 x20 f0 f1 f2 f3 f4 f5 f6 f7 f8 f9 f10 f11 f12 f13 f14 f15 f16 f17 f18 f19 f20 f21 f22 f23 f24)) (QP (fun r => (r.toInt = -1 ∨ (IsRow jn f0 r.toInt ∧ ZX jn f0 (r.toInt + 1) (f0 r.toInt.toNat).toInt)) ∧ (r.toInt ≤ 150 * (8 * x1.toInt + 7))) sz) 0 0 (va_A [] sz) := by
  refine go (cc := cX11_rowOf) (maxL := 2) (ret := (some .int)) (by decide) rfl (Nat.le_of_ble_eq_true rfl) ?_
  intro p e s m below meth c ls args Q hQ hsz hx hb hr hml hts hown hlocks hnm hP hK hD hl
  subst hsz
  have hS : va_S (va_A [] s.heap.size) s.heap s.heap [] := va_S.rf
  have hA : ∀ q, s.heap.size ≤ q → va_A [] s.heap.size q := fun q h => Or.inr h
  have hl : lv_has ls 2 [(0, .ref mm), (1, .int k)] := hl
  refine lv_iload_n hx hb dX11_rowOf_0 rfl (lv_at hl 1 rfl) ?_
  refine lv_iconst (v := 0) hx hb dX11_rowOf_1 (by decide) ?_
  refine lv_bipush (v := 7) hx hb dX11_rowOf_2 (by decide) ?_
  have hz_1 : (0 : Int32).toInt = 0 := by decide
  have hz_2 : (7 : Int32).toInt = 7 := by decide
  refine roP (va_runS (As := [.int k, .int 0, .int 7]) (rest := []) ⟨hx, hb, hml, hown, hts⟩ (k_isIn l D cI cR cM _  ) (va_cwS 3 hts gX11_rowOf_X11_isIn rfl rfl rfl (by decide +kernel) ⟨Nat.le_of_ble_eq_true rfl, Nat.le_of_ble_eq_true rfl⟩) (pre_S hK va_P_nil (va_D_nil (A := fun _ => True))) rfl rfl hl.1 rfl (lv_room (Nat.le_of_ble_eq_true rfl)) dX11_rowOf_4 ⟨Nat.le_of_ble_eq_true rfl, Nat.le_of_ble_eq_true rfl⟩) hS hA hP (fun r_3 H locs hw hP hS => ?_)
  have h_3 : ((r_3.toInt = 1 ∧ (0 : Int32).toInt ≤ k.toInt ∧ k.toInt ≤ (7 : Int32).toInt) ∨ (r_3.toInt = 0 ∧ (k.toInt < (0 : Int32).toInt ∨ (7 : Int32).toInt < k.toInt))) := hw
  refine a_if_eq (u := r_3.toInt) (tgt := 22) hx hb dX11_rowOf_7 (by decide) (rfl) (fun c_4 => ?_) (fun c_4 => ?_)
  · refine lv_iconst (v := (-1)) hx hb dX11_rowOf_22 (by decide) ?_
    have hz_5 : (-1 : Int32).toInt = (-1) := by decide
    exact rp_iret hx hb hr hlocks hS (⟨show (-1 : Int32).toInt = -1 ∨ (IsRow jn f0 (-1 : Int32).toInt ∧ ZX jn f0 ((-1 : Int32).toInt + 1) (f0 (-1 : Int32).toInt.toNat).toInt) from (Or.inl (by omega)), show (-1 : Int32).toInt ≤ 150 * (8 * x1.toInt + 7) from (by first | assumption | omega)⟩) hQ dX11_rowOf_23
  · refine lv_aload_n hx hb dX11_rowOf_10 rfl (lv_at hl 0 rfl) ?_
    refine lv_iload_n hx hb dX11_rowOf_11 rfl (lv_at hl 1 rfl) ?_
    refine lv_aload_n hx hb dX11_rowOf_12 rfl (lv_at hl 0 rfl) ?_
    refine va_get (D := D) (ci := 11) (v := .int x1) (C := RX11) (T := TX11) (N := 47) hx hb hts (by decide +kernel) hown hK.1 hP 0 rfl rfl 4 (by decide) (hts (.fieldLink RX11 104 "JugglingHallModel" "looked" "I") (by decide +kernel)) (fun _ h9 => h9) rfl dX11_rowOf_13 ?_
    refine roP (va_runV (As := [.int k, .int x1]) (rest := []) ⟨hx, hb, hml, hown, hts⟩ (k_latest3 l D cI cR cM _  (by first | assumption | omega) (by first | assumption | omega) (by first | assumption | omega) (by first | assumption | omega)) (cwV 2 hts gX11_rowOf_X11_latest rfl rfl rfl (by decide +kernel) ⟨Nat.le_of_ble_eq_true rfl, Nat.le_of_ble_eq_true rfl⟩) (pre_V hK hP hD 0 11 rfl rfl) rfl rfl hl.1 rfl (lv_room (Nat.le_of_ble_eq_true rfl)) dX11_rowOf_16 ⟨Nat.le_of_ble_eq_true rfl, Nat.le_of_ble_eq_true rfl⟩) hS hA hP (fun r_6 H locs hw hP hS => ?_)
    obtain ⟨h_6, hle_6⟩ : (r_6.toInt = -1 ∨ (IsRow jn f0 r_6.toInt ∧ ZX jn f0 (r_6.toInt + 1) (f0 r_6.toInt.toNat).toInt)) ∧ (r_6.toInt ≤ 150 * (8 * x1.toInt + 7)) := hw
    refine lv_goto (tgt := 23) hx hb dX11_rowOf_19 (by decide) ?_
    exact rp_iret hx hb hr hlocks hS (⟨show r_6.toInt = -1 ∨ (IsRow jn f0 r_6.toInt ∧ ZX jn f0 (r_6.toInt + 1) (f0 r_6.toInt.toNat).toInt) from (h_6), show r_6.toInt ≤ 150 * (8 * x1.toInt + 7) from (by first | assumption | omega)⟩) hQ dX11_rowOf_23
set_option maxRecDepth 100000 in
set_option maxHeartbeats 4000000 in
theorem k_heightOf2 (l : Launch) (D : va_G) (cI cR cM : ClassId) (sz : Nat) {jn mm : Nat} {q : Nat → Nat} {x0 x1 x2 x3 x4 x5 x6 x7 x8 x9 x10 x11 x12 x13 x14 x15 x16 x17 x18 x19 x20 : Int32} {f0 f1 f2 f3 f4 f5 f6 f7 f8 f9 f10 f11 f12 f13 f14 f15 f16 f17 f18 f19 f20 f21 f22 f23 f24 : Nat → Int32} {a t : Int32}  (hj : 1 ≤ jn ∧ jn ≤ 3) (hrow9 : IsRow jn f0 a.toInt) (ht0 : 0 ≤ t.toInt ∧ t.toInt < 6 * (f0 a.toInt.toNat).toInt) : Met l yX11_heightOf wsX11_heightOf ({ frames := 0, cells := 0, slots := 0, locals := 0 }) (P0 D cI cR cM [.ref mm, .int a, .int t] sz (mX mm q jn cI x0 x1 x2 x3 x4 x5 x6 x7 x8 x9 x10 x11 x12 x13 x14 x15 x16 x17 x18 x19 x20 f0 f1 f2 f3 f4 f5 f6 f7 f8 f9 f10 f11 f12 f13 f14 f15 f16 f17 f18 f19 f20 f21 f22 f23 f24)) (QP (fun r => (r.toInt = cy_h f0 a.toInt t.toInt) ∧ (0 ≤ r.toInt ∧ r.toInt ≤ 9)) sz) 0 0 (va_A [] sz) := by
  refine go (cc := cX11_heightOf) (maxL := 3) (ret := (some .int)) (by decide) rfl (Nat.le_of_ble_eq_true rfl) ?_
  intro p e s m below meth c ls args Q hQ hsz hx hb hr hml hts hown hlocks hnm hP hK hD hl
  subst hsz
  have hS : va_S (va_A [] s.heap.size) s.heap s.heap [] := va_S.rf
  have hA : ∀ q, s.heap.size ≤ q → va_A [] s.heap.size q := fun q h => Or.inr h
  have hl : lv_has ls 3 [(0, .ref mm), (1, .int a), (2, .int t)] := hl
  have hr0 := hrow9
  obtain ⟨hr1, hr2, hr3, hr4, hr5, hr6⟩ := hrow9
  refine lv_aload_n hx hb dX11_heightOf_0 rfl (lv_at hl 0 rfl) ?_
  refine va_get (D := D) (ci := 11) (v := .ref (q 0)) (C := RX11) (T := TX11) (N := 47) hx hb hts (by decide +kernel) hown hK.1 hP 0 rfl rfl 1 (by decide) (hts (.fieldLink RX11 8 "JugglingHallModel" "rows" "[I") (by decide +kernel)) (fun _ h9 => h9) rfl dX11_heightOf_1 ?_
  refine lv_iload_n hx hb dX11_heightOf_4 rfl (lv_at hl 1 rfl) ?_
  refine lv_iconst (v := 1) hx hb dX11_heightOf_5 (by decide) ?_
  refine a_iadd (u := a.toInt) (v := 1) hx hb dX11_heightOf_6 (rfl) (by decide) (by omega) (fun z_1 e_1 => ?_)
  refine lv_iload_n hx hb dX11_heightOf_7 rfl (lv_at hl 2 rfl) ?_
  refine a_iadd (u := (a.toInt + 1)) (v := t.toInt) hx hb dX11_heightOf_8 (e_1) (rfl) (by omega) (fun z_2 e_2 => ?_)
  refine a_iald (f := f0) (u := ((a.toInt + 1) + t.toInt)) hx hb hK.1 hP 1 0 rfl rfl dX11_heightOf_9 (e_2) (by omega) (fun z_3 q_3 e_3 => ?_)
  obtain ⟨hc1, hc2, hc3, hc4⟩ := cy_c hr6 (t := t.toInt) (by omega) (by omega)
  have hcz : z_3.toInt = (f0 (a.toInt + 1 + t.toInt).toNat).toInt := by rw [q_3, show ((a.toInt + 1) + t.toInt) = a.toInt + 1 + t.toInt by omega]
  refine lv_iconst (v := 4) hx hb dX11_heightOf_10 (by decide) ?_
  refine a_idiv (u := z_3.toInt) (v := 4) hx hb dX11_heightOf_11 (rfl) (by decide) (by omega) (fun z_4 e_4 => ?_)
  exact rp_iret hx hb hr hlocks hS (⟨show z_4.toInt = cy_h f0 a.toInt t.toInt from (by show _ = (f0 (a.toInt + 1 + t.toInt).toNat).toInt / 4; omega), show 0 ≤ z_4.toInt ∧ z_4.toInt ≤ 9 from (by first | assumption | omega)⟩) hQ dX11_heightOf_12
set_option maxRecDepth 100000 in
set_option maxHeartbeats 4000000 in
theorem k_isCaughtAhead (l : Launch) (D : va_G) (cI cR cM : ClassId) (sz : Nat) {jn mm : Nat} {q : Nat → Nat} {x0 x1 x2 x3 x4 x5 x6 x7 x8 x9 x10 x11 x12 x13 x14 x15 x16 x17 x18 x19 x20 : Int32} {f0 f1 f2 f3 f4 f5 f6 f7 f8 f9 f10 f11 f12 f13 f14 f15 f16 f17 f18 f19 f20 f21 f22 f23 f24 : Nat → Int32} {a t u9 : Int32}  (hj : 1 ≤ jn ∧ jn ≤ 3) (hrow9 : IsRow jn f0 a.toInt) (ht0 : 0 ≤ t.toInt ∧ t.toInt < 6 * (f0 a.toInt.toNat).toInt) (hu0 : 0 ≤ u9.toInt ∧ u9.toInt < 6 * (f0 a.toInt.toNat).toInt) : Met l yX11_isCaughtAhead wsX11_isCaughtAhead ({ frames := 1, cells := 0, slots := 0, locals := 22 }) (P0 D cI cR cM [.ref mm, .int a, .int t, .int u9] sz (mX mm q jn cI x0 x1 x2 x3 x4 x5 x6 x7 x8 x9 x10 x11 x12 x13 x14 x15 x16 x17 x18 x19 x20 f0 f1 f2 f3 f4 f5 f6 f7 f8 f9 f10 f11 f12 f13 f14 f15 f16 f17 f18 f19 f20 f21 f22 f23 f24)) (QP (fun r => (r.toInt = 0 ∨ r.toInt = 1)) sz) 0 0 (va_A [] sz) := by
  refine go (cc := cX11_isCaughtAhead) (maxL := 6) (ret := (some .boolean)) (by decide) rfl (Nat.le_of_ble_eq_true rfl) ?_
  intro p e s m below meth c ls args Q hQ hsz hx hb hr hml hts hown hlocks hnm hP hK hD hl
  subst hsz
  have hS : va_S (va_A [] s.heap.size) s.heap s.heap [] := va_S.rf
  have hA : ∀ q, s.heap.size ≤ q → va_A [] s.heap.size q := fun q h => Or.inr h
  have hl : lv_has ls 6 [(0, .ref mm), (1, .int a), (2, .int t), (3, .int u9)] := hl
  refine lv_aload_n hx hb dX11_isCaughtAhead_0 rfl (lv_at hl 0 rfl) ?_
  refine lv_iload_n hx hb dX11_isCaughtAhead_1 rfl (lv_at hl 1 rfl) ?_
  refine lv_iload_n hx hb dX11_isCaughtAhead_2 rfl (lv_at hl 2 rfl) ?_
  refine roP (va_runV (As := [.int a, .int t]) (rest := []) ⟨hx, hb, hml, hown, hts⟩ (k_heightOf2 l D cI cR cM _  (by first | assumption | omega) (by first | assumption | omega) (by first | assumption | omega)) (cwV 2 hts gX11_isCaughtAhead_X11_heightOf rfl rfl rfl (by decide +kernel) ⟨Nat.le_of_ble_eq_true rfl, Nat.le_of_ble_eq_true rfl⟩) (pre_V hK hP hD 0 11 rfl rfl) rfl rfl hl.1 rfl (lv_room (Nat.le_of_ble_eq_true rfl)) dX11_isCaughtAhead_3 ⟨Nat.le_of_ble_eq_true rfl, Nat.le_of_ble_eq_true rfl⟩) hS hA hP (fun r_1 H locs hw hP hS => ?_)
  obtain ⟨h_1, hb_1⟩ : (r_1.toInt = cy_h f0 a.toInt t.toInt) ∧ (0 ≤ r_1.toInt ∧ r_1.toInt ≤ 9) := hw
  refine lv_istore (lv' := [(4, .int r_1), (0, .ref mm), (1, .int a), (2, .int t), (3, .int u9)]) hx hb dX11_isCaughtAhead_6 hl (by decide) rfl (fun ls hl => ?_)
  refine lv_aload_n hx hb dX11_isCaughtAhead_8 rfl (lv_at hl 1 rfl) ?_
  refine lv_iload_n hx hb dX11_isCaughtAhead_9 rfl (lv_at hl 2 rfl) ?_
  refine lv_iload_n hx hb dX11_isCaughtAhead_10 rfl (lv_at hl 4 rfl) ?_
  refine roP (va_runV (As := [.int a, .int u9]) (rest := []) ⟨hx, hb, hml, hown, hts⟩ (k_heightOf2 l D cI cR cM _  (by first | assumption | omega) (by first | assumption | omega) (by first | assumption | omega)) (cwV 2 hts gX11_isCaughtAhead_X11_heightOf rfl rfl rfl (by decide +kernel) ⟨Nat.le_of_ble_eq_true rfl, Nat.le_of_ble_eq_true rfl⟩) (pre_V hK hP hD 0 11 rfl rfl) rfl rfl hl.1 rfl (lv_room (Nat.le_of_ble_eq_true rfl)) dX11_isCaughtAhead_11 ⟨Nat.le_of_ble_eq_true rfl, Nat.le_of_ble_eq_true rfl⟩) hS hA hP (fun r_2 H locs hw hP hS => ?_)
  obtain ⟨h_2, hb_2⟩ : (r_2.toInt = cy_h f0 a.toInt u9.toInt) ∧ (0 ≤ r_2.toInt ∧ r_2.toInt ≤ 9) := hw
  refine lv_istore (lv' := [(5, .int r_2), (4, .int r_1), (0, .ref mm), (1, .int a), (2, .int t), (3, .int u9)]) hx hb dX11_isCaughtAhead_14 hl (by decide) rfl (fun ls hl => ?_)
  refine lv_iload hx hb dX11_isCaughtAhead_16 (lv_at hl 1 rfl) ?_
  refine lv_iload hx hb dX11_isCaughtAhead_18 (lv_at hl 0 rfl) ?_
  refine a_icmp_eq (u := r_1.toInt) (v := r_2.toInt) (tgt := 38) hx hb dX11_isCaughtAhead_20 (by decide) (rfl) (rfl) (fun c_3 => ?_) (fun c_3 => ?_)
  · refine lv_iload_n hx hb dX11_isCaughtAhead_38 rfl (lv_at hl 4 rfl) ?_
    refine lv_bipush (v := 6) hx hb dX11_isCaughtAhead_39 (by decide) ?_
    refine a_irem (u := t.toInt) (v := 6) hx hb dX11_isCaughtAhead_41 (rfl) (by decide) (by omega) (fun z_4 e_4 h_4 k_4 => ?_)
    refine lv_iload_n hx hb dX11_isCaughtAhead_42 rfl (lv_at hl 5 rfl) ?_
    refine lv_bipush (v := 6) hx hb dX11_isCaughtAhead_43 (by decide) ?_
    refine a_irem (u := u9.toInt) (v := 6) hx hb dX11_isCaughtAhead_45 (rfl) (by decide) (by omega) (fun z_5 e_5 h_5 k_5 => ?_)
    refine a_icmp_ge (u := z_4.toInt) (v := z_5.toInt) (tgt := 53) hx hb dX11_isCaughtAhead_46 (by decide) (rfl) (rfl) (fun c_6 => ?_) (fun c_6 => ?_)
    · refine lv_iconst (v := 0) hx hb dX11_isCaughtAhead_53 (by decide) ?_
      have hz_7 : (0 : Int32).toInt = 0 := by decide
      exact rp_zret hx hb hr hlocks hS (by first | exact Or.inl rfl | exact Or.inr rfl) (show (0 : Int32).toInt = 0 ∨ (0 : Int32).toInt = 1 from (by first | assumption | omega)) hQ dX11_isCaughtAhead_54
    · refine lv_iconst (v := 1) hx hb dX11_isCaughtAhead_49 (by decide) ?_
      refine lv_goto (tgt := 54) hx hb dX11_isCaughtAhead_50 (by decide) ?_
      have hz_8 : (1 : Int32).toInt = 1 := by decide
      exact rp_zret hx hb hr hlocks hS (by first | exact Or.inl rfl | exact Or.inr rfl) (show (1 : Int32).toInt = 0 ∨ (1 : Int32).toInt = 1 from (by first | assumption | omega)) hQ dX11_isCaughtAhead_54
  · refine lv_iload hx hb dX11_isCaughtAhead_23 (lv_at hl 1 rfl) ?_
    refine lv_iload hx hb dX11_isCaughtAhead_25 (lv_at hl 0 rfl) ?_
    refine a_icmp_le (u := r_1.toInt) (v := r_2.toInt) (tgt := 34) hx hb dX11_isCaughtAhead_27 (by decide) (rfl) (rfl) (fun c_9 => ?_) (fun c_9 => ?_)
    · refine lv_iconst (v := 0) hx hb dX11_isCaughtAhead_34 (by decide) ?_
      refine lv_goto (tgt := 54) hx hb dX11_isCaughtAhead_35 (by decide) ?_
      have hz_10 : (0 : Int32).toInt = 0 := by decide
      exact rp_zret hx hb hr hlocks hS (by first | exact Or.inl rfl | exact Or.inr rfl) (show (0 : Int32).toInt = 0 ∨ (0 : Int32).toInt = 1 from (by first | assumption | omega)) hQ dX11_isCaughtAhead_54
    · refine lv_iconst (v := 1) hx hb dX11_isCaughtAhead_30 (by decide) ?_
      refine lv_goto (tgt := 54) hx hb dX11_isCaughtAhead_31 (by decide) ?_
      have hz_11 : (1 : Int32).toInt = 1 := by decide
      exact rp_zret hx hb hr hlocks hS (by first | exact Or.inl rfl | exact Or.inr rfl) (show (1 : Int32).toInt = 0 ∨ (1 : Int32).toInt = 1 from (by first | assumption | omega)) hQ dX11_isCaughtAhead_54
set_option maxRecDepth 100000 in
set_option maxHeartbeats 4000000 in
theorem k_landOn (l : Launch) (D : va_G) (cI cR cM : ClassId) (sz : Nat) {jn mm : Nat} {q : Nat → Nat} {x0 x1 x2 x3 x4 x5 x6 x7 x8 x9 x10 x11 x12 x13 x14 x15 x16 x17 x18 x19 x20 : Int32} {f0 f1 f2 f3 f4 f5 f6 f7 f8 f9 f10 f11 f12 f13 f14 f15 f16 f17 f18 f19 f20 f21 f22 f23 f24 : Nat → Int32} {a b d : Int32}  (hj : 1 ≤ jn ∧ jn ≤ 3) (hrow9 : IsRow jn f0 a.toInt) (hG : cy_G f0 a.toInt (f0 a.toInt.toNat).toInt) (hb0 : 0 ≤ b.toInt ∧ b.toInt < (f0 a.toInt.toNat).toInt) (hd0 : 0 ≤ d.toInt ∧ d.toInt < (jn : Int)) : Met l yX11_landOn wsX11_landOn ({ frames := 2, cells := 0, slots := 0, locals := 47 }) (P0 D cI cR cM [.ref mm, .int a, .int b, .int d] sz (mX mm q jn cI x0 x1 x2 x3 x4 x5 x6 x7 x8 x9 x10 x11 x12 x13 x14 x15 x16 x17 x18 x19 x20 f0 f1 f2 f3 f4 f5 f6 f7 f8 f9 f10 f11 f12 f13 f14 f15 f16 f17 f18 f19 f20 f21 f22 f23 f24)) (QG (S := Int32 × (Nat → Int32)) (fun u => some (.int u.1)) (fun u => mX mm q jn cI x0 x1 x2 x3 x4 x5 x6 x7 x8 x9 x10 x11 x12 x13 x14 x15 x16 x17 x18 x19 x20 f0 f1 f2 f3 f4 f5 f6 f7 f8 f9 f10 f11 f12 f13 f14 f15 (u.2) f17 f18 f19 f20 f21 f22 f23 f24) (fun u => (u.1.toInt = cy_L f0 a.toInt (f0 a.toInt.toNat).toInt (3 * b.toInt + d.toInt) (6 * (f0 a.toInt.toNat).toInt).toNat) ∧ (∀ k9 : Int, 0 ≤ k9 → k9 < u.1.toInt → cy_O f0 a.toInt (f0 a.toInt.toNat).toInt (u.2 k9.toNat)) ∧ (∀ t9 : Int, 0 ≤ t9 → t9 < 6 * (f0 a.toInt.toNat).toInt → cy_h f0 a.toInt t9 ≠ 0 → cy_b f0 a.toInt (f0 a.toInt.toNat).toInt t9 = (3 * b.toInt + d.toInt) → ∃ k9 : Int, 0 ≤ k9 ∧ k9 < u.1.toInt ∧ (u.2 k9.toNat).toInt = t9)) D (va_A (mX mm q jn cI x0 x1 x2 x3 x4 x5 x6 x7 x8 x9 x10 x11 x12 x13 x14 x15 x16 x17 x18 x19 x20 f0 f1 f2 f3 f4 f5 f6 f7 f8 f9 f10 f11 f12 f13 f14 f15 f16 f17 f18 f19 f20 f21 f22 f23 f24) sz)) 0 0 (va_A (mX mm q jn cI x0 x1 x2 x3 x4 x5 x6 x7 x8 x9 x10 x11 x12 x13 x14 x15 x16 x17 x18 x19 x20 f0 f1 f2 f3 f4 f5 f6 f7 f8 f9 f10 f11 f12 f13 f14 f15 f16 f17 f18 f19 f20 f21 f22 f23 f24) sz) := by
  refine go (cc := cX11_landOn) (maxL := 9) (ret := (some .int)) (by decide) rfl (Nat.le_of_ble_eq_true rfl) ?_
  intro p e s m below meth c ls args Q hQ hsz hx hb hr hml hts hown hlocks hnm hP hK hD hl
  subst hsz
  have hD := hD.self (sz := s.heap.size)
  generalize hAe : va_A (mX mm q jn cI x0 x1 x2 x3 x4 x5 x6 x7 x8 x9 x10 x11 x12 x13 x14 x15 x16 x17 x18 x19 x20 f0 f1 f2 f3 f4 f5 f6 f7 f8 f9 f10 f11 f12 f13 f14 f15 f16 f17 f18 f19 f20 f21 f22 f23 f24) s.heap.size = A at hD hQ
  have hA : ∀ q, s.heap.size ≤ q → A q := fun q h => by rw [← hAe]; exact Or.inr h
  have hS : va_S A s.heap s.heap [] := va_S.rf
  have hl : lv_has ls 9 [(0, .ref mm), (1, .int a), (2, .int b), (3, .int d)] := hl
  have hr0 := hrow9
  obtain ⟨hr1, hr2, hr3, hr4, hr5, hr6⟩ := hrow9
  have hmy := cy_many hr6 hG (p := (3 * b.toInt + d.toInt)) (by omega) (by omega)
  refine lv_aload_n hx hb dX11_landOn_0 rfl (lv_at hl 0 rfl) ?_
  refine va_get (D := D) (ci := 11) (v := .ref (q 0)) (C := RX11) (T := TX11) (N := 47) hx hb hts (by decide +kernel) hown hK.1 hP 0 rfl rfl 1 (by decide) (hts (.fieldLink RX11 8 "JugglingHallModel" "rows" "[I") (by decide +kernel)) (fun _ h9 => h9) rfl dX11_landOn_1 ?_
  refine lv_iload_n hx hb dX11_landOn_4 rfl (lv_at hl 1 rfl) ?_
  refine a_iald (f := f0) (u := a.toInt) hx hb hK.1 hP 1 0 rfl rfl dX11_landOn_5 (rfl) (by omega) (fun z_1 q_1 e_1 => ?_)
  have hn9 : z_1.toInt = (f0 a.toInt.toNat).toInt := e_1
  refine lv_istore (lv' := [(4, .int z_1), (0, .ref mm), (1, .int a), (2, .int b), (3, .int d)]) hx hb dX11_landOn_6 hl (by decide) rfl (fun ls hl => ?_)
  refine lv_iconst (v := 0) hx hb dX11_landOn_8 (by decide) ?_
  refine lv_istore (lv' := [(5, .int 0), (4, .int z_1), (0, .ref mm), (1, .int a), (2, .int b), (3, .int d)]) hx hb dX11_landOn_9 hl (by decide) rfl (fun ls hl => ?_)
  refine lv_iconst (v := 0) hx hb dX11_landOn_11 (by decide) ?_
  refine lv_istore (lv' := [(6, .int 0), (5, .int 0), (4, .int z_1), (0, .ref mm), (1, .int a), (2, .int b), (3, .int d)]) hx hb dX11_landOn_12 hl (by decide) rfl (fun ls hl => ?_)
  have loop14 : ∀ (ddloop14 : Nat) (m5 : Int32) (t : Int32) (ga : (Nat → Int32)) (H : Heap) (locs : List Loc) (ls : Array Slot), (6 * (f0 a.toInt.toNat).toInt - t.toInt).toNat < ddloop14 → (0 ≤ t.toInt ∧ t.toInt ≤ 6 * (f0 a.toInt.toNat).toInt) → (m5.toInt = cy_L f0 a.toInt (f0 a.toInt.toNat).toInt (3 * b.toInt + d.toInt) t.toInt.toNat) → (∀ k9 : Int, 0 ≤ k9 → k9 < m5.toInt → cy_O f0 a.toInt (f0 a.toInt.toNat).toInt (ga k9.toNat)) → (∀ t9 : Int, 0 ≤ t9 → t9 < t.toInt → cy_h f0 a.toInt t9 ≠ 0 → cy_b f0 a.toInt (f0 a.toInt.toNat).toInt t9 = (3 * b.toInt + d.toInt) → ∃ k9 : Int, 0 ≤ k9 ∧ k9 < m5.toInt ∧ (ga k9.toNat).toInt = t9) → va_P D vwCl (mX mm q jn cI x0 x1 x2 x3 x4 x5 x6 x7 x8 x9 x10 x11 x12 x13 x14 x15 x16 x17 x18 x19 x20 f0 f1 f2 f3 f4 f5 f6 f7 f8 f9 f10 f11 f12 f13 f14 f15 ga f17 f18 f19 f20 f21 f22 f23 f24) H → va_D A (mX mm q jn cI x0 x1 x2 x3 x4 x5 x6 x7 x8 x9 x10 x11 x12 x13 x14 x15 x16 x17 x18 x19 x20 f0 f1 f2 f3 f4 f5 f6 f7 f8 f9 f10 f11 f12 f13 f14 f15 ga f17 f18 f19 f20 f21 f22 f23 f24) → va_S A s.heap H locs → lv_has ls 9 [(0, .ref mm), (1, .int a), (2, .int b), (3, .int d), (4, .int z_1), (5, .int m5), (6, .int t)] → W p l e ({ frames := 2, cells := 0, slots := 0, locals := 47 }) s m args below meth c H locs 0 0 Q (F0 m 14 ls []) := by
    intro ddloop14
    induction ddloop14 with
    | zero =>
      intro m5 t ga H locs ls hdd
      exact absurd hdd (Nat.not_lt_zero _)
    | succ ddloop14 ih14 =>
      intro m5 t ga H locs ls hdd ht hm hO1 hA1 hP hD hS hl
      have hmx := cy_Lmi (R := f0) (r := a.toInt) (n := (f0 a.toInt.toNat).toInt) (p := (3 * b.toInt + d.toInt)) (s := t.toInt) (t := 6 * (f0 a.toInt.toNat).toInt) (by omega) (by omega)
      have hml9 := cy_Lb f0 a.toInt (f0 a.toInt.toNat).toInt (3 * b.toInt + d.toInt) t.toInt.toNat
      refine lv_iload hx hb dX11_landOn_14 (lv_at hl 6 rfl) ?_
      refine lv_bipush (v := 6) hx hb dX11_landOn_16 (by decide) ?_
      refine lv_iload hx hb dX11_landOn_18 (lv_at hl 4 rfl) ?_
      refine a_imul (u := 6) (v := z_1.toInt) hx hb dX11_landOn_20 (by decide) (rfl) (by omega) (fun z_2 e_2 => ?_)
      refine a_icmp_ge (u := t.toInt) (v := (6 * z_1.toInt)) (tgt := 141) hx hb dX11_landOn_21 (by decide) (rfl) (e_2) (fun c_3 => ?_) (fun c_3 => ?_)
      · refine lv_iload hx hb dX11_landOn_141 (lv_at hl 5 rfl) ?_
        exact g_iret (m5, ga) hx hb hr hlocks hS rfl (⟨show m5.toInt = cy_L f0 a.toInt (f0 a.toInt.toNat).toInt (3 * b.toInt + d.toInt) (6 * (f0 a.toInt.toNat).toInt).toNat from (by rw [show 6 * (f0 a.toInt.toNat).toInt = t.toInt by omega]; exact hm), show ∀ k9 : Int, 0 ≤ k9 → k9 < m5.toInt → cy_O f0 a.toInt (f0 a.toInt.toNat).toInt (ga k9.toNat) from (hO1), show ∀ t9 : Int, 0 ≤ t9 → t9 < 6 * (f0 a.toInt.toNat).toInt → cy_h f0 a.toInt t9 ≠ 0 → cy_b f0 a.toInt (f0 a.toInt.toNat).toInt t9 = (3 * b.toInt + d.toInt) → ∃ k9 : Int, 0 ≤ k9 ∧ k9 < m5.toInt ∧ (ga k9.toNat).toInt = t9 from (fun t9 h6 h7 h8 h9 => hA1 t9 h6 (by omega) h8 h9)⟩) hP hD hQ (Nat.le_of_ble_eq_true rfl) (Nat.le_of_ble_eq_true rfl) dX11_landOn_143
      · refine lv_aload_n hx hb dX11_landOn_24 rfl (lv_at hl 0 rfl) ?_
        refine lv_iload_n hx hb dX11_landOn_25 rfl (lv_at hl 1 rfl) ?_
        refine lv_iload hx hb dX11_landOn_26 (lv_at hl 6 rfl) ?_
        refine roP (va_runV (As := [.int a, .int t]) (rest := []) ⟨hx, hb, hml, hown, hts⟩ (k_heightOf2 l D cI cR cM _  (by first | assumption | omega) (hr0) (by first | assumption | omega)) (cwV 2 hts gX11_landOn_X11_heightOf rfl rfl rfl (by decide +kernel) ⟨Nat.le_of_ble_eq_true rfl, Nat.le_of_ble_eq_true rfl⟩) (pre_V hK hP hD 0 11 rfl rfl) rfl rfl hl.1 rfl (lv_room (Nat.le_of_ble_eq_true rfl)) dX11_landOn_28 ⟨Nat.le_of_ble_eq_true rfl, Nat.le_of_ble_eq_true rfl⟩) hS hA hP (fun r_4 H locs hw hP hS => ?_)
        obtain ⟨h_4, hb_4⟩ : (r_4.toInt = cy_h f0 a.toInt t.toInt) ∧ (0 ≤ r_4.toInt ∧ r_4.toInt ≤ 9) := hw
        have hh9 : r_4.toInt = cy_h f0 a.toInt t.toInt := h_4
        refine lv_istore (lv' := [(7, .int r_4), (0, .ref mm), (1, .int a), (2, .int b), (3, .int d), (4, .int z_1), (5, .int m5), (6, .int t)]) hx hb dX11_landOn_31 hl (by decide) rfl (fun ls hl => ?_)
        refine lv_iload hx hb dX11_landOn_33 (lv_at hl 0 rfl) ?_
        refine a_if_eq (u := r_4.toInt) (tgt := 135) hx hb dX11_landOn_35 (by decide) (rfl) (fun c_5 => ?_) (fun c_5 => ?_)
        · have hcnt : (if cy_h f0 a.toInt t.toInt = 0 then (0 : Int) else if cy_b f0 a.toInt (f0 a.toInt.toNat).toInt t.toInt = (3 * b.toInt + d.toInt) then 1 else 0) = 0 := if_pos (by omega)
          have hno : ¬ (cy_h f0 a.toInt t.toInt ≠ 0 ∧ cy_b f0 a.toInt (f0 a.toInt.toNat).toInt t.toInt = (3 * b.toInt + d.toInt)) := fun q => q.1 (by omega)
          obtain ⟨z_6, q_6, e_6⟩ := i_inc (a := t.toInt) (1) (rfl) (by decide) (by omega) (by omega)
          refine lv_iinc (v := z_6) (lv' := [(6, .int z_6), (7, .int r_4), (0, .ref mm), (1, .int a), (2, .int b), (3, .int d), (4, .int z_1), (5, .int m5)]) hx hb dX11_landOn_135 hl (k := 7) rfl q_6 (by decide) rfl (fun ls hl => ?_)
          refine lv_goto (tgt := 14) hx hb dX11_landOn_138 (by decide) ?_
          exact ih14 m5 z_6 ga _ _ _ (by omega) (by first | assumption | omega) (by rw [show z_6.toInt.toNat = (t.toInt + 1).toNat by omega, cy_Ls (by omega), hcnt]; omega) (hO1) (fun t9 h6 h7 h8 h9 => by
            by_cases q : t9 = t.toInt
            · exfalso; rw [q] at h8 h9; exact hno ⟨h8, h9⟩
            · exact hA1 t9 h6 (by omega) h8 h9) hP hD hS (lv_sub hl [2, 3, 4, 5, 6, 7, 0] rfl)
        · have hh : cy_h f0 a.toInt t.toInt ≠ 0 := by omega
          refine lv_iload hx hb dX11_landOn_38 (lv_at hl 7 rfl) ?_
          refine lv_bipush (v := 6) hx hb dX11_landOn_40 (by decide) ?_
          refine a_idiv (u := t.toInt) (v := 6) hx hb dX11_landOn_42 (rfl) (by decide) (by omega) (fun z_7 e_7 => ?_)
          refine lv_iload hx hb dX11_landOn_43 (lv_at hl 0 rfl) ?_
          refine a_iadd (u := (t.toInt / 6)) (v := r_4.toInt) hx hb dX11_landOn_45 (e_7) (rfl) (by omega) (fun z_8 e_8 => ?_)
          refine lv_iload hx hb dX11_landOn_46 (lv_at hl 5 rfl) ?_
          refine a_irem (u := ((t.toInt / 6) + r_4.toInt)) (v := z_1.toInt) hx hb dX11_landOn_48 (e_8) (rfl) (by omega) (fun z_9 e_9 h_9 k_9 => ?_)
          have hcq : z_9.toInt = (t.toInt / 6 + cy_h f0 a.toInt t.toInt) % (f0 a.toInt.toNat).toInt := by rw [← hn9, ← hh9]; first | exact e_9 | omega
          obtain ⟨hc1, hc2, hc3, hc4⟩ := cy_c hr6 (t := t.toInt) (by omega) (by omega)
          have hbv : cy_b f0 a.toInt (f0 a.toInt.toNat).toInt t.toInt = 3 * z_9.toInt + (f0 (a.toInt + 1 + t.toInt).toNat).toInt % 4 := by unfold cy_b; rw [← hcq]
          refine lv_iload_n hx hb dX11_landOn_49 rfl (lv_at hl 3 rfl) ?_
          refine a_icmp_ne (u := z_9.toInt) (v := b.toInt) (tgt := 135) hx hb dX11_landOn_50 (by decide) (rfl) (rfl) (fun c_10 => ?_) (fun c_10 => ?_)
          · have hbn : cy_b f0 a.toInt (f0 a.toInt.toNat).toInt t.toInt ≠ (3 * b.toInt + d.toInt) := by omega
            have hcnt : (if cy_h f0 a.toInt t.toInt = 0 then (0 : Int) else if cy_b f0 a.toInt (f0 a.toInt.toNat).toInt t.toInt = (3 * b.toInt + d.toInt) then 1 else 0) = 0 := by rw [if_neg hh, if_neg hbn]
            have hno : ¬ (cy_h f0 a.toInt t.toInt ≠ 0 ∧ cy_b f0 a.toInt (f0 a.toInt.toNat).toInt t.toInt = (3 * b.toInt + d.toInt)) := fun q => hbn q.2
            obtain ⟨z_11, q_11, e_11⟩ := i_inc (a := t.toInt) (1) (rfl) (by decide) (by omega) (by omega)
            refine lv_iinc (v := z_11) (lv' := [(6, .int z_11), (7, .int r_4), (0, .ref mm), (1, .int a), (2, .int b), (3, .int d), (4, .int z_1), (5, .int m5)]) hx hb dX11_landOn_135 hl (k := 7) rfl q_11 (by decide) rfl (fun ls hl => ?_)
            refine lv_goto (tgt := 14) hx hb dX11_landOn_138 (by decide) ?_
            exact ih14 m5 z_11 ga _ _ _ (by omega) (by first | assumption | omega) (by rw [show z_11.toInt.toNat = (t.toInt + 1).toNat by omega, cy_Ls (by omega), hcnt]; omega) (hO1) (fun t9 h6 h7 h8 h9 => by
              by_cases q : t9 = t.toInt
              · exfalso; rw [q] at h8 h9; exact hno ⟨h8, h9⟩
              · exact hA1 t9 h6 (by omega) h8 h9) hP hD hS (lv_sub hl [2, 3, 4, 5, 6, 7, 0] rfl)
          · refine lv_aload_n hx hb dX11_landOn_53 rfl (lv_at hl 1 rfl) ?_
            refine va_get (D := D) (ci := 11) (v := .ref (q 0)) (C := RX11) (T := TX11) (N := 47) hx hb hts (by decide +kernel) hown hK.1 hP 0 rfl rfl 1 (by decide) (hts (.fieldLink RX11 8 "JugglingHallModel" "rows" "[I") (by decide +kernel)) (fun _ h9 => h9) rfl dX11_landOn_54 ?_
            refine lv_iload_n hx hb dX11_landOn_57 rfl (lv_at hl 2 rfl) ?_
            refine lv_iconst (v := 1) hx hb dX11_landOn_58 (by decide) ?_
            refine a_iadd (u := a.toInt) (v := 1) hx hb dX11_landOn_59 (rfl) (by decide) (by omega) (fun z_12 e_12 => ?_)
            refine lv_iload hx hb dX11_landOn_60 (lv_at hl 7 rfl) ?_
            refine a_iadd (u := (a.toInt + 1)) (v := t.toInt) hx hb dX11_landOn_62 (e_12) (rfl) (by omega) (fun z_13 e_13 => ?_)
            refine a_iald (f := f0) (u := ((a.toInt + 1) + t.toInt)) hx hb hK.1 hP 1 0 rfl rfl dX11_landOn_63 (e_13) (by omega) (fun z_14 q_14 e_14 => ?_)
            have hcz : z_14.toInt = (f0 (a.toInt + 1 + t.toInt).toNat).toInt := by rw [q_14, show ((a.toInt + 1) + t.toInt) = a.toInt + 1 + t.toInt by omega]
            refine lv_iconst (v := 4) hx hb dX11_landOn_64 (by decide) ?_
            refine a_irem (u := z_14.toInt) (v := 4) hx hb dX11_landOn_65 (rfl) (by decide) (by omega) (fun z_15 e_15 h_15 k_15 => ?_)
            refine lv_iload_n hx hb dX11_landOn_66 rfl (lv_at hl 4 rfl) ?_
            refine a_icmp_eq (u := z_15.toInt) (v := d.toInt) (tgt := 73) hx hb dX11_landOn_67 (by decide) (rfl) (rfl) (fun c_16 => ?_) (fun c_16 => ?_)
            · have hbn : cy_b f0 a.toInt (f0 a.toInt.toNat).toInt t.toInt = (3 * b.toInt + d.toInt) := by omega
              have hcnt : (if cy_h f0 a.toInt t.toInt = 0 then (0 : Int) else if cy_b f0 a.toInt (f0 a.toInt.toNat).toInt t.toInt = (3 * b.toInt + d.toInt) then 1 else 0) = 1 := by rw [if_neg hh, if_pos hbn]
              have hmz := cy_Lmi (R := f0) (r := a.toInt) (n := (f0 a.toInt.toNat).toInt) (p := (3 * b.toInt + d.toInt)) (s := t.toInt + 1) (t := 6 * (f0 a.toInt.toNat).toInt) (by omega) (by omega)
              rw [cy_Ls (by omega), hcnt] at hmz
              refine lv_iload hx hb dX11_landOn_73 (lv_at hl 6 rfl) ?_
              refine lv_istore (lv' := [(8, .int m5), (7, .int r_4), (0, .ref mm), (1, .int a), (2, .int b), (3, .int d), (4, .int z_1), (5, .int m5), (6, .int t)]) hx hb dX11_landOn_75 hl (by decide) rfl (fun ls hl => ?_)
              have loop77 : ∀ (ddloop77 : Nat) (k8 : Int32) (gb : (Nat → Int32)) (H : Heap) (locs : List Loc) (ls : Array Slot), (k8.toInt).toNat < ddloop77 → (0 ≤ k8.toInt ∧ k8.toInt ≤ m5.toInt) → (∀ k9 : Int, 0 ≤ k9 → k9 ≤ m5.toInt → k9 ≠ k8.toInt → cy_O f0 a.toInt (f0 a.toInt.toNat).toInt (gb k9.toNat)) → (∀ t9 : Int, 0 ≤ t9 → t9 < t.toInt → cy_h f0 a.toInt t9 ≠ 0 → cy_b f0 a.toInt (f0 a.toInt.toNat).toInt t9 = (3 * b.toInt + d.toInt) → ∃ k9 : Int, 0 ≤ k9 ∧ k9 ≤ m5.toInt ∧ k9 ≠ k8.toInt ∧ (gb k9.toNat).toInt = t9) → va_P D vwCl (mX mm q jn cI x0 x1 x2 x3 x4 x5 x6 x7 x8 x9 x10 x11 x12 x13 x14 x15 x16 x17 x18 x19 x20 f0 f1 f2 f3 f4 f5 f6 f7 f8 f9 f10 f11 f12 f13 f14 f15 gb f17 f18 f19 f20 f21 f22 f23 f24) H → va_D A (mX mm q jn cI x0 x1 x2 x3 x4 x5 x6 x7 x8 x9 x10 x11 x12 x13 x14 x15 x16 x17 x18 x19 x20 f0 f1 f2 f3 f4 f5 f6 f7 f8 f9 f10 f11 f12 f13 f14 f15 gb f17 f18 f19 f20 f21 f22 f23 f24) → va_S A s.heap H locs → lv_has ls 9 [(0, .ref mm), (1, .int a), (2, .int b), (3, .int d), (4, .int z_1), (5, .int m5), (6, .int t), (7, .int r_4), (8, .int k8)] → W p l e ({ frames := 2, cells := 0, slots := 0, locals := 47 }) s m args below meth c H locs 0 0 Q (F0 m 77 ls []) := by
                intro ddloop77
                induction ddloop77 with
                | zero =>
                  intro k8 gb H locs ls hdd
                  exact absurd hdd (Nat.not_lt_zero _)
                | succ ddloop77 ih77 =>
                  intro k8 gb H locs ls hdd hk8 hO2 hA2 hP hD hS hl
                  refine lv_iload hx hb dX11_landOn_77 (lv_at hl 8 rfl) ?_
                  refine a_if_le (u := k8.toInt) (tgt := 123) hx hb dX11_landOn_79 (by decide) (rfl) (fun c_17 => ?_) (fun c_17 => ?_)
                  · refine lv_aload_n hx hb dX11_landOn_123 rfl (lv_at hl 0 rfl) ?_
                    refine va_get (D := D) (ci := 11) (v := .ref (q 16)) (C := RX11) (T := TX11) (N := 47) hx hb hts (by decide +kernel) hown hK.1 hP 0 rfl rfl 34 (by decide) (hts (.fieldLink RX11 66 "JugglingHallModel" "landing" "[I") (by decide +kernel)) (fun _ h9 => h9) rfl dX11_landOn_124 ?_
                    refine lv_iload hx hb dX11_landOn_127 (lv_at hl 8 rfl) ?_
                    refine lv_iload hx hb dX11_landOn_129 (lv_at hl 6 rfl) ?_
                    refine ma_16 (u := k8.toInt) hx hb hK hP hD hS dX11_landOn_131 (rfl) (by omega) (fun g_18 H locs eg_18 hP hD hS => ?_)
                    obtain ⟨z_19, q_19, e_19⟩ := i_inc (a := m5.toInt) (1) (rfl) (by decide) (by omega) (by omega)
                    refine lv_iinc (v := z_19) (lv' := [(5, .int z_19), (0, .ref mm), (1, .int a), (2, .int b), (3, .int d), (4, .int z_1), (6, .int t), (7, .int r_4), (8, .int k8)]) hx hb dX11_landOn_132 hl (k := 5) rfl q_19 (by decide) rfl (fun ls hl => ?_)
                    obtain ⟨z_20, q_20, e_20⟩ := i_inc (a := t.toInt) (1) (rfl) (by decide) (by omega) (by omega)
                    refine lv_iinc (v := z_20) (lv' := [(6, .int z_20), (5, .int z_19), (0, .ref mm), (1, .int a), (2, .int b), (3, .int d), (4, .int z_1), (7, .int r_4), (8, .int k8)]) hx hb dX11_landOn_135 hl (k := 6) rfl q_20 (by decide) rfl (fun ls hl => ?_)
                    refine lv_goto (tgt := 14) hx hb dX11_landOn_138 (by decide) ?_
                    exact ih14 z_19 z_20 g_18 _ _ _ (by omega) (by first | assumption | omega) (by rw [show z_20.toInt.toNat = (t.toInt + 1).toNat by omega, cy_Ls (by omega), hcnt]; omega) (fun k9 h8 h9 => by rw [eg_18]; exact cy_Ou h8 (by omega) ⟨by omega, by omega, hh⟩ (fun q => hO2 k9 h8 (by omega) q)) (fun t9 h6 h7 h8 h9 => by
                      by_cases q : t9 = t.toInt
                      · exact ⟨k8.toInt, by omega, by omega, by rw [eg_18, pk_us]; exact q.symm⟩
                      · obtain ⟨k9, q0, q1, q2, q3⟩ := hA2 t9 h6 (by omega) h8 h9
                        exact ⟨k9, q0, by omega, by rw [eg_18, un_i q0 (by omega) q2]; exact q3⟩) hP hD hS (lv_sub hl [2, 3, 4, 5, 6, 1, 0] rfl)
                  · refine lv_aload_n hx hb dX11_landOn_82 rfl (lv_at hl 0 rfl) ?_
                    refine lv_iload_n hx hb dX11_landOn_83 rfl (lv_at hl 1 rfl) ?_
                    refine lv_iload hx hb dX11_landOn_84 (lv_at hl 6 rfl) ?_
                    refine lv_aload_n hx hb dX11_landOn_86 rfl (lv_at hl 0 rfl) ?_
                    refine va_get (D := D) (ci := 11) (v := .ref (q 16)) (C := RX11) (T := TX11) (N := 47) hx hb hts (by decide +kernel) hown hK.1 hP 0 rfl rfl 34 (by decide) (hts (.fieldLink RX11 66 "JugglingHallModel" "landing" "[I") (by decide +kernel)) (fun _ h9 => h9) rfl dX11_landOn_87 ?_
                    refine lv_iload hx hb dX11_landOn_90 (lv_at hl 8 rfl) ?_
                    refine lv_iconst (v := 1) hx hb dX11_landOn_92 (by decide) ?_
                    refine a_isub (u := k8.toInt) (v := 1) hx hb dX11_landOn_93 (rfl) (by decide) (by omega) (fun z_21 e_21 => ?_)
                    refine a_iald (f := gb) (u := (k8.toInt - 1)) hx hb hK.1 hP 17 0 rfl rfl dX11_landOn_94 (e_21) (by omega) (fun z_22 q_22 e_22 => ?_)
                    have hok : cy_O f0 a.toInt (f0 a.toInt.toNat).toInt z_22 := by rw [q_22]; exact hO2 _ (by omega) (by omega) (by omega)
                    obtain ⟨ho1, ho2, ho3⟩ := hok
                    refine roP (va_runV (As := [.int a, .int t, .int z_22]) (rest := []) ⟨hx, hb, hml, hown, hts⟩ (k_isCaughtAhead l D cI cR cM _  (by first | assumption | omega) (hr0) (by first | assumption | omega) (by first | assumption | omega)) (cwV 3 hts gX11_landOn_X11_isCaughtAhead rfl rfl rfl (by decide +kernel) ⟨Nat.le_of_ble_eq_true rfl, Nat.le_of_ble_eq_true rfl⟩) (pre_V hK hP hD 0 11 rfl rfl) rfl rfl hl.1 rfl (lv_room (Nat.le_of_ble_eq_true rfl)) dX11_landOn_95 ⟨Nat.le_of_ble_eq_true rfl, Nat.le_of_ble_eq_true rfl⟩) hS hA hP (fun r_23 H locs hw hP hS => ?_)
                    have h_23 : (r_23.toInt = 0 ∨ r_23.toInt = 1) := hw
                    refine a_if_eq (u := r_23.toInt) (tgt := 123) hx hb dX11_landOn_98 (by decide) (rfl) (fun c_24 => ?_) (fun c_24 => ?_)
                    · refine lv_aload_n hx hb dX11_landOn_123 rfl (lv_at hl 0 rfl) ?_
                      refine va_get (D := D) (ci := 11) (v := .ref (q 16)) (C := RX11) (T := TX11) (N := 47) hx hb hts (by decide +kernel) hown hK.1 hP 0 rfl rfl 34 (by decide) (hts (.fieldLink RX11 66 "JugglingHallModel" "landing" "[I") (by decide +kernel)) (fun _ h9 => h9) rfl dX11_landOn_124 ?_
                      refine lv_iload hx hb dX11_landOn_127 (lv_at hl 8 rfl) ?_
                      refine lv_iload hx hb dX11_landOn_129 (lv_at hl 6 rfl) ?_
                      refine ma_16 (u := k8.toInt) hx hb hK hP hD hS dX11_landOn_131 (rfl) (by omega) (fun g_25 H locs eg_25 hP hD hS => ?_)
                      obtain ⟨z_26, q_26, e_26⟩ := i_inc (a := m5.toInt) (1) (rfl) (by decide) (by omega) (by omega)
                      refine lv_iinc (v := z_26) (lv' := [(5, .int z_26), (0, .ref mm), (1, .int a), (2, .int b), (3, .int d), (4, .int z_1), (6, .int t), (7, .int r_4), (8, .int k8)]) hx hb dX11_landOn_132 hl (k := 5) rfl q_26 (by decide) rfl (fun ls hl => ?_)
                      obtain ⟨z_27, q_27, e_27⟩ := i_inc (a := t.toInt) (1) (rfl) (by decide) (by omega) (by omega)
                      refine lv_iinc (v := z_27) (lv' := [(6, .int z_27), (5, .int z_26), (0, .ref mm), (1, .int a), (2, .int b), (3, .int d), (4, .int z_1), (7, .int r_4), (8, .int k8)]) hx hb dX11_landOn_135 hl (k := 6) rfl q_27 (by decide) rfl (fun ls hl => ?_)
                      refine lv_goto (tgt := 14) hx hb dX11_landOn_138 (by decide) ?_
                      exact ih14 z_26 z_27 g_25 _ _ _ (by omega) (by first | assumption | omega) (by rw [show z_27.toInt.toNat = (t.toInt + 1).toNat by omega, cy_Ls (by omega), hcnt]; omega) (fun k9 h8 h9 => by rw [eg_25]; exact cy_Ou h8 (by omega) ⟨by omega, by omega, hh⟩ (fun q => hO2 k9 h8 (by omega) q)) (fun t9 h6 h7 h8 h9 => by
                        by_cases q : t9 = t.toInt
                        · exact ⟨k8.toInt, by omega, by omega, by rw [eg_25, pk_us]; exact q.symm⟩
                        · obtain ⟨k9, q0, q1, q2, q3⟩ := hA2 t9 h6 (by omega) h8 h9
                          exact ⟨k9, q0, by omega, by rw [eg_25, un_i q0 (by omega) q2]; exact q3⟩) hP hD hS (lv_sub hl [2, 3, 4, 5, 6, 1, 0] rfl)
                    · refine lv_aload_n hx hb dX11_landOn_101 rfl (lv_at hl 0 rfl) ?_
                      refine va_get (D := D) (ci := 11) (v := .ref (q 16)) (C := RX11) (T := TX11) (N := 47) hx hb hts (by decide +kernel) hown hK.1 hP 0 rfl rfl 34 (by decide) (hts (.fieldLink RX11 66 "JugglingHallModel" "landing" "[I") (by decide +kernel)) (fun _ h9 => h9) rfl dX11_landOn_102 ?_
                      refine lv_iload hx hb dX11_landOn_105 (lv_at hl 8 rfl) ?_
                      refine lv_aload_n hx hb dX11_landOn_107 rfl (lv_at hl 0 rfl) ?_
                      refine va_get (D := D) (ci := 11) (v := .ref (q 16)) (C := RX11) (T := TX11) (N := 47) hx hb hts (by decide +kernel) hown hK.1 hP 0 rfl rfl 34 (by decide) (hts (.fieldLink RX11 66 "JugglingHallModel" "landing" "[I") (by decide +kernel)) (fun _ h9 => h9) rfl dX11_landOn_108 ?_
                      refine lv_iload hx hb dX11_landOn_111 (lv_at hl 8 rfl) ?_
                      refine lv_iconst (v := 1) hx hb dX11_landOn_113 (by decide) ?_
                      refine a_isub (u := k8.toInt) (v := 1) hx hb dX11_landOn_114 (rfl) (by decide) (by omega) (fun z_28 e_28 => ?_)
                      refine a_iald (f := gb) (u := (k8.toInt - 1)) hx hb hK.1 hP 17 0 rfl rfl dX11_landOn_115 (e_28) (by omega) (fun z_29 q_29 e_29 => ?_)
                      have hok2 : cy_O f0 a.toInt (f0 a.toInt.toNat).toInt z_29 := by rw [q_29]; exact hO2 _ (by omega) (by omega) (by omega)
                      refine ma_16 (u := k8.toInt) hx hb hK hP hD hS dX11_landOn_116 (rfl) (by omega) (fun g_30 H locs eg_30 hP hD hS => ?_)
                      obtain ⟨z_31, q_31, e_31⟩ := i_inc (a := k8.toInt) (-1) (rfl) (by decide) (by omega) (by omega)
                      refine lv_iinc (v := z_31) (lv' := [(8, .int z_31), (0, .ref mm), (1, .int a), (2, .int b), (3, .int d), (4, .int z_1), (5, .int m5), (6, .int t), (7, .int r_4)]) hx hb dX11_landOn_117 hl (k := 8) rfl q_31 (by decide) rfl (fun ls hl => ?_)
                      refine lv_goto (tgt := 77) hx hb dX11_landOn_120 (by decide) ?_
                      exact ih77 z_31 g_30 _ _ _ (by omega) (by first | assumption | omega) (fun k9 h7 h8 h9 => by rw [eg_30]; exact cy_Ou h7 (by omega) hok2 (fun q => hO2 k9 h7 h8 q)) (fun t9 h6 h7 h8 h9 => by
                        obtain ⟨k9, q0, q1, q2, q3⟩ := hA2 t9 h6 h7 h8 h9
                        by_cases q : k9 = k8.toInt - 1
                        · exact ⟨k8.toInt, by omega, by omega, by omega, by rw [eg_30, pk_us, q_29, show (k8.toInt - 1) = k9 by omega]; exact q3⟩
                        · exact ⟨k9, q0, q1, by omega, by rw [eg_30, un_i q0 (by omega) q2]; exact q3⟩) hP hD hS (lv_sub hl [1, 2, 3, 4, 5, 6, 7, 8, 0] rfl)
              exact loop77 ((m5.toInt).toNat + 1) m5 ga _ _ _ (by omega) (by first | assumption | omega) (fun k9 h7 h8 h9 => hO1 k9 h7 (by omega)) (fun t9 h6 h7 h8 h9 => by
                obtain ⟨k9, q0, q1, q2⟩ := hA1 t9 h6 h7 h8 h9
                exact ⟨k9, q0, by omega, by omega, q2⟩) hP hD hS (lv_sub hl [2, 3, 4, 5, 6, 7, 8, 1, 0] rfl)
            · have hbn : cy_b f0 a.toInt (f0 a.toInt.toNat).toInt t.toInt ≠ (3 * b.toInt + d.toInt) := by omega
              have hcnt : (if cy_h f0 a.toInt t.toInt = 0 then (0 : Int) else if cy_b f0 a.toInt (f0 a.toInt.toNat).toInt t.toInt = (3 * b.toInt + d.toInt) then 1 else 0) = 0 := by rw [if_neg hh, if_neg hbn]
              have hno : ¬ (cy_h f0 a.toInt t.toInt ≠ 0 ∧ cy_b f0 a.toInt (f0 a.toInt.toNat).toInt t.toInt = (3 * b.toInt + d.toInt)) := fun q => hbn q.2
              refine lv_goto (tgt := 135) hx hb dX11_landOn_70 (by decide) ?_
              obtain ⟨z_32, q_32, e_32⟩ := i_inc (a := t.toInt) (1) (rfl) (by decide) (by omega) (by omega)
              refine lv_iinc (v := z_32) (lv' := [(6, .int z_32), (7, .int r_4), (0, .ref mm), (1, .int a), (2, .int b), (3, .int d), (4, .int z_1), (5, .int m5)]) hx hb dX11_landOn_135 hl (k := 7) rfl q_32 (by decide) rfl (fun ls hl => ?_)
              refine lv_goto (tgt := 14) hx hb dX11_landOn_138 (by decide) ?_
              exact ih14 m5 z_32 ga _ _ _ (by omega) (by first | assumption | omega) (by rw [show z_32.toInt.toNat = (t.toInt + 1).toNat by omega, cy_Ls (by omega), hcnt]; omega) (hO1) (fun t9 h6 h7 h8 h9 => by
                by_cases q : t9 = t.toInt
                · exfalso; rw [q] at h8 h9; exact hno ⟨h8, h9⟩
                · exact hA1 t9 h6 (by omega) h8 h9) hP hD hS (lv_sub hl [2, 3, 4, 5, 6, 7, 0] rfl)
  have hz_33 : (0 : Int32).toInt = 0 := by decide
  have hz_34 : (0 : Int32).toInt = 0 := by decide
  exact loop14 ((6 * (f0 a.toInt.toNat).toInt - (0 : Int32).toInt).toNat + 1) (0 : Int32) (0 : Int32) f16 _ _ _ (by omega) (by first | assumption | omega) (by rw [show (0 : Int32).toInt.toNat = 0 by decide]; exact z32) (fun k9 h8 h9 => absurd h9 (by omega)) (fun t9 h6 h7 => absurd h7 (by omega)) hP hD hS (lv_sub hl [3, 4, 5, 6, 2, 1, 0] rfl)
