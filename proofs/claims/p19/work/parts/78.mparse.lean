theorem dX11_closes_0 : decode cX11_closes 0 = .ok (.aload_n 0, 1) := by decide +kernel
theorem dX11_closes_1 : decode cX11_closes 1 = .ok (.getfield 120, 3) := by decide +kernel
theorem dX11_closes_4 : decode cX11_closes 4 = .ok (.istore_n 1, 1) := by decide +kernel
theorem dX11_closes_5 : decode cX11_closes 5 = .ok (.aload_n 0, 1) := by decide +kernel
theorem dX11_closes_6 : decode cX11_closes 6 = .ok (.invokevirtual 163, 3) := by decide +kernel
theorem dX11_closes_9 : decode cX11_closes 9 = .ok (.aload_n 0, 1) := by decide +kernel
theorem dX11_closes_10 : decode cX11_closes 10 = .ok (.dup, 1) := by decide +kernel
theorem dX11_closes_11 : decode cX11_closes 11 = .ok (.getfield 154, 3) := by decide +kernel
theorem dX11_closes_14 : decode cX11_closes 14 = .ok (.iconst 1, 1) := by decide +kernel
theorem dX11_closes_15 : decode cX11_closes 15 = .ok (.isub, 1) := by decide +kernel
theorem dX11_closes_16 : decode cX11_closes 16 = .ok (.putfield 154, 3) := by decide +kernel
theorem dX11_closes_19 : decode cX11_closes 19 = .ok (.aload_n 0, 1) := by decide +kernel
theorem dX11_closes_20 : decode cX11_closes 20 = .ok (.aload_n 0, 1) := by decide +kernel
theorem dX11_closes_21 : decode cX11_closes 21 = .ok (.getfield 36, 3) := by decide +kernel
theorem dX11_closes_24 : decode cX11_closes 24 = .ok (.aload_n 0, 1) := by decide +kernel
theorem dX11_closes_25 : decode cX11_closes 25 = .ok (.getfield 154, 3) := by decide +kernel
theorem dX11_closes_28 : decode cX11_closes 28 = .ok (.iconst 1, 1) := by decide +kernel
theorem dX11_closes_29 : decode cX11_closes 29 = .ok (.iadd, 1) := by decide +kernel
theorem dX11_closes_30 : decode cX11_closes 30 = .ok (.iaload, 1) := by decide +kernel
theorem dX11_closes_31 : decode cX11_closes 31 = .ok (.putfield 176, 3) := by decide +kernel
theorem dX11_closes_34 : decode cX11_closes 34 = .ok (.aload_n 0, 1) := by decide +kernel
theorem dX11_closes_35 : decode cX11_closes 35 = .ok (.getfield 151, 3) := by decide +kernel
theorem dX11_closes_38 : decode cX11_closes 38 = .ok (.aload_n 0, 1) := by decide +kernel
theorem dX11_closes_39 : decode cX11_closes 39 = .ok (.getfield 176, 3) := by decide +kernel
theorem dX11_closes_42 : decode cX11_closes 42 = .ok (.isub, 1) := by decide +kernel
theorem dX11_closes_43 : decode cX11_closes 43 = .ok (.istore_n 2, 1) := by decide +kernel
theorem dX11_closes_44 : decode cX11_closes 44 = .ok (.aload_n 0, 1) := by decide +kernel
theorem dX11_closes_45 : decode cX11_closes 45 = .ok (.invokevirtual 182, 3) := by decide +kernel
theorem dX11_closes_48 : decode cX11_closes 48 = .ok (.bipush 24, 2) := by decide +kernel
theorem dX11_closes_50 : decode cX11_closes 50 = .ok (.if_icmp .le 10, 3) := by decide +kernel
theorem dX11_closes_53 : decode cX11_closes 53 = .ok (.aload_n 0, 1) := by decide +kernel
theorem dX11_closes_54 : decode cX11_closes 54 = .ok (.iconst 4, 1) := by decide +kernel
theorem dX11_closes_55 : decode cX11_closes 55 = .ok (.iload_n 1, 1) := by decide +kernel
theorem dX11_closes_56 : decode cX11_closes 56 = .ok (.invokevirtual 157, 3) := by decide +kernel
theorem dX11_closes_59 : decode cX11_closes 59 = .ok (.ireturn, 1) := by decide +kernel
theorem dX11_closes_60 : decode cX11_closes 60 = .ok (.aload_n 0, 1) := by decide +kernel
theorem dX11_closes_61 : decode cX11_closes 61 = .ok (.getfield 30, 3) := by decide +kernel
theorem dX11_closes_64 : decode cX11_closes 64 = .ok (.aload_n 0, 1) := by decide +kernel
theorem dX11_closes_65 : decode cX11_closes 65 = .ok (.getfield 154, 3) := by decide +kernel
theorem dX11_closes_68 : decode cX11_closes 68 = .ok (.iaload, 1) := by decide +kernel
theorem dX11_closes_69 : decode cX11_closes 69 = .ok (.bipush 9, 2) := by decide +kernel
theorem dX11_closes_71 : decode cX11_closes 71 = .ok (.if_icmp .ne 22, 3) := by decide +kernel
theorem dX11_closes_74 : decode cX11_closes 74 = .ok (.aload_n 0, 1) := by decide +kernel
theorem dX11_closes_75 : decode cX11_closes 75 = .ok (.aload_n 0, 1) := by decide +kernel
theorem dX11_closes_76 : decode cX11_closes 76 = .ok (.getfield 176, 3) := by decide +kernel
theorem dX11_closes_79 : decode cX11_closes 79 = .ok (.iload_n 2, 1) := by decide +kernel
theorem dX11_closes_80 : decode cX11_closes 80 = .ok (.invokevirtual 194, 3) := by decide +kernel
theorem dX11_closes_83 : decode cX11_closes 83 = .ok (.ifCond .ne 10, 3) := by decide +kernel
theorem dX11_closes_86 : decode cX11_closes 86 = .ok (.aload_n 0, 1) := by decide +kernel
theorem dX11_closes_87 : decode cX11_closes 87 = .ok (.iconst 5, 1) := by decide +kernel
theorem dX11_closes_88 : decode cX11_closes 88 = .ok (.iload_n 1, 1) := by decide +kernel
theorem dX11_closes_89 : decode cX11_closes 89 = .ok (.invokevirtual 157, 3) := by decide +kernel
theorem dX11_closes_92 : decode cX11_closes 92 = .ok (.ireturn, 1) := by decide +kernel
theorem dX11_closes_93 : decode cX11_closes 93 = .ok (.aload_n 0, 1) := by decide +kernel
theorem dX11_closes_94 : decode cX11_closes 94 = .ok (.getfield 30, 3) := by decide +kernel
theorem dX11_closes_97 : decode cX11_closes 97 = .ok (.aload_n 0, 1) := by decide +kernel
theorem dX11_closes_98 : decode cX11_closes 98 = .ok (.getfield 154, 3) := by decide +kernel
theorem dX11_closes_101 : decode cX11_closes 101 = .ok (.iaload, 1) := by decide +kernel
theorem dX11_closes_102 : decode cX11_closes 102 = .ok (.ifCond .le 40, 3) := by decide +kernel
theorem dX11_closes_105 : decode cX11_closes 105 = .ok (.aload_n 0, 1) := by decide +kernel
theorem dX11_closes_106 : decode cX11_closes 106 = .ok (.aload_n 0, 1) := by decide +kernel
theorem dX11_closes_107 : decode cX11_closes 107 = .ok (.getfield 30, 3) := by decide +kernel
theorem dX11_closes_110 : decode cX11_closes 110 = .ok (.aload_n 0, 1) := by decide +kernel
theorem dX11_closes_111 : decode cX11_closes 111 = .ok (.getfield 154, 3) := by decide +kernel
theorem dX11_closes_114 : decode cX11_closes 114 = .ok (.iaload, 1) := by decide +kernel
theorem dX11_closes_115 : decode cX11_closes 115 = .ok (.aload_n 0, 1) := by decide +kernel
theorem dX11_closes_116 : decode cX11_closes 116 = .ok (.getfield 33, 3) := by decide +kernel
theorem dX11_closes_119 : decode cX11_closes 119 = .ok (.aload_n 0, 1) := by decide +kernel
theorem dX11_closes_120 : decode cX11_closes 120 = .ok (.getfield 154, 3) := by decide +kernel
theorem dX11_closes_123 : decode cX11_closes 123 = .ok (.iaload, 1) := by decide +kernel
theorem dX11_closes_124 : decode cX11_closes 124 = .ok (.aload_n 0, 1) := by decide +kernel
theorem dX11_closes_125 : decode cX11_closes 125 = .ok (.getfield 176, 3) := by decide +kernel
theorem dX11_closes_128 : decode cX11_closes 128 = .ok (.iload_n 2, 1) := by decide +kernel
theorem dX11_closes_129 : decode cX11_closes 129 = .ok (.invokevirtual 198, 3) := by decide +kernel
theorem dX11_closes_132 : decode cX11_closes 132 = .ok (.ifCond .ne 10, 3) := by decide +kernel
theorem dX11_closes_135 : decode cX11_closes 135 = .ok (.aload_n 0, 1) := by decide +kernel
theorem dX11_closes_136 : decode cX11_closes 136 = .ok (.iconst 5, 1) := by decide +kernel
theorem dX11_closes_137 : decode cX11_closes 137 = .ok (.iload_n 1, 1) := by decide +kernel
theorem dX11_closes_138 : decode cX11_closes 138 = .ok (.invokevirtual 157, 3) := by decide +kernel
theorem dX11_closes_141 : decode cX11_closes 141 = .ok (.ireturn, 1) := by decide +kernel
theorem dX11_closes_142 : decode cX11_closes 142 = .ok (.iconst 0, 1) := by decide +kernel
theorem dX11_closes_143 : decode cX11_closes 143 = .ok (.ireturn, 1) := by decide +kernel
set_option maxRecDepth 100000 in
set_option maxHeartbeats 4000000 in
theorem ggX11_closes_X11_nextToken : GoodIn wsX11_closes wsX11_nextToken := goodIn_r _ [12, 13, 1, 14, 15, 16, 17, 18, 11, 19, 20, 21, 22, 23, 24, 25, 26, 27, 28, 29, 30, 31, 32, 33, 34, 35, 36, 37, 38, 69, 70, 71, 72, 73, 74, 75, 76, 77, 78, 79, 80, 81, 82, 83, 84, 85, 86, 87, 88, 89, 90, 91, 92, 93, 94, 95, 96, 97, 98, 99, 100, 101, 102, 103, 104, 105, 106, 107, 108, 109, 110, 111, 112, 113, 114, 115] (by with_unfolding_all rfl) (by decide +kernel)
set_option maxRecDepth 20000 in
theorem gX11_closes_X11_nextToken : GoodIn wsX11_closes (wsV RX11 163 RX11 yX11_nextToken wsX11_nextToken) := goodIn_app (goodIn_of _ (by decide +kernel)) ggX11_closes_X11_nextToken
set_option maxRecDepth 20000 in
theorem ggX11_closes_X11_many : GoodIn wsX11_closes wsX11_many := goodIn_r _ [42, 5, 3, 2, 69, 70, 71, 72, 73, 74, 75, 76, 77, 78, 79, 80, 81, 82, 83, 84, 85, 86, 87, 88, 89, 90, 91, 92, 93, 94, 95, 96, 97, 98, 99, 100, 101, 102, 103, 104, 105, 106, 107, 108, 109, 110, 111, 112, 113, 114, 115] (by decide +kernel) (by decide +kernel)
set_option maxRecDepth 20000 in
theorem gX11_closes_X11_many : GoodIn wsX11_closes (wsV RX11 182 RX11 yX11_many wsX11_many) := goodIn_app (goodIn_of _ (by decide +kernel)) ggX11_closes_X11_many
set_option maxRecDepth 20000 in
theorem ggX11_closes_X11_fails : GoodIn wsX11_closes wsX11_fails := goodIn_r _ [46, 47, 69, 70, 71, 72, 73, 74, 75, 76, 77, 78, 79, 80, 81, 82, 83, 84, 85, 86, 87, 88, 89, 90, 91, 92, 93, 94, 95, 96, 97, 98, 99, 100, 101, 102, 103, 104, 105, 106, 107, 108, 109, 110, 111, 112, 113, 114, 115] (by decide +kernel) (by decide +kernel)
set_option maxRecDepth 20000 in
theorem gX11_closes_X11_fails : GoodIn wsX11_closes (wsV RX11 157 RX11 yX11_fails wsX11_fails) := goodIn_app (goodIn_of _ (by decide +kernel)) ggX11_closes_X11_fails
set_option maxRecDepth 20000 in
theorem ggX11_closes_X11_isPlain : GoodIn wsX11_closes wsX11_isPlain := goodIn_r _ [51, 52, 53, 69, 70, 71, 72, 73, 74, 75, 76, 77, 78, 79, 80, 81, 82, 83, 84, 85, 86, 87, 88, 89, 90, 91, 92, 93, 94, 95, 96, 97, 98, 99, 100, 101, 102, 103, 104, 105, 106, 107, 108, 109, 110, 111, 112, 113, 114, 115] (by decide +kernel) (by decide +kernel)
set_option maxRecDepth 20000 in
theorem gX11_closes_X11_isPlain : GoodIn wsX11_closes (wsV RX11 194 RX11 yX11_isPlain wsX11_isPlain) := goodIn_app (goodIn_of _ (by decide +kernel)) ggX11_closes_X11_isPlain
set_option maxRecDepth 100000 in
set_option maxHeartbeats 4000000 in
theorem ggX11_closes_X11_turns : GoodIn wsX11_closes wsX11_turns := goodIn_r _ [57, 58, 52, 53, 59, 60, 11, 61, 62, 63, 64, 65, 66, 67, 68, 69, 70, 71, 72, 73, 74, 75, 76, 77, 78, 79, 80, 81, 82, 83, 84, 85, 86, 87, 88, 89, 90, 91, 92, 93, 94, 95, 96, 97, 98, 99, 100, 101, 102, 103, 104, 105, 106, 107, 108, 109, 110, 111, 112, 113, 114, 115] (by with_unfolding_all rfl) (by decide +kernel)
set_option maxRecDepth 20000 in
theorem gX11_closes_X11_turns : GoodIn wsX11_closes (wsV RX11 198 RX11 yX11_turns wsX11_turns) := goodIn_app (goodIn_of _ (by decide +kernel)) ggX11_closes_X11_turns
set_option maxRecDepth 100000 in
set_option maxHeartbeats 4000000 in
theorem k_closes (l : Launch) (D : va_G) (cI cR cM : ClassId) (sz : Nat) {jn mm : Nat} {q : Nat → Nat} {x0 x1 x2 x3 x4 x5 x6 x7 x8 x9 x10 x11 x12 x13 x14 x15 x16 x17 x18 x19 x20 : Int32} {f0 f1 f2 f3 f4 f5 f6 f7 f8 f9 f10 f11 f12 f13 f14 f15 f16 f17 f18 f19 f20 f21 f22 f23 f24 : Nat → Int32}  (ht : 0 ≤ x2.toInt ∧ x2.toInt ≤ 300) (h5 : 0 ≤ x5.toInt ∧ x5.toInt ≤ x2.toInt) (hT : TokOK x7 x8) (hj : 1 ≤ jn ∧ jn ≤ 3) (h11 : 1 ≤ x11.toInt ∧ x11.toInt ≤ 5) (h10 : 0 ≤ x10.toInt ∧ x10.toInt ≤ 150) (hs0 : 0 ≤ (f6 (x11.toInt - 1).toNat).toInt ∧ (f6 (x11.toInt - 1).toNat).toInt ≤ (f6 x11.toInt.toNat).toInt ∧ (f6 x11.toInt.toNat).toInt ≤ x10.toInt) (hm0 : x10.toInt - (f6 x11.toInt.toNat).toInt ≤ 24) (ho4 : (f4 (x11.toInt - 1).toNat).toInt = 0 ∨ (7 ≤ (f4 (x11.toInt - 1).toNat).toInt ∧ (f4 (x11.toInt - 1).toNat).toInt ≤ 10)) (hd5 : 0 ≤ (f5 (x11.toInt - 1).toNat).toInt ∧ (f5 (x11.toInt - 1).toNat).toInt ≤ 9) (hC : CellsX jn f3 0 (6 * x10.toInt)) (hZ0 : ZX jn f3 0 x10.toInt) : Met l yX11_closes wsX11_closes ({ frames := 4, cells := 0, slots := 0, locals := 88 }) (P0 D cI cR cM [.ref mm] sz (mX mm q jn cI x0 x1 x2 x3 x4 x5 x6 x7 x8 x9 x10 x11 x12 x13 x14 x15 x16 x17 x18 x19 x20 f0 f1 f2 f3 f4 f5 f6 f7 f8 f9 f10 f11 f12 f13 f14 f15 f16 f17 f18 f19 f20 f21 f22 f23 f24)) (QG (S := Int32 × Int32 × Int32 × Int32 × Int32 × Int32 × Int32 × Int32 × (Nat → Int32) × (Nat → Int32)) (fun u => some (.int u.1)) (fun u => mX mm q jn cI x0 x1 x2 x3 x4 (u.2.1) (u.2.2.1) (u.2.2.2.1) (u.2.2.2.2.1) (u.2.2.2.2.2.1) x10 (u.2.2.2.2.2.2.1) (u.2.2.2.2.2.2.2.1) x13 x14 x15 x16 x17 x18 x19 x20 f0 f1 f2 (u.2.2.2.2.2.2.2.2.1) f4 f5 f6 (u.2.2.2.2.2.2.2.2.2) f8 f9 f10 f11 f12 f13 f14 f15 f16 f17 f18 f19 f20 f21 f22 f23 f24) (fun u => (x5.toInt ≤ u.2.1.toInt ∧ u.2.1.toInt ≤ x2.toInt) ∧ (TokOK u.2.2.2.1 u.2.2.2.2.1) ∧ (u.1.toInt = 0 → x5.toInt < u.2.1.toInt ∨ u.2.2.2.1.toInt = 0) ∧ (u.1.toInt = 0 → u.2.2.2.2.2.2.1.toInt = x11.toInt - 1 ∧ u.2.2.2.2.2.2.2.1.toInt = (f6 x11.toInt.toNat).toInt) ∧ (u.1.toInt = 0 → x10.toInt - (f6 (x11.toInt - 1).toNat).toInt ≤ 24) ∧ (u.1.toInt = 0 → CellsX jn u.2.2.2.2.2.2.2.2.1 0 (6 * x10.toInt)) ∧ (u.1.toInt = 0 → ZX jn u.2.2.2.2.2.2.2.2.1 0 x10.toInt)) D (va_A (mX mm q jn cI x0 x1 x2 x3 x4 x5 x6 x7 x8 x9 x10 x11 x12 x13 x14 x15 x16 x17 x18 x19 x20 f0 f1 f2 f3 f4 f5 f6 f7 f8 f9 f10 f11 f12 f13 f14 f15 f16 f17 f18 f19 f20 f21 f22 f23 f24) sz)) 0 0 (va_A (mX mm q jn cI x0 x1 x2 x3 x4 x5 x6 x7 x8 x9 x10 x11 x12 x13 x14 x15 x16 x17 x18 x19 x20 f0 f1 f2 f3 f4 f5 f6 f7 f8 f9 f10 f11 f12 f13 f14 f15 f16 f17 f18 f19 f20 f21 f22 f23 f24) sz) := by
  refine go (cc := cX11_closes) (maxL := 3) (ret := (some .int)) (by decide) rfl (Nat.le_of_ble_eq_true rfl) ?_
  intro p e s m below meth c ls args Q hQ hsz hx hb hr hml hts hown hlocks hnm hP hK hD hl
  subst hsz
  have hD := hD.self (sz := s.heap.size)
  generalize hAe : va_A (mX mm q jn cI x0 x1 x2 x3 x4 x5 x6 x7 x8 x9 x10 x11 x12 x13 x14 x15 x16 x17 x18 x19 x20 f0 f1 f2 f3 f4 f5 f6 f7 f8 f9 f10 f11 f12 f13 f14 f15 f16 f17 f18 f19 f20 f21 f22 f23 f24) s.heap.size = A at hD hQ
  have hA : ∀ q, s.heap.size ≤ q → A q := fun q h => by rw [← hAe]; exact Or.inr h
  have hS : va_S A s.heap s.heap [] := va_S.rf
  have hl : lv_has ls 3 [(0, .ref mm)] := hl
  refine lv_aload_n hx hb dX11_closes_0 rfl (lv_at hl 0 rfl) ?_
  refine va_get (D := D) (ci := 11) (v := .int x6) (C := RX11) (T := TX11) (N := 47) hx hb hts (by decide +kernel) hown hK.1 hP 0 rfl rfl 10 (by decide) (hts (.fieldLink RX11 120 "JugglingHallModel" "place" "I") (by decide +kernel)) (fun _ h9 => h9) rfl dX11_closes_1 ?_
  refine lv_istore_n (lv' := [(1, .int x6), (0, .ref mm)]) hx hb dX11_closes_4 rfl hl (by decide) rfl (fun ls hl => ?_)
  refine lv_aload_n hx hb dX11_closes_5 rfl (lv_at hl 1 rfl) ?_
  refine call_g (wr := []) (va_runV (As := []) (rest := []) ⟨hx, hb, hml, hown, hts⟩ (k_next l D cI cR cM _  (by first | assumption | omega) (by first | assumption | omega)) (cwV 0 hts gX11_closes_X11_nextToken rfl rfl rfl (by decide +kernel) ⟨Nat.le_of_ble_eq_true rfl, Nat.le_of_ble_eq_true rfl⟩) (pre_V hK hP hD 0 11 rfl rfl) rfl rfl hl.1 rfl (lv_room (Nat.le_of_ble_eq_true rfl)) dX11_closes_6 ⟨Nat.le_of_ble_eq_true rfl, Nat.le_of_ble_eq_true rfl⟩) hP hD hS hA [0, 1, 2, 3, 4, 5, 6, 7, 8, 9, 10, 11, 12, 13, 14, 15, 16, 17, 18, 19, 20, 21, 22, 23, 24, 25] [] (by with_unfolding_all rfl) rfl (by decide) (by decide) (fun u_1 H locs hw hP hD hS => ?_)
  obtain ⟨y5_1, y6_1, y7_1, y8_1⟩ := u_1
  have hP : va_P D vwCl (mX mm q jn cI x0 x1 x2 x3 x4 y5_1 y6_1 y7_1 y8_1 x9 x10 x11 x12 x13 x14 x15 x16 x17 x18 x19 x20 f0 f1 f2 f3 f4 f5 f6 f7 f8 f9 f10 f11 f12 f13 f14 f15 f16 f17 f18 f19 f20 f21 f22 f23 f24) H := hP
  have hD : va_D A (mX mm q jn cI x0 x1 x2 x3 x4 y5_1 y6_1 y7_1 y8_1 x9 x10 x11 x12 x13 x14 x15 x16 x17 x18 x19 x20 f0 f1 f2 f3 f4 f5 f6 f7 f8 f9 f10 f11 f12 f13 f14 f15 f16 f17 f18 f19 f20 f21 f22 f23 f24) := hD
  obtain ⟨ha_1, hp_1, hk_1, hT_1⟩ : (x5.toInt ≤ y5_1.toInt ∧ y5_1.toInt ≤ x2.toInt) ∧ (0 ≤ y6_1.toInt ∧ y6_1.toInt ≤ 300) ∧ (y7_1.toInt = 0 ∨ x5.toInt < y5_1.toInt) ∧ (TokOK y7_1 y8_1) := hw
  refine lv_aload_n hx hb dX11_closes_9 rfl (lv_at hl 1 rfl) ?_
  refine lv_dup hx hb dX11_closes_10 rfl ?_
  refine va_get (D := D) (ci := 11) (v := .int x11) (C := RX11) (T := TX11) (N := 47) hx hb hts (by decide +kernel) hown hK.1 hP 0 rfl rfl 20 (by decide) (hts (.fieldLink RX11 154 "JugglingHallModel" "depth" "I") (by decide +kernel)) (fun _ h9 => h9) rfl dX11_closes_11 ?_
  refine lv_iconst (v := 1) hx hb dX11_closes_14 (by decide) ?_
  refine a_isub (u := x11.toInt) (v := 1) hx hb dX11_closes_15 (rfl) (by decide) (by omega) (fun z_2 e_2 => ?_)
  refine mp_11 hx hb hts (by decide +kernel) hown hK hP hD hS (hts (.fieldLink RX11 154 "JugglingHallModel" "depth" "I") (by decide +kernel)) dX11_closes_16 (fun H locs hP hD hS => ?_)
  refine lv_aload_n hx hb dX11_closes_19 rfl (lv_at hl 1 rfl) ?_
  refine lv_aload_n hx hb dX11_closes_20 rfl (lv_at hl 1 rfl) ?_
  refine va_get (D := D) (ci := 11) (v := .ref (q 6)) (C := RX11) (T := TX11) (N := 47) hx hb hts (by decide +kernel) hown hK.1 hP 0 rfl rfl 17 (by decide) (hts (.fieldLink RX11 36 "JugglingHallModel" "starts" "[I") (by decide +kernel)) (fun _ h9 => h9) rfl dX11_closes_21 ?_
  refine lv_aload_n hx hb dX11_closes_24 rfl (lv_at hl 1 rfl) ?_
  refine va_get (D := D) (ci := 11) (v := .int z_2) (C := RX11) (T := TX11) (N := 47) hx hb hts (by decide +kernel) hown hK.1 hP 0 rfl rfl 20 (by decide) (hts (.fieldLink RX11 154 "JugglingHallModel" "depth" "I") (by decide +kernel)) (fun _ h9 => h9) rfl dX11_closes_25 ?_
  refine lv_iconst (v := 1) hx hb dX11_closes_28 (by decide) ?_
  refine a_iadd (u := (x11.toInt - 1)) (v := 1) hx hb dX11_closes_29 (e_2) (by decide) (by omega) (fun z_3 e_3 => ?_)
  refine a_iald (f := f6) (u := ((x11.toInt - 1) + 1)) hx hb hK.1 hP 7 0 rfl rfl dX11_closes_30 (e_3) (by omega) (fun z_4 q_4 e_4 => ?_)
  have hs9_4 : z_4.toInt = (f6 x11.toInt.toNat).toInt := by rw [q_4, show ((x11.toInt - 1) + 1) = x11.toInt by omega]
  refine mp_12 hx hb hts (by decide +kernel) hown hK hP hD hS (hts (.fieldLink RX11 176 "JugglingHallModel" "oneStart" "I") (by decide +kernel)) dX11_closes_31 (fun H locs hP hD hS => ?_)
  refine lv_aload_n hx hb dX11_closes_34 rfl (lv_at hl 1 rfl) ?_
  refine va_get (D := D) (ci := 11) (v := .int x10) (C := RX11) (T := TX11) (N := 47) hx hb hts (by decide +kernel) hown hK.1 hP 0 rfl rfl 19 (by decide) (hts (.fieldLink RX11 151 "JugglingHallModel" "top" "I") (by decide +kernel)) (fun _ h9 => h9) rfl dX11_closes_35 ?_
  refine lv_aload_n hx hb dX11_closes_38 rfl (lv_at hl 1 rfl) ?_
  refine va_get (D := D) (ci := 11) (v := .int z_4) (C := RX11) (T := TX11) (N := 47) hx hb hts (by decide +kernel) hown hK.1 hP 0 rfl rfl 21 (by decide) (hts (.fieldLink RX11 176 "JugglingHallModel" "oneStart" "I") (by decide +kernel)) (fun _ h9 => h9) rfl dX11_closes_39 ?_
  refine a_isub (u := x10.toInt) (v := z_4.toInt) hx hb dX11_closes_42 (rfl) (rfl) (by omega) (fun z_5 e_5 => ?_)
  refine lv_istore_n (lv' := [(2, .int z_5), (1, .int x6), (0, .ref mm)]) hx hb dX11_closes_43 rfl hl (by decide) rfl (fun ls hl => ?_)
  refine lv_aload_n hx hb dX11_closes_44 rfl (lv_at hl 2 rfl) ?_
  have hz11 : z_2.toInt = x11.toInt - 1 := by omega
  have hf6z : (f6 z_2.toInt.toNat).toInt = (f6 (x11.toInt - 1).toNat).toInt := by rw [hz11]
  refine roP (va_runV (As := []) (rest := []) ⟨hx, hb, hml, hown, hts⟩ (k_many l D cI cR cM _  (by first | assumption | omega) (by first | assumption | omega) (by first | assumption | omega)) (cwV 0 hts gX11_closes_X11_many rfl rfl rfl (by decide +kernel) ⟨Nat.le_of_ble_eq_true rfl, Nat.le_of_ble_eq_true rfl⟩) (pre_V hK hP hD 0 11 rfl rfl) rfl rfl hl.1 rfl (lv_room (Nat.le_of_ble_eq_true rfl)) dX11_closes_45 ⟨Nat.le_of_ble_eq_true rfl, Nat.le_of_ble_eq_true rfl⟩) hS hA hP (fun r_6 H locs hw hP hS => ?_)
  have h_6 : (r_6.toInt = x10.toInt - (f6 z_2.toInt.toNat).toInt) := hw
  refine lv_bipush (v := 24) hx hb dX11_closes_48 (by decide) ?_
  refine a_icmp_le (u := r_6.toInt) (v := 24) (tgt := 60) hx hb dX11_closes_50 (by decide) (rfl) (by decide) (fun c_7 => ?_) (fun c_7 => ?_)
  · refine lv_aload_n hx hb dX11_closes_60 rfl (lv_at hl 2 rfl) ?_
    refine va_get (D := D) (ci := 11) (v := .ref (q 4)) (C := RX11) (T := TX11) (N := 47) hx hb hts (by decide +kernel) hown hK.1 hP 0 rfl rfl 15 (by decide) (hts (.fieldLink RX11 30 "JugglingHallModel" "open" "[I") (by decide +kernel)) (fun _ h9 => h9) rfl dX11_closes_61 ?_
    refine lv_aload_n hx hb dX11_closes_64 rfl (lv_at hl 2 rfl) ?_
    refine va_get (D := D) (ci := 11) (v := .int z_2) (C := RX11) (T := TX11) (N := 47) hx hb hts (by decide +kernel) hown hK.1 hP 0 rfl rfl 20 (by decide) (hts (.fieldLink RX11 154 "JugglingHallModel" "depth" "I") (by decide +kernel)) (fun _ h9 => h9) rfl dX11_closes_65 ?_
    refine a_iald (f := f4) (u := (x11.toInt - 1)) hx hb hK.1 hP 5 0 rfl rfl dX11_closes_68 (e_2) (by omega) (fun z_8 q_8 e_8 => ?_)
    refine lv_bipush (v := 9) hx hb dX11_closes_69 (by decide) ?_
    refine a_icmp_ne (u := z_8.toInt) (v := 9) (tgt := 93) hx hb dX11_closes_71 (by decide) (rfl) (by decide) (fun c_9 => ?_) (fun c_9 => ?_)
    · refine lv_aload_n hx hb dX11_closes_93 rfl (lv_at hl 2 rfl) ?_
      refine va_get (D := D) (ci := 11) (v := .ref (q 4)) (C := RX11) (T := TX11) (N := 47) hx hb hts (by decide +kernel) hown hK.1 hP 0 rfl rfl 15 (by decide) (hts (.fieldLink RX11 30 "JugglingHallModel" "open" "[I") (by decide +kernel)) (fun _ h9 => h9) rfl dX11_closes_94 ?_
      refine lv_aload_n hx hb dX11_closes_97 rfl (lv_at hl 2 rfl) ?_
      refine va_get (D := D) (ci := 11) (v := .int z_2) (C := RX11) (T := TX11) (N := 47) hx hb hts (by decide +kernel) hown hK.1 hP 0 rfl rfl 20 (by decide) (hts (.fieldLink RX11 154 "JugglingHallModel" "depth" "I") (by decide +kernel)) (fun _ h9 => h9) rfl dX11_closes_98 ?_
      refine a_iald (f := f4) (u := (x11.toInt - 1)) hx hb hK.1 hP 5 0 rfl rfl dX11_closes_101 (e_2) (by omega) (fun z_10 q_10 e_10 => ?_)
      refine a_if_le (u := z_10.toInt) (tgt := 142) hx hb dX11_closes_102 (by decide) (rfl) (fun c_11 => ?_) (fun c_11 => ?_)
      · refine lv_iconst (v := 0) hx hb dX11_closes_142 (by decide) ?_
        have hz_12 : (0 : Int32).toInt = 0 := by decide
        exact g_iret ((0 : Int32), y5_1, y6_1, y7_1, y8_1, x9, z_2, z_4, f3, f7) hx hb hr hlocks hS rfl (⟨show x5.toInt ≤ y5_1.toInt ∧ y5_1.toInt ≤ x2.toInt from (by first | assumption | omega), show TokOK y7_1 y8_1 from (by first | assumption | omega), show (0 : Int32).toInt = 0 → x5.toInt < y5_1.toInt ∨ y7_1.toInt = 0 from (by first | assumption | omega), show (0 : Int32).toInt = 0 → z_2.toInt = x11.toInt - 1 ∧ z_4.toInt = (f6 x11.toInt.toNat).toInt from (by first | assumption | omega), show (0 : Int32).toInt = 0 → x10.toInt - (f6 (x11.toInt - 1).toNat).toInt ≤ 24 from (by first | assumption | omega), show (0 : Int32).toInt = 0 → CellsX jn f3 0 (6 * x10.toInt) from (fun _ => hC), show (0 : Int32).toInt = 0 → ZX jn f3 0 x10.toInt from (fun _ => hZ0)⟩) hP hD hQ (Nat.le_of_ble_eq_true rfl) (Nat.le_of_ble_eq_true rfl) dX11_closes_143
      · refine lv_aload_n hx hb dX11_closes_105 rfl (lv_at hl 2 rfl) ?_
        refine lv_aload_n hx hb dX11_closes_106 rfl (lv_at hl 2 rfl) ?_
        refine va_get (D := D) (ci := 11) (v := .ref (q 4)) (C := RX11) (T := TX11) (N := 47) hx hb hts (by decide +kernel) hown hK.1 hP 0 rfl rfl 15 (by decide) (hts (.fieldLink RX11 30 "JugglingHallModel" "open" "[I") (by decide +kernel)) (fun _ h9 => h9) rfl dX11_closes_107 ?_
        refine lv_aload_n hx hb dX11_closes_110 rfl (lv_at hl 2 rfl) ?_
        refine va_get (D := D) (ci := 11) (v := .int z_2) (C := RX11) (T := TX11) (N := 47) hx hb hts (by decide +kernel) hown hK.1 hP 0 rfl rfl 20 (by decide) (hts (.fieldLink RX11 154 "JugglingHallModel" "depth" "I") (by decide +kernel)) (fun _ h9 => h9) rfl dX11_closes_111 ?_
        refine a_iald (f := f4) (u := (x11.toInt - 1)) hx hb hK.1 hP 5 0 rfl rfl dX11_closes_114 (e_2) (by omega) (fun z_13 q_13 e_13 => ?_)
        refine lv_aload_n hx hb dX11_closes_115 rfl (lv_at hl 2 rfl) ?_
        refine va_get (D := D) (ci := 11) (v := .ref (q 5)) (C := RX11) (T := TX11) (N := 47) hx hb hts (by decide +kernel) hown hK.1 hP 0 rfl rfl 16 (by decide) (hts (.fieldLink RX11 33 "JugglingHallModel" "digit" "[I") (by decide +kernel)) (fun _ h9 => h9) rfl dX11_closes_116 ?_
        refine lv_aload_n hx hb dX11_closes_119 rfl (lv_at hl 2 rfl) ?_
        refine va_get (D := D) (ci := 11) (v := .int z_2) (C := RX11) (T := TX11) (N := 47) hx hb hts (by decide +kernel) hown hK.1 hP 0 rfl rfl 20 (by decide) (hts (.fieldLink RX11 154 "JugglingHallModel" "depth" "I") (by decide +kernel)) (fun _ h9 => h9) rfl dX11_closes_120 ?_
        refine a_iald (f := f5) (u := (x11.toInt - 1)) hx hb hK.1 hP 6 0 rfl rfl dX11_closes_123 (e_2) (by omega) (fun z_14 q_14 e_14 => ?_)
        refine lv_aload_n hx hb dX11_closes_124 rfl (lv_at hl 2 rfl) ?_
        refine va_get (D := D) (ci := 11) (v := .int z_4) (C := RX11) (T := TX11) (N := 47) hx hb hts (by decide +kernel) hown hK.1 hP 0 rfl rfl 21 (by decide) (hts (.fieldLink RX11 176 "JugglingHallModel" "oneStart" "I") (by decide +kernel)) (fun _ h9 => h9) rfl dX11_closes_125 ?_
        refine lv_iload_n hx hb dX11_closes_128 rfl (lv_at hl 0 rfl) ?_
        have hfn : z_4.toInt + z_5.toInt = x10.toInt := by omega
        refine call_g (wr := []) (va_runV (As := [.int z_13, .int z_14, .int z_4, .int z_5]) (rest := []) ⟨hx, hb, hml, hown, hts⟩ (k_turns l D cI cR cM _  (by first | assumption | omega) (by first | assumption | omega) (by first | assumption | omega) (by first | assumption | omega) (by rw [hfn]; exact hC) (by rw [hfn]; exact hZ0)) (cwV 4 hts gX11_closes_X11_turns rfl rfl rfl (by decide +kernel) ⟨Nat.le_of_ble_eq_true rfl, Nat.le_of_ble_eq_true rfl⟩) (pre_V hK hP hD 0 11 rfl rfl) rfl rfl hl.1 rfl (lv_room (Nat.le_of_ble_eq_true rfl)) dX11_closes_129 ⟨Nat.le_of_ble_eq_true rfl, Nat.le_of_ble_eq_true rfl⟩) hP hD hS hA [0, 1, 2, 3, 4, 5, 6, 7, 8, 9, 10, 11, 12, 13, 14, 15, 16, 17, 18, 19, 20, 21, 22, 23, 24, 25] [] (by with_unfolding_all rfl) rfl (by decide) (by decide) (fun u_15 H locs hw hP hD hS => ?_)
        obtain ⟨r_15, g3_15, g7_15⟩ := u_15
        have hP : va_P D vwCl (mX mm q jn cI x0 x1 x2 x3 x4 y5_1 y6_1 y7_1 y8_1 x9 x10 z_2 z_4 x13 x14 x15 x16 x17 x18 x19 x20 f0 f1 f2 g3_15 f4 f5 f6 g7_15 f8 f9 f10 f11 f12 f13 f14 f15 f16 f17 f18 f19 f20 f21 f22 f23 f24) H := hP
        have hD : va_D A (mX mm q jn cI x0 x1 x2 x3 x4 y5_1 y6_1 y7_1 y8_1 x9 x10 z_2 z_4 x13 x14 x15 x16 x17 x18 x19 x20 f0 f1 f2 g3_15 f4 f5 f6 g7_15 f8 f9 f10 f11 f12 f13 f14 f15 f16 f17 f18 f19 f20 f21 f22 f23 f24) := hD
        obtain ⟨h_15, hC_15, hZ_15⟩ : (r_15.toInt = 0 ∨ r_15.toInt = 1) ∧ (CellsX jn g3_15 0 (6 * (z_4.toInt + z_5.toInt))) ∧ (ZX jn g3_15 0 (z_4.toInt + z_5.toInt)) := hw
        refine a_if_ne (u := r_15.toInt) (tgt := 142) hx hb dX11_closes_132 (by decide) (rfl) (fun c_16 => ?_) (fun c_16 => ?_)
        · refine lv_iconst (v := 0) hx hb dX11_closes_142 (by decide) ?_
          have hz_17 : (0 : Int32).toInt = 0 := by decide
          exact g_iret ((0 : Int32), y5_1, y6_1, y7_1, y8_1, x9, z_2, z_4, g3_15, g7_15) hx hb hr hlocks hS rfl (⟨show x5.toInt ≤ y5_1.toInt ∧ y5_1.toInt ≤ x2.toInt from (by first | assumption | omega), show TokOK y7_1 y8_1 from (by first | assumption | omega), show (0 : Int32).toInt = 0 → x5.toInt < y5_1.toInt ∨ y7_1.toInt = 0 from (by first | assumption | omega), show (0 : Int32).toInt = 0 → z_2.toInt = x11.toInt - 1 ∧ z_4.toInt = (f6 x11.toInt.toNat).toInt from (by first | assumption | omega), show (0 : Int32).toInt = 0 → x10.toInt - (f6 (x11.toInt - 1).toNat).toInt ≤ 24 from (by first | assumption | omega), show (0 : Int32).toInt = 0 → CellsX jn g3_15 0 (6 * x10.toInt) from (fun _ => by have h9 := hC_15; rw [hfn] at h9; exact h9), show (0 : Int32).toInt = 0 → ZX jn g3_15 0 x10.toInt from (fun _ => by have h9 := hZ_15; rw [hfn] at h9; exact h9)⟩) hP hD hQ (Nat.le_of_ble_eq_true rfl) (Nat.le_of_ble_eq_true rfl) dX11_closes_143
        · refine lv_aload_n hx hb dX11_closes_135 rfl (lv_at hl 2 rfl) ?_
          refine lv_iconst (v := 5) hx hb dX11_closes_136 (by decide) ?_
          refine lv_iload_n hx hb dX11_closes_137 rfl (lv_at hl 1 rfl) ?_
          have hz_18 : (5 : Int32).toInt = 5 := by decide
          refine call_g (wr := []) (va_runV (As := [.int 5, .int x6]) (rest := []) ⟨hx, hb, hml, hown, hts⟩ (k_fails l D cI cR cM _  ) (cwV 2 hts gX11_closes_X11_fails rfl rfl rfl (by decide +kernel) ⟨Nat.le_of_ble_eq_true rfl, Nat.le_of_ble_eq_true rfl⟩) (pre_V hK hP hD 0 11 rfl rfl) rfl rfl hl.1 rfl (lv_room (Nat.le_of_ble_eq_true rfl)) dX11_closes_138 ⟨Nat.le_of_ble_eq_true rfl, Nat.le_of_ble_eq_true rfl⟩) hP hD hS hA [0, 1, 2, 3, 4, 5, 6, 7, 8, 9, 10, 11, 12, 13, 14, 15, 16, 17, 18, 19, 20, 21, 22, 23, 24, 25] [] (by with_unfolding_all rfl) rfl (by decide) (by decide) (fun u_19 H locs hw hP hD hS => ?_)
          obtain ⟨r_19, y9_19⟩ := u_19
          have hP : va_P D vwCl (mX mm q jn cI x0 x1 x2 x3 x4 y5_1 y6_1 y7_1 y8_1 y9_19 x10 z_2 z_4 x13 x14 x15 x16 x17 x18 x19 x20 f0 f1 f2 g3_15 f4 f5 f6 g7_15 f8 f9 f10 f11 f12 f13 f14 f15 f16 f17 f18 f19 f20 f21 f22 f23 f24) H := hP
          have hD : va_D A (mX mm q jn cI x0 x1 x2 x3 x4 y5_1 y6_1 y7_1 y8_1 y9_19 x10 z_2 z_4 x13 x14 x15 x16 x17 x18 x19 x20 f0 f1 f2 g3_15 f4 f5 f6 g7_15 f8 f9 f10 f11 f12 f13 f14 f15 f16 f17 f18 f19 f20 f21 f22 f23 f24) := hD
          have hr_19 : (r_19.toInt = (5 : Int32).toInt) := hw
          exact g_iret (r_19, y5_1, y6_1, y7_1, y8_1, y9_19, z_2, z_4, g3_15, g7_15) hx hb hr hlocks hS rfl (⟨show x5.toInt ≤ y5_1.toInt ∧ y5_1.toInt ≤ x2.toInt from (by first | assumption | omega), show TokOK y7_1 y8_1 from (by first | assumption | omega), show r_19.toInt = 0 → x5.toInt < y5_1.toInt ∨ y7_1.toInt = 0 from (by first | assumption | omega), show r_19.toInt = 0 → z_2.toInt = x11.toInt - 1 ∧ z_4.toInt = (f6 x11.toInt.toNat).toInt from (by first | assumption | omega), show r_19.toInt = 0 → x10.toInt - (f6 (x11.toInt - 1).toNat).toInt ≤ 24 from (by first | assumption | omega), show r_19.toInt = 0 → CellsX jn g3_15 0 (6 * x10.toInt) from (fun q => absurd q (by omega)), show r_19.toInt = 0 → ZX jn g3_15 0 x10.toInt from (fun q => absurd q (by omega))⟩) hP hD hQ (Nat.le_of_ble_eq_true rfl) (Nat.le_of_ble_eq_true rfl) dX11_closes_141
    · refine lv_aload_n hx hb dX11_closes_74 rfl (lv_at hl 2 rfl) ?_
      refine lv_aload_n hx hb dX11_closes_75 rfl (lv_at hl 2 rfl) ?_
      refine va_get (D := D) (ci := 11) (v := .int z_4) (C := RX11) (T := TX11) (N := 47) hx hb hts (by decide +kernel) hown hK.1 hP 0 rfl rfl 21 (by decide) (hts (.fieldLink RX11 176 "JugglingHallModel" "oneStart" "I") (by decide +kernel)) (fun _ h9 => h9) rfl dX11_closes_76 ?_
      refine lv_iload_n hx hb dX11_closes_79 rfl (lv_at hl 0 rfl) ?_
      refine roP (va_runV (As := [.int z_4, .int z_5]) (rest := []) ⟨hx, hb, hml, hown, hts⟩ (k_isPlain l D cI cR cM _  (by first | assumption | omega) (by first | assumption | omega) (by first | assumption | omega)) (cwV 2 hts gX11_closes_X11_isPlain rfl rfl rfl (by decide +kernel) ⟨Nat.le_of_ble_eq_true rfl, Nat.le_of_ble_eq_true rfl⟩) (pre_V hK hP hD 0 11 rfl rfl) rfl rfl hl.1 rfl (lv_room (Nat.le_of_ble_eq_true rfl)) dX11_closes_80 ⟨Nat.le_of_ble_eq_true rfl, Nat.le_of_ble_eq_true rfl⟩) hS hA hP (fun r_20 H locs hw hP hS => ?_)
      have h_20 : (r_20.toInt = 0 ∨ r_20.toInt = 1) := hw
      refine a_if_ne (u := r_20.toInt) (tgt := 93) hx hb dX11_closes_83 (by decide) (rfl) (fun c_21 => ?_) (fun c_21 => ?_)
      · refine lv_aload_n hx hb dX11_closes_93 rfl (lv_at hl 2 rfl) ?_
        refine va_get (D := D) (ci := 11) (v := .ref (q 4)) (C := RX11) (T := TX11) (N := 47) hx hb hts (by decide +kernel) hown hK.1 hP 0 rfl rfl 15 (by decide) (hts (.fieldLink RX11 30 "JugglingHallModel" "open" "[I") (by decide +kernel)) (fun _ h9 => h9) rfl dX11_closes_94 ?_
        refine lv_aload_n hx hb dX11_closes_97 rfl (lv_at hl 2 rfl) ?_
        refine va_get (D := D) (ci := 11) (v := .int z_2) (C := RX11) (T := TX11) (N := 47) hx hb hts (by decide +kernel) hown hK.1 hP 0 rfl rfl 20 (by decide) (hts (.fieldLink RX11 154 "JugglingHallModel" "depth" "I") (by decide +kernel)) (fun _ h9 => h9) rfl dX11_closes_98 ?_
        refine a_iald (f := f4) (u := (x11.toInt - 1)) hx hb hK.1 hP 5 0 rfl rfl dX11_closes_101 (e_2) (by omega) (fun z_22 q_22 e_22 => ?_)
        refine a_if_le (u := z_22.toInt) (tgt := 142) hx hb dX11_closes_102 (by decide) (rfl) (fun c_23 => ?_) (fun c_23 => ?_)
        · refine lv_iconst (v := 0) hx hb dX11_closes_142 (by decide) ?_
          have hz_24 : (0 : Int32).toInt = 0 := by decide
          exact g_iret ((0 : Int32), y5_1, y6_1, y7_1, y8_1, x9, z_2, z_4, f3, f7) hx hb hr hlocks hS rfl (⟨show x5.toInt ≤ y5_1.toInt ∧ y5_1.toInt ≤ x2.toInt from (by first | assumption | omega), show TokOK y7_1 y8_1 from (by first | assumption | omega), show (0 : Int32).toInt = 0 → x5.toInt < y5_1.toInt ∨ y7_1.toInt = 0 from (by first | assumption | omega), show (0 : Int32).toInt = 0 → z_2.toInt = x11.toInt - 1 ∧ z_4.toInt = (f6 x11.toInt.toNat).toInt from (by first | assumption | omega), show (0 : Int32).toInt = 0 → x10.toInt - (f6 (x11.toInt - 1).toNat).toInt ≤ 24 from (by first | assumption | omega), show (0 : Int32).toInt = 0 → CellsX jn f3 0 (6 * x10.toInt) from (fun _ => hC), show (0 : Int32).toInt = 0 → ZX jn f3 0 x10.toInt from (fun _ => hZ0)⟩) hP hD hQ (Nat.le_of_ble_eq_true rfl) (Nat.le_of_ble_eq_true rfl) dX11_closes_143
        · refine lv_aload_n hx hb dX11_closes_105 rfl (lv_at hl 2 rfl) ?_
          refine lv_aload_n hx hb dX11_closes_106 rfl (lv_at hl 2 rfl) ?_
          refine va_get (D := D) (ci := 11) (v := .ref (q 4)) (C := RX11) (T := TX11) (N := 47) hx hb hts (by decide +kernel) hown hK.1 hP 0 rfl rfl 15 (by decide) (hts (.fieldLink RX11 30 "JugglingHallModel" "open" "[I") (by decide +kernel)) (fun _ h9 => h9) rfl dX11_closes_107 ?_
          refine lv_aload_n hx hb dX11_closes_110 rfl (lv_at hl 2 rfl) ?_
          refine va_get (D := D) (ci := 11) (v := .int z_2) (C := RX11) (T := TX11) (N := 47) hx hb hts (by decide +kernel) hown hK.1 hP 0 rfl rfl 20 (by decide) (hts (.fieldLink RX11 154 "JugglingHallModel" "depth" "I") (by decide +kernel)) (fun _ h9 => h9) rfl dX11_closes_111 ?_
          refine a_iald (f := f4) (u := (x11.toInt - 1)) hx hb hK.1 hP 5 0 rfl rfl dX11_closes_114 (e_2) (by omega) (fun z_25 q_25 e_25 => ?_)
          refine lv_aload_n hx hb dX11_closes_115 rfl (lv_at hl 2 rfl) ?_
          refine va_get (D := D) (ci := 11) (v := .ref (q 5)) (C := RX11) (T := TX11) (N := 47) hx hb hts (by decide +kernel) hown hK.1 hP 0 rfl rfl 16 (by decide) (hts (.fieldLink RX11 33 "JugglingHallModel" "digit" "[I") (by decide +kernel)) (fun _ h9 => h9) rfl dX11_closes_116 ?_
          refine lv_aload_n hx hb dX11_closes_119 rfl (lv_at hl 2 rfl) ?_
          refine va_get (D := D) (ci := 11) (v := .int z_2) (C := RX11) (T := TX11) (N := 47) hx hb hts (by decide +kernel) hown hK.1 hP 0 rfl rfl 20 (by decide) (hts (.fieldLink RX11 154 "JugglingHallModel" "depth" "I") (by decide +kernel)) (fun _ h9 => h9) rfl dX11_closes_120 ?_
          refine a_iald (f := f5) (u := (x11.toInt - 1)) hx hb hK.1 hP 6 0 rfl rfl dX11_closes_123 (e_2) (by omega) (fun z_26 q_26 e_26 => ?_)
          refine lv_aload_n hx hb dX11_closes_124 rfl (lv_at hl 2 rfl) ?_
          refine va_get (D := D) (ci := 11) (v := .int z_4) (C := RX11) (T := TX11) (N := 47) hx hb hts (by decide +kernel) hown hK.1 hP 0 rfl rfl 21 (by decide) (hts (.fieldLink RX11 176 "JugglingHallModel" "oneStart" "I") (by decide +kernel)) (fun _ h9 => h9) rfl dX11_closes_125 ?_
          refine lv_iload_n hx hb dX11_closes_128 rfl (lv_at hl 0 rfl) ?_
          have hfn : z_4.toInt + z_5.toInt = x10.toInt := by omega
          refine call_g (wr := []) (va_runV (As := [.int z_25, .int z_26, .int z_4, .int z_5]) (rest := []) ⟨hx, hb, hml, hown, hts⟩ (k_turns l D cI cR cM _  (by first | assumption | omega) (by first | assumption | omega) (by first | assumption | omega) (by first | assumption | omega) (by rw [hfn]; exact hC) (by rw [hfn]; exact hZ0)) (cwV 4 hts gX11_closes_X11_turns rfl rfl rfl (by decide +kernel) ⟨Nat.le_of_ble_eq_true rfl, Nat.le_of_ble_eq_true rfl⟩) (pre_V hK hP hD 0 11 rfl rfl) rfl rfl hl.1 rfl (lv_room (Nat.le_of_ble_eq_true rfl)) dX11_closes_129 ⟨Nat.le_of_ble_eq_true rfl, Nat.le_of_ble_eq_true rfl⟩) hP hD hS hA [0, 1, 2, 3, 4, 5, 6, 7, 8, 9, 10, 11, 12, 13, 14, 15, 16, 17, 18, 19, 20, 21, 22, 23, 24, 25] [] (by with_unfolding_all rfl) rfl (by decide) (by decide) (fun u_27 H locs hw hP hD hS => ?_)
          obtain ⟨r_27, g3_27, g7_27⟩ := u_27
          have hP : va_P D vwCl (mX mm q jn cI x0 x1 x2 x3 x4 y5_1 y6_1 y7_1 y8_1 x9 x10 z_2 z_4 x13 x14 x15 x16 x17 x18 x19 x20 f0 f1 f2 g3_27 f4 f5 f6 g7_27 f8 f9 f10 f11 f12 f13 f14 f15 f16 f17 f18 f19 f20 f21 f22 f23 f24) H := hP
          have hD : va_D A (mX mm q jn cI x0 x1 x2 x3 x4 y5_1 y6_1 y7_1 y8_1 x9 x10 z_2 z_4 x13 x14 x15 x16 x17 x18 x19 x20 f0 f1 f2 g3_27 f4 f5 f6 g7_27 f8 f9 f10 f11 f12 f13 f14 f15 f16 f17 f18 f19 f20 f21 f22 f23 f24) := hD
          obtain ⟨h_27, hC_27, hZ_27⟩ : (r_27.toInt = 0 ∨ r_27.toInt = 1) ∧ (CellsX jn g3_27 0 (6 * (z_4.toInt + z_5.toInt))) ∧ (ZX jn g3_27 0 (z_4.toInt + z_5.toInt)) := hw
          refine a_if_ne (u := r_27.toInt) (tgt := 142) hx hb dX11_closes_132 (by decide) (rfl) (fun c_28 => ?_) (fun c_28 => ?_)
          · refine lv_iconst (v := 0) hx hb dX11_closes_142 (by decide) ?_
            have hz_29 : (0 : Int32).toInt = 0 := by decide
            exact g_iret ((0 : Int32), y5_1, y6_1, y7_1, y8_1, x9, z_2, z_4, g3_27, g7_27) hx hb hr hlocks hS rfl (⟨show x5.toInt ≤ y5_1.toInt ∧ y5_1.toInt ≤ x2.toInt from (by first | assumption | omega), show TokOK y7_1 y8_1 from (by first | assumption | omega), show (0 : Int32).toInt = 0 → x5.toInt < y5_1.toInt ∨ y7_1.toInt = 0 from (by first | assumption | omega), show (0 : Int32).toInt = 0 → z_2.toInt = x11.toInt - 1 ∧ z_4.toInt = (f6 x11.toInt.toNat).toInt from (by first | assumption | omega), show (0 : Int32).toInt = 0 → x10.toInt - (f6 (x11.toInt - 1).toNat).toInt ≤ 24 from (by first | assumption | omega), show (0 : Int32).toInt = 0 → CellsX jn g3_27 0 (6 * x10.toInt) from (fun _ => by have h9 := hC_27; rw [hfn] at h9; exact h9), show (0 : Int32).toInt = 0 → ZX jn g3_27 0 x10.toInt from (fun _ => by have h9 := hZ_27; rw [hfn] at h9; exact h9)⟩) hP hD hQ (Nat.le_of_ble_eq_true rfl) (Nat.le_of_ble_eq_true rfl) dX11_closes_143
          · refine lv_aload_n hx hb dX11_closes_135 rfl (lv_at hl 2 rfl) ?_
            refine lv_iconst (v := 5) hx hb dX11_closes_136 (by decide) ?_
            refine lv_iload_n hx hb dX11_closes_137 rfl (lv_at hl 1 rfl) ?_
            have hz_30 : (5 : Int32).toInt = 5 := by decide
            refine call_g (wr := []) (va_runV (As := [.int 5, .int x6]) (rest := []) ⟨hx, hb, hml, hown, hts⟩ (k_fails l D cI cR cM _  ) (cwV 2 hts gX11_closes_X11_fails rfl rfl rfl (by decide +kernel) ⟨Nat.le_of_ble_eq_true rfl, Nat.le_of_ble_eq_true rfl⟩) (pre_V hK hP hD 0 11 rfl rfl) rfl rfl hl.1 rfl (lv_room (Nat.le_of_ble_eq_true rfl)) dX11_closes_138 ⟨Nat.le_of_ble_eq_true rfl, Nat.le_of_ble_eq_true rfl⟩) hP hD hS hA [0, 1, 2, 3, 4, 5, 6, 7, 8, 9, 10, 11, 12, 13, 14, 15, 16, 17, 18, 19, 20, 21, 22, 23, 24, 25] [] (by with_unfolding_all rfl) rfl (by decide) (by decide) (fun u_31 H locs hw hP hD hS => ?_)
            obtain ⟨r_31, y9_31⟩ := u_31
            have hP : va_P D vwCl (mX mm q jn cI x0 x1 x2 x3 x4 y5_1 y6_1 y7_1 y8_1 y9_31 x10 z_2 z_4 x13 x14 x15 x16 x17 x18 x19 x20 f0 f1 f2 g3_27 f4 f5 f6 g7_27 f8 f9 f10 f11 f12 f13 f14 f15 f16 f17 f18 f19 f20 f21 f22 f23 f24) H := hP
            have hD : va_D A (mX mm q jn cI x0 x1 x2 x3 x4 y5_1 y6_1 y7_1 y8_1 y9_31 x10 z_2 z_4 x13 x14 x15 x16 x17 x18 x19 x20 f0 f1 f2 g3_27 f4 f5 f6 g7_27 f8 f9 f10 f11 f12 f13 f14 f15 f16 f17 f18 f19 f20 f21 f22 f23 f24) := hD
            have hr_31 : (r_31.toInt = (5 : Int32).toInt) := hw
            exact g_iret (r_31, y5_1, y6_1, y7_1, y8_1, y9_31, z_2, z_4, g3_27, g7_27) hx hb hr hlocks hS rfl (⟨show x5.toInt ≤ y5_1.toInt ∧ y5_1.toInt ≤ x2.toInt from (by first | assumption | omega), show TokOK y7_1 y8_1 from (by first | assumption | omega), show r_31.toInt = 0 → x5.toInt < y5_1.toInt ∨ y7_1.toInt = 0 from (by first | assumption | omega), show r_31.toInt = 0 → z_2.toInt = x11.toInt - 1 ∧ z_4.toInt = (f6 x11.toInt.toNat).toInt from (by first | assumption | omega), show r_31.toInt = 0 → x10.toInt - (f6 (x11.toInt - 1).toNat).toInt ≤ 24 from (by first | assumption | omega), show r_31.toInt = 0 → CellsX jn g3_27 0 (6 * x10.toInt) from (fun q => absurd q (by omega)), show r_31.toInt = 0 → ZX jn g3_27 0 x10.toInt from (fun q => absurd q (by omega))⟩) hP hD hQ (Nat.le_of_ble_eq_true rfl) (Nat.le_of_ble_eq_true rfl) dX11_closes_141
      · refine lv_aload_n hx hb dX11_closes_86 rfl (lv_at hl 2 rfl) ?_
        refine lv_iconst (v := 5) hx hb dX11_closes_87 (by decide) ?_
        refine lv_iload_n hx hb dX11_closes_88 rfl (lv_at hl 1 rfl) ?_
        have hz_32 : (5 : Int32).toInt = 5 := by decide
        refine call_g (wr := []) (va_runV (As := [.int 5, .int x6]) (rest := []) ⟨hx, hb, hml, hown, hts⟩ (k_fails l D cI cR cM _  ) (cwV 2 hts gX11_closes_X11_fails rfl rfl rfl (by decide +kernel) ⟨Nat.le_of_ble_eq_true rfl, Nat.le_of_ble_eq_true rfl⟩) (pre_V hK hP hD 0 11 rfl rfl) rfl rfl hl.1 rfl (lv_room (Nat.le_of_ble_eq_true rfl)) dX11_closes_89 ⟨Nat.le_of_ble_eq_true rfl, Nat.le_of_ble_eq_true rfl⟩) hP hD hS hA [0, 1, 2, 3, 4, 5, 6, 7, 8, 9, 10, 11, 12, 13, 14, 15, 16, 17, 18, 19, 20, 21, 22, 23, 24, 25] [] (by with_unfolding_all rfl) rfl (by decide) (by decide) (fun u_33 H locs hw hP hD hS => ?_)
        obtain ⟨r_33, y9_33⟩ := u_33
        have hP : va_P D vwCl (mX mm q jn cI x0 x1 x2 x3 x4 y5_1 y6_1 y7_1 y8_1 y9_33 x10 z_2 z_4 x13 x14 x15 x16 x17 x18 x19 x20 f0 f1 f2 f3 f4 f5 f6 f7 f8 f9 f10 f11 f12 f13 f14 f15 f16 f17 f18 f19 f20 f21 f22 f23 f24) H := hP
        have hD : va_D A (mX mm q jn cI x0 x1 x2 x3 x4 y5_1 y6_1 y7_1 y8_1 y9_33 x10 z_2 z_4 x13 x14 x15 x16 x17 x18 x19 x20 f0 f1 f2 f3 f4 f5 f6 f7 f8 f9 f10 f11 f12 f13 f14 f15 f16 f17 f18 f19 f20 f21 f22 f23 f24) := hD
        have hr_33 : (r_33.toInt = (5 : Int32).toInt) := hw
        exact g_iret (r_33, y5_1, y6_1, y7_1, y8_1, y9_33, z_2, z_4, f3, f7) hx hb hr hlocks hS rfl (⟨show x5.toInt ≤ y5_1.toInt ∧ y5_1.toInt ≤ x2.toInt from (by first | assumption | omega), show TokOK y7_1 y8_1 from (by first | assumption | omega), show r_33.toInt = 0 → x5.toInt < y5_1.toInt ∨ y7_1.toInt = 0 from (by first | assumption | omega), show r_33.toInt = 0 → z_2.toInt = x11.toInt - 1 ∧ z_4.toInt = (f6 x11.toInt.toNat).toInt from (by first | assumption | omega), show r_33.toInt = 0 → x10.toInt - (f6 (x11.toInt - 1).toNat).toInt ≤ 24 from (by first | assumption | omega), show r_33.toInt = 0 → CellsX jn f3 0 (6 * x10.toInt) from (fun q => absurd q (by omega)), show r_33.toInt = 0 → ZX jn f3 0 x10.toInt from (fun q => absurd q (by omega))⟩) hP hD hQ (Nat.le_of_ble_eq_true rfl) (Nat.le_of_ble_eq_true rfl) dX11_closes_92
  · refine lv_aload_n hx hb dX11_closes_53 rfl (lv_at hl 2 rfl) ?_
    refine lv_iconst (v := 4) hx hb dX11_closes_54 (by decide) ?_
    refine lv_iload_n hx hb dX11_closes_55 rfl (lv_at hl 1 rfl) ?_
    have hz_34 : (4 : Int32).toInt = 4 := by decide
    refine call_g (wr := []) (va_runV (As := [.int 4, .int x6]) (rest := []) ⟨hx, hb, hml, hown, hts⟩ (k_fails l D cI cR cM _  ) (cwV 2 hts gX11_closes_X11_fails rfl rfl rfl (by decide +kernel) ⟨Nat.le_of_ble_eq_true rfl, Nat.le_of_ble_eq_true rfl⟩) (pre_V hK hP hD 0 11 rfl rfl) rfl rfl hl.1 rfl (lv_room (Nat.le_of_ble_eq_true rfl)) dX11_closes_56 ⟨Nat.le_of_ble_eq_true rfl, Nat.le_of_ble_eq_true rfl⟩) hP hD hS hA [0, 1, 2, 3, 4, 5, 6, 7, 8, 9, 10, 11, 12, 13, 14, 15, 16, 17, 18, 19, 20, 21, 22, 23, 24, 25] [] (by with_unfolding_all rfl) rfl (by decide) (by decide) (fun u_35 H locs hw hP hD hS => ?_)
    obtain ⟨r_35, y9_35⟩ := u_35
    have hP : va_P D vwCl (mX mm q jn cI x0 x1 x2 x3 x4 y5_1 y6_1 y7_1 y8_1 y9_35 x10 z_2 z_4 x13 x14 x15 x16 x17 x18 x19 x20 f0 f1 f2 f3 f4 f5 f6 f7 f8 f9 f10 f11 f12 f13 f14 f15 f16 f17 f18 f19 f20 f21 f22 f23 f24) H := hP
    have hD : va_D A (mX mm q jn cI x0 x1 x2 x3 x4 y5_1 y6_1 y7_1 y8_1 y9_35 x10 z_2 z_4 x13 x14 x15 x16 x17 x18 x19 x20 f0 f1 f2 f3 f4 f5 f6 f7 f8 f9 f10 f11 f12 f13 f14 f15 f16 f17 f18 f19 f20 f21 f22 f23 f24) := hD
    have hr_35 : (r_35.toInt = (4 : Int32).toInt) := hw
    exact g_iret (r_35, y5_1, y6_1, y7_1, y8_1, y9_35, z_2, z_4, f3, f7) hx hb hr hlocks hS rfl (⟨show x5.toInt ≤ y5_1.toInt ∧ y5_1.toInt ≤ x2.toInt from (by first | assumption | omega), show TokOK y7_1 y8_1 from (by first | assumption | omega), show r_35.toInt = 0 → x5.toInt < y5_1.toInt ∨ y7_1.toInt = 0 from (by first | assumption | omega), show r_35.toInt = 0 → z_2.toInt = x11.toInt - 1 ∧ z_4.toInt = (f6 x11.toInt.toNat).toInt from (by first | assumption | omega), show r_35.toInt = 0 → x10.toInt - (f6 (x11.toInt - 1).toNat).toInt ≤ 24 from (by first | assumption | omega), show r_35.toInt = 0 → CellsX jn f3 0 (6 * x10.toInt) from (fun q => absurd q (by omega)), show r_35.toInt = 0 → ZX jn f3 0 x10.toInt from (fun q => absurd q (by omega))⟩) hP hD hQ (Nat.le_of_ble_eq_true rfl) (Nat.le_of_ble_eq_true rfl) dX11_closes_59
