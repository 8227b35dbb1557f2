theorem dX11_times_0 : decode cX11_times 0 = .ok (.aload_n 0, 1) := by decide +kernel
theorem dX11_times_1 : decode cX11_times 1 = .ok (.invokevirtual 163, 3) := by decide +kernel
theorem dX11_times_4 : decode cX11_times 4 = .ok (.aload_n 0, 1) := by decide +kernel
theorem dX11_times_5 : decode cX11_times 5 = .ok (.getfield 131, 3) := by decide +kernel
theorem dX11_times_8 : decode cX11_times 8 = .ok (.iconst 1, 1) := by decide +kernel
theorem dX11_times_9 : decode cX11_times 9 = .ok (.if_icmp .eq 13, 3) := by decide +kernel
theorem dX11_times_12 : decode cX11_times 12 = .ok (.aload_n 0, 1) := by decide +kernel
theorem dX11_times_13 : decode cX11_times 13 = .ok (.iconst 1, 1) := by decide +kernel
theorem dX11_times_14 : decode cX11_times 14 = .ok (.aload_n 0, 1) := by decide +kernel
theorem dX11_times_15 : decode cX11_times 15 = .ok (.getfield 120, 3) := by decide +kernel
theorem dX11_times_18 : decode cX11_times 18 = .ok (.invokevirtual 157, 3) := by decide +kernel
theorem dX11_times_21 : decode cX11_times 21 = .ok (.ireturn, 1) := by decide +kernel
theorem dX11_times_22 : decode cX11_times 22 = .ok (.aload_n 0, 1) := by decide +kernel
theorem dX11_times_23 : decode cX11_times 23 = .ok (.getfield 138, 3) := by decide +kernel
theorem dX11_times_26 : decode cX11_times 26 = .ok (.ifCond .ne 13, 3) := by decide +kernel
theorem dX11_times_29 : decode cX11_times 29 = .ok (.aload_n 0, 1) := by decide +kernel
theorem dX11_times_30 : decode cX11_times 30 = .ok (.iconst 2, 1) := by decide +kernel
theorem dX11_times_31 : decode cX11_times 31 = .ok (.aload_n 0, 1) := by decide +kernel
theorem dX11_times_32 : decode cX11_times 32 = .ok (.getfield 120, 3) := by decide +kernel
theorem dX11_times_35 : decode cX11_times 35 = .ok (.invokevirtual 157, 3) := by decide +kernel
theorem dX11_times_38 : decode cX11_times 38 = .ok (.ireturn, 1) := by decide +kernel
theorem dX11_times_39 : decode cX11_times 39 = .ok (.aload_n 0, 1) := by decide +kernel
theorem dX11_times_40 : decode cX11_times 40 = .ok (.getfield 151, 3) := by decide +kernel
theorem dX11_times_43 : decode cX11_times 43 = .ok (.aload_n 0, 1) := by decide +kernel
theorem dX11_times_44 : decode cX11_times 44 = .ok (.getfield 176, 3) := by decide +kernel
theorem dX11_times_47 : decode cX11_times 47 = .ok (.isub, 1) := by decide +kernel
theorem dX11_times_48 : decode cX11_times 48 = .ok (.istore_n 1, 1) := by decide +kernel
theorem dX11_times_49 : decode cX11_times 49 = .ok (.aload_n 0, 1) := by decide +kernel
theorem dX11_times_50 : decode cX11_times 50 = .ok (.invokevirtual 182, 3) := by decide +kernel
theorem dX11_times_53 : decode cX11_times 53 = .ok (.aload_n 0, 1) := by decide +kernel
theorem dX11_times_54 : decode cX11_times 54 = .ok (.getfield 138, 3) := by decide +kernel
theorem dX11_times_57 : decode cX11_times 57 = .ok (.iconst 1, 1) := by decide +kernel
theorem dX11_times_58 : decode cX11_times 58 = .ok (.isub, 1) := by decide +kernel
theorem dX11_times_59 : decode cX11_times 59 = .ok (.iload_n 1, 1) := by decide +kernel
theorem dX11_times_60 : decode cX11_times 60 = .ok (.imul, 1) := by decide +kernel
theorem dX11_times_61 : decode cX11_times 61 = .ok (.iadd, 1) := by decide +kernel
theorem dX11_times_62 : decode cX11_times 62 = .ok (.bipush 24, 2) := by decide +kernel
theorem dX11_times_64 : decode cX11_times 64 = .ok (.if_icmp .le 13, 3) := by decide +kernel
theorem dX11_times_67 : decode cX11_times 67 = .ok (.aload_n 0, 1) := by decide +kernel
theorem dX11_times_68 : decode cX11_times 68 = .ok (.iconst 4, 1) := by decide +kernel
theorem dX11_times_69 : decode cX11_times 69 = .ok (.aload_n 0, 1) := by decide +kernel
theorem dX11_times_70 : decode cX11_times 70 = .ok (.getfield 120, 3) := by decide +kernel
theorem dX11_times_73 : decode cX11_times 73 = .ok (.invokevirtual 157, 3) := by decide +kernel
theorem dX11_times_76 : decode cX11_times 76 = .ok (.ireturn, 1) := by decide +kernel
theorem dX11_times_77 : decode cX11_times 77 = .ok (.iconst 0, 1) := by decide +kernel
theorem dX11_times_78 : decode cX11_times 78 = .ok (.istore_n 2, 1) := by decide +kernel
theorem dX11_times_79 : decode cX11_times 79 = .ok (.iload_n 2, 1) := by decide +kernel
theorem dX11_times_80 : decode cX11_times 80 = .ok (.bipush 6, 2) := by decide +kernel
theorem dX11_times_82 : decode cX11_times 82 = .ok (.aload_n 0, 1) := by decide +kernel
theorem dX11_times_83 : decode cX11_times 83 = .ok (.getfield 138, 3) := by decide +kernel
theorem dX11_times_86 : decode cX11_times 86 = .ok (.iconst 1, 1) := by decide +kernel
theorem dX11_times_87 : decode cX11_times 87 = .ok (.isub, 1) := by decide +kernel
theorem dX11_times_88 : decode cX11_times 88 = .ok (.imul, 1) := by decide +kernel
theorem dX11_times_89 : decode cX11_times 89 = .ok (.iload_n 1, 1) := by decide +kernel
theorem dX11_times_90 : decode cX11_times 90 = .ok (.imul, 1) := by decide +kernel
theorem dX11_times_91 : decode cX11_times 91 = .ok (.if_icmp .ge 37, 3) := by decide +kernel
theorem dX11_times_94 : decode cX11_times 94 = .ok (.aload_n 0, 1) := by decide +kernel
theorem dX11_times_95 : decode cX11_times 95 = .ok (.getfield 27, 3) := by decide +kernel
theorem dX11_times_98 : decode cX11_times 98 = .ok (.bipush 6, 2) := by decide +kernel
theorem dX11_times_100 : decode cX11_times 100 = .ok (.aload_n 0, 1) := by decide +kernel
theorem dX11_times_101 : decode cX11_times 101 = .ok (.getfield 151, 3) := by decide +kernel
theorem dX11_times_104 : decode cX11_times 104 = .ok (.imul, 1) := by decide +kernel
theorem dX11_times_105 : decode cX11_times 105 = .ok (.iload_n 2, 1) := by decide +kernel
theorem dX11_times_106 : decode cX11_times 106 = .ok (.iadd, 1) := by decide +kernel
theorem dX11_times_107 : decode cX11_times 107 = .ok (.aload_n 0, 1) := by decide +kernel
theorem dX11_times_108 : decode cX11_times 108 = .ok (.getfield 27, 3) := by decide +kernel
theorem dX11_times_111 : decode cX11_times 111 = .ok (.bipush 6, 2) := by decide +kernel
theorem dX11_times_113 : decode cX11_times 113 = .ok (.aload_n 0, 1) := by decide +kernel
theorem dX11_times_114 : decode cX11_times 114 = .ok (.getfield 176, 3) := by decide +kernel
theorem dX11_times_117 : decode cX11_times 117 = .ok (.imul, 1) := by decide +kernel
theorem dX11_times_118 : decode cX11_times 118 = .ok (.iload_n 2, 1) := by decide +kernel
theorem dX11_times_119 : decode cX11_times 119 = .ok (.iadd, 1) := by decide +kernel
theorem dX11_times_120 : decode cX11_times 120 = .ok (.iaload, 1) := by decide +kernel
theorem dX11_times_121 : decode cX11_times 121 = .ok (.iastore, 1) := by decide +kernel
theorem dX11_times_122 : decode cX11_times 122 = .ok (.iinc 2 1, 3) := by decide +kernel
theorem dX11_times_125 : decode cX11_times 125 = .ok (.goto (-46), 3) := by decide +kernel
theorem dX11_times_128 : decode cX11_times 128 = .ok (.aload_n 0, 1) := by decide +kernel
theorem dX11_times_129 : decode cX11_times 129 = .ok (.dup, 1) := by decide +kernel
theorem dX11_times_130 : decode cX11_times 130 = .ok (.getfield 151, 3) := by decide +kernel
theorem dX11_times_133 : decode cX11_times 133 = .ok (.aload_n 0, 1) := by decide +kernel
theorem dX11_times_134 : decode cX11_times 134 = .ok (.getfield 138, 3) := by decide +kernel
theorem dX11_times_137 : decode cX11_times 137 = .ok (.iconst 1, 1) := by decide +kernel
theorem dX11_times_138 : decode cX11_times 138 = .ok (.isub, 1) := by decide +kernel
theorem dX11_times_139 : decode cX11_times 139 = .ok (.iload_n 1, 1) := by decide +kernel
theorem dX11_times_140 : decode cX11_times 140 = .ok (.imul, 1) := by decide +kernel
theorem dX11_times_141 : decode cX11_times 141 = .ok (.iadd, 1) := by decide +kernel
theorem dX11_times_142 : decode cX11_times 142 = .ok (.putfield 151, 3) := by decide +kernel
theorem dX11_times_145 : decode cX11_times 145 = .ok (.aload_n 0, 1) := by decide +kernel
theorem dX11_times_146 : decode cX11_times 146 = .ok (.invokevirtual 163, 3) := by decide +kernel
theorem dX11_times_149 : decode cX11_times 149 = .ok (.iconst 0, 1) := by decide +kernel
theorem dX11_times_150 : decode cX11_times 150 = .ok (.ireturn, 1) := by decide +kernel
set_option maxRecDepth 100000 in
set_option maxHeartbeats 4000000 in
theorem ggX11_times_X11_nextToken : GoodIn wsX11_times wsX11_nextToken := goodIn_r _ [11, 12, 2, 1, 3, 13, 14, 15, 10, 16, 17, 18, 19, 20, 21, 22, 23, 24, 25, 26, 27, 28, 29, 30, 31, 32, 33, 34, 35, 47, 48, 49, 50, 51, 52, 53, 54, 55, 56, 57, 58, 59, 60, 61, 62, 63, 64, 65, 66, 67, 68, 69, 70, 71, 72, 73, 74, 75, 76, 77, 78, 79, 80, 81, 82, 83, 84, 85, 86, 87, 88, 89, 90, 91, 92, 93] (by with_unfolding_all rfl) (by decide +kernel)
set_option maxRecDepth 20000 in
theorem gX11_times_X11_nextToken : GoodIn wsX11_times (wsV RX11 163 RX11 yX11_nextToken wsX11_nextToken) := goodIn_app (goodIn_of _ (by decide +kernel)) ggX11_times_X11_nextToken
set_option maxRecDepth 20000 in
theorem ggX11_times_X11_fails : GoodIn wsX11_times wsX11_fails := goodIn_r _ [39, 40, 47, 48, 49, 50, 51, 52, 53, 54, 55, 56, 57, 58, 59, 60, 61, 62, 63, 64, 65, 66, 67, 68, 69, 70, 71, 72, 73, 74, 75, 76, 77, 78, 79, 80, 81, 82, 83, 84, 85, 86, 87, 88, 89, 90, 91, 92, 93] (by decide +kernel) (by decide +kernel)
set_option maxRecDepth 20000 in
theorem gX11_times_X11_fails : GoodIn wsX11_times (wsV RX11 157 RX11 yX11_fails wsX11_fails) := goodIn_app (goodIn_of _ (by decide +kernel)) ggX11_times_X11_fails
set_option maxRecDepth 20000 in
theorem ggX11_times_X11_many : GoodIn wsX11_times wsX11_many := goodIn_r _ [44, 4, 45, 46, 47, 48, 49, 50, 51, 52, 53, 54, 55, 56, 57, 58, 59, 60, 61, 62, 63, 64, 65, 66, 67, 68, 69, 70, 71, 72, 73, 74, 75, 76, 77, 78, 79, 80, 81, 82, 83, 84, 85, 86, 87, 88, 89, 90, 91, 92, 93] (by decide +kernel) (by decide +kernel)
set_option maxRecDepth 20000 in
theorem gX11_times_X11_many : GoodIn wsX11_times (wsV RX11 182 RX11 yX11_many wsX11_many) := goodIn_app (goodIn_of _ (by decide +kernel)) ggX11_times_X11_many
theorem mul9 {a b : Int} (ha : 0 ≤ a ∧ a ≤ 8) (hb : 0 ≤ b) : 0 ≤ a * b ∧ a * b ≤ 8 * b := ⟨Int.mul_nonneg ha.1 hb, Int.mul_le_mul_of_nonneg_right ha.2 hb⟩
set_option maxRecDepth 100000 in
set_option maxHeartbeats 4000000 in
theorem k_times (l : Launch) (D : va_G) (cI cR cM : ClassId) (sz : Nat) {jn mm : Nat} {q : Nat → Nat} {x0 x1 x2 x3 x4 x5 x6 x7 x8 x9 x10 x11 x12 x13 x14 x15 x16 x17 x18 x19 x20 : Int32} {f0 f1 f2 f3 f4 f5 f6 f7 f8 f9 f10 f11 f12 f13 f14 f15 f16 f17 f18 f19 f20 f21 f22 f23 f24 : Nat → Int32}  (ht : 0 ≤ x2.toInt ∧ x2.toInt ≤ 300) (h5 : 0 ≤ x5.toInt ∧ x5.toInt ≤ x2.toInt) (hT : TokOK x7 x8) (hj : 1 ≤ jn ∧ jn ≤ 3) (h11 : 0 ≤ x11.toInt ∧ x11.toInt ≤ 5) (hs : 0 ≤ (f6 x11.toInt.toNat).toInt ∧ (f6 x11.toInt.toNat).toInt ≤ x10.toInt) (h10 : 0 ≤ x10.toInt ∧ x10.toInt ≤ 150) (hC : CellsX jn f3 0 (6 * x10.toInt)) (h12 : 0 ≤ x12.toInt ∧ x12.toInt ≤ x10.toInt) (hm0 : x10.toInt - (f6 x11.toInt.toNat).toInt ≤ 24) : Met l yX11_times wsX11_times ({ frames := 4, cells := 0, slots := 0, locals := 88 }) (P0 D cI cR cM [.ref mm] sz (mX mm q jn cI x0 x1 x2 x3 x4 x5 x6 x7 x8 x9 x10 x11 x12 x13 x14 x15 x16 x17 x18 x19 x20 f0 f1 f2 f3 f4 f5 f6 f7 f8 f9 f10 f11 f12 f13 f14 f15 f16 f17 f18 f19 f20 f21 f22 f23 f24)) (QG (S := Int32 × Int32 × Int32 × Int32 × Int32 × Int32 × Int32 × (Nat → Int32)) (fun u => some (.int u.1)) (fun u => mX mm q jn cI x0 x1 x2 x3 x4 (u.2.1) (u.2.2.1) (u.2.2.2.1) (u.2.2.2.2.1) (u.2.2.2.2.2.1) (u.2.2.2.2.2.2.1) x11 x12 x13 x14 x15 x16 x17 x18 x19 x20 f0 f1 f2 (u.2.2.2.2.2.2.2) f4 f5 f6 f7 f8 f9 f10 f11 f12 f13 f14 f15 f16 f17 f18 f19 f20 f21 f22 f23 f24) (fun u => (x5.toInt ≤ u.2.1.toInt ∧ u.2.1.toInt ≤ x2.toInt) ∧ (TokOK u.2.2.2.1 u.2.2.2.2.1) ∧ (u.1.toInt = 0 → x5.toInt < u.2.1.toInt ∨ u.2.2.2.1.toInt = 0) ∧ (u.1.toInt = 0 → x10.toInt ≤ u.2.2.2.2.2.2.1.toInt) ∧ (u.1.toInt = 0 → u.2.2.2.2.2.2.1.toInt - (f6 x11.toInt.toNat).toInt ≤ 24) ∧ (u.1.toInt = 0 → CellsX jn u.2.2.2.2.2.2.2 0 (6 * u.2.2.2.2.2.2.1.toInt))) D (va_A (mX mm q jn cI x0 x1 x2 x3 x4 x5 x6 x7 x8 x9 x10 x11 x12 x13 x14 x15 x16 x17 x18 x19 x20 f0 f1 f2 f3 f4 f5 f6 f7 f8 f9 f10 f11 f12 f13 f14 f15 f16 f17 f18 f19 f20 f21 f22 f23 f24) sz)) 0 0 (va_A (mX mm q jn cI x0 x1 x2 x3 x4 x5 x6 x7 x8 x9 x10 x11 x12 x13 x14 x15 x16 x17 x18 x19 x20 f0 f1 f2 f3 f4 f5 f6 f7 f8 f9 f10 f11 f12 f13 f14 f15 f16 f17 f18 f19 f20 f21 f22 f23 f24) sz) := by
  refine go (cc := cX11_times) (maxL := 3) (ret := (some .int)) (by decide) rfl (Nat.le_of_ble_eq_true rfl) ?_
  intro p e s m below meth c ls args Q hQ hsz hx hb hr hml hts hown hlocks hnm hP hK hD hl
  subst hsz
  have hD := hD.self (sz := s.heap.size)
  generalize hAe : va_A (mX mm q jn cI x0 x1 x2 x3 x4 x5 x6 x7 x8 x9 x10 x11 x12 x13 x14 x15 x16 x17 x18 x19 x20 f0 f1 f2 f3 f4 f5 f6 f7 f8 f9 f10 f11 f12 f13 f14 f15 f16 f17 f18 f19 f20 f21 f22 f23 f24) s.heap.size = A at hD hQ
  have hA : ∀ q, s.heap.size ≤ q → A q := fun q h => by rw [← hAe]; exact Or.inr h
  have hS : va_S A s.heap s.heap [] := va_S.rf
  have hl : lv_has ls 3 [(0, .ref mm)] := hl
  refine lv_aload_n hx hb dX11_times_0 rfl (lv_at hl 0 rfl) ?_
  refine call_g (wr := []) (va_runV (As := []) (rest := []) ⟨hx, hb, hml, hown, hts⟩ (k_next l D cI cR cM _  (by first | assumption | omega) (by first | assumption | omega)) (cwV 0 hts gX11_times_X11_nextToken rfl rfl rfl (by decide +kernel) ⟨Nat.le_of_ble_eq_true rfl, Nat.le_of_ble_eq_true rfl⟩) (pre_V hK hP hD 0 11 rfl rfl) rfl rfl hl.1 rfl (lv_room (Nat.le_of_ble_eq_true rfl)) dX11_times_1 ⟨Nat.le_of_ble_eq_true rfl, Nat.le_of_ble_eq_true rfl⟩) hP hD hS hA [0, 1, 2, 3, 4, 5, 6, 7, 8, 9, 10, 11, 12, 13, 14, 15, 16, 17, 18, 19, 20, 21, 22, 23, 24, 25] [] (by with_unfolding_all rfl) rfl (by decide) (by decide) (fun u_1 H locs hw hP hD hS => ?_)
  obtain ⟨y5_1, y6_1, y7_1, y8_1⟩ := u_1
  have hP : va_P D vwCl (mX mm q jn cI x0 x1 x2 x3 x4 y5_1 y6_1 y7_1 y8_1 x9 x10 x11 x12 x13 x14 x15 x16 x17 x18 x19 x20 f0 f1 f2 f3 f4 f5 f6 f7 f8 f9 f10 f11 f12 f13 f14 f15 f16 f17 f18 f19 f20 f21 f22 f23 f24) H := hP
  have hD : va_D A (mX mm q jn cI x0 x1 x2 x3 x4 y5_1 y6_1 y7_1 y8_1 x9 x10 x11 x12 x13 x14 x15 x16 x17 x18 x19 x20 f0 f1 f2 f3 f4 f5 f6 f7 f8 f9 f10 f11 f12 f13 f14 f15 f16 f17 f18 f19 f20 f21 f22 f23 f24) := hD
  obtain ⟨ha_1, hp_1, hk_1, hT_1⟩ : (x5.toInt ≤ y5_1.toInt ∧ y5_1.toInt ≤ x2.toInt) ∧ (0 ≤ y6_1.toInt ∧ y6_1.toInt ≤ 300) ∧ (y7_1.toInt = 0 ∨ x5.toInt < y5_1.toInt) ∧ (TokOK y7_1 y8_1) := hw
  refine lv_aload_n hx hb dX11_times_4 rfl (lv_at hl 0 rfl) ?_
  refine va_get (D := D) (ci := 11) (v := .int y7_1) (C := RX11) (T := TX11) (N := 47) hx hb hts (by decide +kernel) hown hK.1 hP 0 rfl rfl 11 (by decide) (hts (.fieldLink RX11 131 "JugglingHallModel" "token" "I") (by decide +kernel)) (fun _ h9 => h9) rfl dX11_times_5 ?_
  refine lv_iconst (v := 1) hx hb dX11_times_8 (by decide) ?_
  refine a_icmp_eq (u := y7_1.toInt) (v := 1) (tgt := 22) hx hb dX11_times_9 (by decide) (rfl) (by decide) (fun c_2 => ?_) (fun c_2 => ?_)
  · have hv3 := hT_1.2.1 (by omega)
    refine lv_aload_n hx hb dX11_times_22 rfl (lv_at hl 0 rfl) ?_
    refine va_get (D := D) (ci := 11) (v := .int y8_1) (C := RX11) (T := TX11) (N := 47) hx hb hts (by decide +kernel) hown hK.1 hP 0 rfl rfl 12 (by decide) (hts (.fieldLink RX11 138 "JugglingHallModel" "value" "I") (by decide +kernel)) (fun _ h9 => h9) rfl dX11_times_23 ?_
    refine a_if_ne (u := y8_1.toInt) (tgt := 39) hx hb dX11_times_26 (by decide) (rfl) (fun c_4 => ?_) (fun c_4 => ?_)
    · refine lv_aload_n hx hb dX11_times_39 rfl (lv_at hl 0 rfl) ?_
      refine va_get (D := D) (ci := 11) (v := .int x10) (C := RX11) (T := TX11) (N := 47) hx hb hts (by decide +kernel) hown hK.1 hP 0 rfl rfl 19 (by decide) (hts (.fieldLink RX11 151 "JugglingHallModel" "top" "I") (by decide +kernel)) (fun _ h9 => h9) rfl dX11_times_40 ?_
      refine lv_aload_n hx hb dX11_times_43 rfl (lv_at hl 0 rfl) ?_
      refine va_get (D := D) (ci := 11) (v := .int x12) (C := RX11) (T := TX11) (N := 47) hx hb hts (by decide +kernel) hown hK.1 hP 0 rfl rfl 21 (by decide) (hts (.fieldLink RX11 176 "JugglingHallModel" "oneStart" "I") (by decide +kernel)) (fun _ h9 => h9) rfl dX11_times_44 ?_
      refine a_isub (u := x10.toInt) (v := x12.toInt) hx hb dX11_times_47 (rfl) (rfl) (by omega) (fun z_5 e_5 => ?_)
      refine lv_istore_n (lv' := [(1, .int z_5), (0, .ref mm)]) hx hb dX11_times_48 rfl hl (by decide) rfl (fun ls hl => ?_)
      refine lv_aload_n hx hb dX11_times_49 rfl (lv_at hl 1 rfl) ?_
      refine roP (va_runV (As := []) (rest := []) ⟨hx, hb, hml, hown, hts⟩ (k_many l D cI cR cM _  (by first | assumption | omega) (by first | assumption | omega) (by first | assumption | omega)) (cwV 0 hts gX11_times_X11_many rfl rfl rfl (by decide +kernel) ⟨Nat.le_of_ble_eq_true rfl, Nat.le_of_ble_eq_true rfl⟩) (pre_V hK hP hD 0 11 rfl rfl) rfl rfl hl.1 rfl (lv_room (Nat.le_of_ble_eq_true rfl)) dX11_times_50 ⟨Nat.le_of_ble_eq_true rfl, Nat.le_of_ble_eq_true rfl⟩) hS hA hP (fun r_6 H locs hw hP hS => ?_)
      have h_6 : (r_6.toInt = x10.toInt - (f6 x11.toInt.toNat).toInt) := hw
      refine lv_aload_n hx hb dX11_times_53 rfl (lv_at hl 1 rfl) ?_
      refine va_get (D := D) (ci := 11) (v := .int y8_1) (C := RX11) (T := TX11) (N := 47) hx hb hts (by decide +kernel) hown hK.1 hP 0 rfl rfl 12 (by decide) (hts (.fieldLink RX11 138 "JugglingHallModel" "value" "I") (by decide +kernel)) (fun _ h9 => h9) rfl dX11_times_54 ?_
      refine lv_iconst (v := 1) hx hb dX11_times_57 (by decide) ?_
      refine a_isub (u := y8_1.toInt) (v := 1) hx hb dX11_times_58 (rfl) (by decide) (by omega) (fun z_7 e_7 => ?_)
      refine lv_iload_n hx hb dX11_times_59 rfl (lv_at hl 0 rfl) ?_
      have hmul := mul9 (a := (y8_1.toInt - 1)) (b := (x10.toInt - x12.toInt)) (by omega) (by omega)
      refine a_imul (u := (y8_1.toInt - 1)) (v := (x10.toInt - x12.toInt)) hx hb dX11_times_60 (e_7) (e_5) (by omega) (fun z_8 e_8 => ?_)
      refine a_iadd (u := r_6.toInt) (v := ((y8_1.toInt - 1) * (x10.toInt - x12.toInt))) hx hb dX11_times_61 (rfl) (e_8) (by omega) (fun z_9 e_9 => ?_)
      refine lv_bipush (v := 24) hx hb dX11_times_62 (by decide) ?_
      refine a_icmp_le (u := z_9.toInt) (v := 24) (tgt := 77) hx hb dX11_times_64 (by decide) (rfl) (by decide) (fun c_10 => ?_) (fun c_10 => ?_)
      · refine lv_iconst (v := 0) hx hb dX11_times_77 (by decide) ?_
        refine lv_istore_n (lv' := [(2, .int 0), (1, .int z_5), (0, .ref mm)]) hx hb dX11_times_78 rfl hl (by decide) rfl (fun ls hl => ?_)
        have loop79 : ∀ (ddloop79 : Nat) (k : Int32) (ga : (Nat → Int32)) (H : Heap) (locs : List Loc) (ls : Array Slot), (6 * ((y8_1.toInt - 1) * (x10.toInt - x12.toInt)) - k.toInt).toNat < ddloop79 → (0 ≤ k.toInt ∧ k.toInt ≤ 6 * ((y8_1.toInt - 1) * (x10.toInt - x12.toInt))) → (∀ i : Int, 0 ≤ i → i < 6 * x10.toInt → ga i.toNat = f3 i.toNat) → (∀ i : Int, 0 ≤ i → i < k.toInt → ga (6 * x10.toInt + i).toNat = ga (6 * x12.toInt + i).toNat) → va_P D vwCl (mX mm q jn cI x0 x1 x2 x3 x4 y5_1 y6_1 y7_1 y8_1 x9 x10 x11 x12 x13 x14 x15 x16 x17 x18 x19 x20 f0 f1 f2 ga f4 f5 f6 f7 f8 f9 f10 f11 f12 f13 f14 f15 f16 f17 f18 f19 f20 f21 f22 f23 f24) H → va_D A (mX mm q jn cI x0 x1 x2 x3 x4 y5_1 y6_1 y7_1 y8_1 x9 x10 x11 x12 x13 x14 x15 x16 x17 x18 x19 x20 f0 f1 f2 ga f4 f5 f6 f7 f8 f9 f10 f11 f12 f13 f14 f15 f16 f17 f18 f19 f20 f21 f22 f23 f24) → va_S A s.heap H locs → lv_has ls 3 [(0, .ref mm), (1, .int z_5), (2, .int k)] → W p l e ({ frames := 4, cells := 0, slots := 0, locals := 88 }) s m args below meth c H locs 0 0 Q (F0 m 79 ls []) := by
          intro ddloop79
          induction ddloop79 with
          | zero =>
            intro k ga H locs ls hdd
            exact absurd hdd (Nat.not_lt_zero _)
          | succ ddloop79 ih79 =>
            intro k ga H locs ls hdd hk hga hgs hP hD hS hl
            refine lv_iload_n hx hb dX11_times_79 rfl (lv_at hl 2 rfl) ?_
            refine lv_bipush (v := 6) hx hb dX11_times_80 (by decide) ?_
            refine lv_aload_n hx hb dX11_times_82 rfl (lv_at hl 0 rfl) ?_
            refine va_get (D := D) (ci := 11) (v := .int y8_1) (C := RX11) (T := TX11) (N := 47) hx hb hts (by decide +kernel) hown hK.1 hP 0 rfl rfl 12 (by decide) (hts (.fieldLink RX11 138 "JugglingHallModel" "value" "I") (by decide +kernel)) (fun _ h9 => h9) rfl dX11_times_83 ?_
            refine lv_iconst (v := 1) hx hb dX11_times_86 (by decide) ?_
            refine a_isub (u := y8_1.toInt) (v := 1) hx hb dX11_times_87 (rfl) (by decide) (by omega) (fun z_11 e_11 => ?_)
            refine a_imul (u := 6) (v := (y8_1.toInt - 1)) hx hb dX11_times_88 (by decide) (e_11) (by omega) (fun z_12 e_12 => ?_)
            refine lv_iload_n hx hb dX11_times_89 rfl (lv_at hl 1 rfl) ?_
            have hmul2 : (6 * (y8_1.toInt - 1)) * (x10.toInt - x12.toInt) = 6 * ((y8_1.toInt - 1) * (x10.toInt - x12.toInt)) := by
              first
                | rw [Int.mul_assoc]
                | (rw [show (6 * (y8_1.toInt - 1)) = 6 * (y8_1.toInt - 1) by omega, Int.mul_assoc])
            refine a_imul (u := (6 * (y8_1.toInt - 1))) (v := (x10.toInt - x12.toInt)) hx hb dX11_times_90 (e_12) (e_5) (by omega) (fun z_13 e_13 => ?_)
            refine a_icmp_ge (u := k.toInt) (v := z_13.toInt) (tgt := 128) hx hb dX11_times_91 (by decide) (rfl) (rfl) (fun c_14 => ?_) (fun c_14 => ?_)
            · have hCn : CellsX jn ga 0 (6 * (x10.toInt + ((y8_1.toInt - 1) * (x10.toInt - x12.toInt)))) := by
                by_cases q : x12.toInt < x10.toInt
                · exact cx_per hC (by omega) q hga (fun i i0 i1 => hgs i i0 (by omega))
                · rw [show 6 * (x10.toInt + ((y8_1.toInt - 1) * (x10.toInt - x12.toInt))) = 6 * x10.toInt by omega]; exact cx_keep hC (by omega) hga
              refine lv_aload_n hx hb dX11_times_128 rfl (lv_at hl 0 rfl) ?_
              refine lv_dup hx hb dX11_times_129 rfl ?_
              refine va_get (D := D) (ci := 11) (v := .int x10) (C := RX11) (T := TX11) (N := 47) hx hb hts (by decide +kernel) hown hK.1 hP 0 rfl rfl 19 (by decide) (hts (.fieldLink RX11 151 "JugglingHallModel" "top" "I") (by decide +kernel)) (fun _ h9 => h9) rfl dX11_times_130 ?_
              refine lv_aload_n hx hb dX11_times_133 rfl (lv_at hl 0 rfl) ?_
              refine va_get (D := D) (ci := 11) (v := .int y8_1) (C := RX11) (T := TX11) (N := 47) hx hb hts (by decide +kernel) hown hK.1 hP 0 rfl rfl 12 (by decide) (hts (.fieldLink RX11 138 "JugglingHallModel" "value" "I") (by decide +kernel)) (fun _ h9 => h9) rfl dX11_times_134 ?_
              refine lv_iconst (v := 1) hx hb dX11_times_137 (by decide) ?_
              refine a_isub (u := y8_1.toInt) (v := 1) hx hb dX11_times_138 (rfl) (by decide) (by omega) (fun z_15 e_15 => ?_)
              refine lv_iload_n hx hb dX11_times_139 rfl (lv_at hl 1 rfl) ?_
              refine a_imul (u := (y8_1.toInt - 1)) (v := (x10.toInt - x12.toInt)) hx hb dX11_times_140 (e_15) (e_5) (by omega) (fun z_16 e_16 => ?_)
              refine a_iadd (u := x10.toInt) (v := ((y8_1.toInt - 1) * (x10.toInt - x12.toInt))) hx hb dX11_times_141 (rfl) (e_16) (by omega) (fun z_17 e_17 => ?_)
              refine mp_10 hx hb hts (by decide +kernel) hown hK hP hD hS (hts (.fieldLink RX11 151 "JugglingHallModel" "top" "I") (by decide +kernel)) dX11_times_142 (fun H locs hP hD hS => ?_)
              refine lv_aload_n hx hb dX11_times_145 rfl (lv_at hl 0 rfl) ?_
              refine call_g (wr := []) (va_runV (As := []) (rest := []) ⟨hx, hb, hml, hown, hts⟩ (k_next l D cI cR cM _  (by first | assumption | omega) (by first | assumption | omega)) (cwV 0 hts gX11_times_X11_nextToken rfl rfl rfl (by decide +kernel) ⟨Nat.le_of_ble_eq_true rfl, Nat.le_of_ble_eq_true rfl⟩) (pre_V hK hP hD 0 11 rfl rfl) rfl rfl hl.1 rfl (lv_room (Nat.le_of_ble_eq_true rfl)) dX11_times_146 ⟨Nat.le_of_ble_eq_true rfl, Nat.le_of_ble_eq_true rfl⟩) hP hD hS hA [0, 1, 2, 3, 4, 5, 6, 7, 8, 9, 10, 11, 12, 13, 14, 15, 16, 17, 18, 19, 20, 21, 22, 23, 24, 25] [] (by with_unfolding_all rfl) rfl (by decide) (by decide) (fun u_18 H locs hw hP hD hS => ?_)
              obtain ⟨y5_18, y6_18, y7_18, y8_18⟩ := u_18
              have hP : va_P D vwCl (mX mm q jn cI x0 x1 x2 x3 x4 y5_18 y6_18 y7_18 y8_18 x9 z_17 x11 x12 x13 x14 x15 x16 x17 x18 x19 x20 f0 f1 f2 ga f4 f5 f6 f7 f8 f9 f10 f11 f12 f13 f14 f15 f16 f17 f18 f19 f20 f21 f22 f23 f24) H := hP
              have hD : va_D A (mX mm q jn cI x0 x1 x2 x3 x4 y5_18 y6_18 y7_18 y8_18 x9 z_17 x11 x12 x13 x14 x15 x16 x17 x18 x19 x20 f0 f1 f2 ga f4 f5 f6 f7 f8 f9 f10 f11 f12 f13 f14 f15 f16 f17 f18 f19 f20 f21 f22 f23 f24) := hD
              obtain ⟨ha_18, hp_18, hk_18, hT_18⟩ : (y5_1.toInt ≤ y5_18.toInt ∧ y5_18.toInt ≤ x2.toInt) ∧ (0 ≤ y6_18.toInt ∧ y6_18.toInt ≤ 300) ∧ (y7_18.toInt = 0 ∨ y5_1.toInt < y5_18.toInt) ∧ (TokOK y7_18 y8_18) := hw
              refine lv_iconst (v := 0) hx hb dX11_times_149 (by decide) ?_
              have hz_19 : (0 : Int32).toInt = 0 := by decide
              exact g_iret ((0 : Int32), y5_18, y6_18, y7_18, y8_18, x9, z_17, ga) hx hb hr hlocks hS rfl (⟨show x5.toInt ≤ y5_18.toInt ∧ y5_18.toInt ≤ x2.toInt from (by first | assumption | omega), show TokOK y7_18 y8_18 from (by first | assumption | omega), show (0 : Int32).toInt = 0 → x5.toInt < y5_18.toInt ∨ y7_18.toInt = 0 from (by first | assumption | omega), show (0 : Int32).toInt = 0 → x10.toInt ≤ z_17.toInt from (by first | assumption | omega), show (0 : Int32).toInt = 0 → z_17.toInt - (f6 x11.toInt.toNat).toInt ≤ 24 from (by first | assumption | omega), show (0 : Int32).toInt = 0 → CellsX jn ga 0 (6 * z_17.toInt) from (fun _ => by rw [show 6 * z_17.toInt = 6 * (x10.toInt + ((y8_1.toInt - 1) * (x10.toInt - x12.toInt))) by omega]; exact hCn)⟩) hP hD hQ (Nat.le_of_ble_eq_true rfl) (Nat.le_of_ble_eq_true rfl) dX11_times_150
            · refine lv_aload_n hx hb dX11_times_94 rfl (lv_at hl 0 rfl) ?_
              refine va_get (D := D) (ci := 11) (v := .ref (q 3)) (C := RX11) (T := TX11) (N := 47) hx hb hts (by decide +kernel) hown hK.1 hP 0 rfl rfl 14 (by decide) (hts (.fieldLink RX11 27 "JugglingHallModel" "work" "[I") (by decide +kernel)) (fun _ h9 => h9) rfl dX11_times_95 ?_
              refine lv_bipush (v := 6) hx hb dX11_times_98 (by decide) ?_
              refine lv_aload_n hx hb dX11_times_100 rfl (lv_at hl 0 rfl) ?_
              refine va_get (D := D) (ci := 11) (v := .int x10) (C := RX11) (T := TX11) (N := 47) hx hb hts (by decide +kernel) hown hK.1 hP 0 rfl rfl 19 (by decide) (hts (.fieldLink RX11 151 "JugglingHallModel" "top" "I") (by decide +kernel)) (fun _ h9 => h9) rfl dX11_times_101 ?_
              refine a_imul (u := 6) (v := x10.toInt) hx hb dX11_times_104 (by decide) (rfl) (by omega) (fun z_20 e_20 => ?_)
              refine lv_iload_n hx hb dX11_times_105 rfl (lv_at hl 2 rfl) ?_
              refine a_iadd (u := (6 * x10.toInt)) (v := k.toInt) hx hb dX11_times_106 (e_20) (rfl) (by omega) (fun z_21 e_21 => ?_)
              refine lv_aload_n hx hb dX11_times_107 rfl (lv_at hl 0 rfl) ?_
              refine va_get (D := D) (ci := 11) (v := .ref (q 3)) (C := RX11) (T := TX11) (N := 47) hx hb hts (by decide +kernel) hown hK.1 hP 0 rfl rfl 14 (by decide) (hts (.fieldLink RX11 27 "JugglingHallModel" "work" "[I") (by decide +kernel)) (fun _ h9 => h9) rfl dX11_times_108 ?_
              refine lv_bipush (v := 6) hx hb dX11_times_111 (by decide) ?_
              refine lv_aload_n hx hb dX11_times_113 rfl (lv_at hl 0 rfl) ?_
              refine va_get (D := D) (ci := 11) (v := .int x12) (C := RX11) (T := TX11) (N := 47) hx hb hts (by decide +kernel) hown hK.1 hP 0 rfl rfl 21 (by decide) (hts (.fieldLink RX11 176 "JugglingHallModel" "oneStart" "I") (by decide +kernel)) (fun _ h9 => h9) rfl dX11_times_114 ?_
              refine a_imul (u := 6) (v := x12.toInt) hx hb dX11_times_117 (by decide) (rfl) (by omega) (fun z_22 e_22 => ?_)
              refine lv_iload_n hx hb dX11_times_118 rfl (lv_at hl 2 rfl) ?_
              refine a_iadd (u := (6 * x12.toInt)) (v := k.toInt) hx hb dX11_times_119 (e_22) (rfl) (by omega) (fun z_23 e_23 => ?_)
              refine a_iald (f := ga) (u := ((6 * x12.toInt) + k.toInt)) hx hb hK.1 hP 4 0 rfl rfl dX11_times_120 (e_23) (by omega) (fun z_24 q_24 e_24 => ?_)
              refine ma_3 (u := ((6 * x10.toInt) + k.toInt)) hx hb hK hP hD hS dX11_times_121 (e_21) (by omega) (fun g_25 H locs eg_25 hP hD hS => ?_)
              obtain ⟨z_26, q_26, e_26⟩ := i_inc (a := k.toInt) (1) (rfl) (by decide) (by omega) (by omega)
              refine lv_iinc (v := z_26) (lv' := [(2, .int z_26), (0, .ref mm), (1, .int z_5)]) hx hb dX11_times_122 hl (k := 2) rfl q_26 (by decide) rfl (fun ls hl => ?_)
              refine lv_goto (tgt := 79) hx hb dX11_times_125 (by decide) ?_
              exact ih79 z_26 g_25 _ _ _ (by omega) (by first | assumption | omega) (fun i i0 i1 => by rw [eg_25, un_i i0 (by omega) (by omega)]; exact hga i i0 i1) (fun i i0 i1 => by
                by_cases q : i = k.toInt
                · rw [eg_25, q, show 6 * x10.toInt + k.toInt = ((6 * x10.toInt) + k.toInt) by omega, pk_us, un_i (by omega) (by omega) (by omega), q_24, show ((6 * x12.toInt) + k.toInt) = 6 * x12.toInt + k.toInt by omega]
                · rw [eg_25, un_i (by omega) (by omega) (by omega), un_i (by omega) (by omega) (by omega)]; exact hgs i i0 (by omega)) hP hD hS (lv_sub hl [1, 2, 0] rfl)
        have hz_27 : (0 : Int32).toInt = 0 := by decide
        exact loop79 ((6 * ((y8_1.toInt - 1) * (x10.toInt - x12.toInt)) - (0 : Int32).toInt).toNat + 1) (0 : Int32) f3 _ _ _ (by omega) (by first | assumption | omega) (fun _ _ _ => rfl) (fun i i0 i1 => absurd i1 (by omega)) hP hD hS (lv_sub hl [2, 1, 0] rfl)
      · refine lv_aload_n hx hb dX11_times_67 rfl (lv_at hl 1 rfl) ?_
        refine lv_iconst (v := 4) hx hb dX11_times_68 (by decide) ?_
        refine lv_aload_n hx hb dX11_times_69 rfl (lv_at hl 1 rfl) ?_
        refine va_get (D := D) (ci := 11) (v := .int y6_1) (C := RX11) (T := TX11) (N := 47) hx hb hts (by decide +kernel) hown hK.1 hP 0 rfl rfl 10 (by decide) (hts (.fieldLink RX11 120 "JugglingHallModel" "place" "I") (by decide +kernel)) (fun _ h9 => h9) rfl dX11_times_70 ?_
        have hz_28 : (4 : Int32).toInt = 4 := by decide
        refine call_g (wr := []) (va_runV (As := [.int 4, .int y6_1]) (rest := []) ⟨hx, hb, hml, hown, hts⟩ (k_fails l D cI cR cM _  ) (cwV 2 hts gX11_times_X11_fails rfl rfl rfl (by decide +kernel) ⟨Nat.le_of_ble_eq_true rfl, Nat.le_of_ble_eq_true rfl⟩) (pre_V hK hP hD 0 11 rfl rfl) rfl rfl hl.1 rfl (lv_room (Nat.le_of_ble_eq_true rfl)) dX11_times_73 ⟨Nat.le_of_ble_eq_true rfl, Nat.le_of_ble_eq_true rfl⟩) hP hD hS hA [0, 1, 2, 3, 4, 5, 6, 7, 8, 9, 10, 11, 12, 13, 14, 15, 16, 17, 18, 19, 20, 21, 22, 23, 24, 25] [] (by with_unfolding_all rfl) rfl (by decide) (by decide) (fun u_29 H locs hw hP hD hS => ?_)
        obtain ⟨r_29, y9_29⟩ := u_29
        have hP : va_P D vwCl (mX mm q jn cI x0 x1 x2 x3 x4 y5_1 y6_1 y7_1 y8_1 y9_29 x10 x11 x12 x13 x14 x15 x16 x17 x18 x19 x20 f0 f1 f2 f3 f4 f5 f6 f7 f8 f9 f10 f11 f12 f13 f14 f15 f16 f17 f18 f19 f20 f21 f22 f23 f24) H := hP
        have hD : va_D A (mX mm q jn cI x0 x1 x2 x3 x4 y5_1 y6_1 y7_1 y8_1 y9_29 x10 x11 x12 x13 x14 x15 x16 x17 x18 x19 x20 f0 f1 f2 f3 f4 f5 f6 f7 f8 f9 f10 f11 f12 f13 f14 f15 f16 f17 f18 f19 f20 f21 f22 f23 f24) := hD
        have hr_29 : (r_29.toInt = (4 : Int32).toInt) := hw
        exact g_iret (r_29, y5_1, y6_1, y7_1, y8_1, y9_29, x10, f3) hx hb hr hlocks hS rfl (⟨show x5.toInt ≤ y5_1.toInt ∧ y5_1.toInt ≤ x2.toInt from (by first | assumption | omega), show TokOK y7_1 y8_1 from (by first | assumption | omega), show r_29.toInt = 0 → x5.toInt < y5_1.toInt ∨ y7_1.toInt = 0 from (by first | assumption | omega), show r_29.toInt = 0 → x10.toInt ≤ x10.toInt from (by first | assumption | omega), show r_29.toInt = 0 → x10.toInt - (f6 x11.toInt.toNat).toInt ≤ 24 from (by first | assumption | omega), show r_29.toInt = 0 → CellsX jn f3 0 (6 * x10.toInt) from (fun q => absurd q (by omega))⟩) hP hD hQ (Nat.le_of_ble_eq_true rfl) (Nat.le_of_ble_eq_true rfl) dX11_times_76
    · refine lv_aload_n hx hb dX11_times_29 rfl (lv_at hl 0 rfl) ?_
      refine lv_iconst (v := 2) hx hb dX11_times_30 (by decide) ?_
      refine lv_aload_n hx hb dX11_times_31 rfl (lv_at hl 0 rfl) ?_
      refine va_get (D := D) (ci := 11) (v := .int y6_1) (C := RX11) (T := TX11) (N := 47) hx hb hts (by decide +kernel) hown hK.1 hP 0 rfl rfl 10 (by decide) (hts (.fieldLink RX11 120 "JugglingHallModel" "place" "I") (by decide +kernel)) (fun _ h9 => h9) rfl dX11_times_32 ?_
      have hz_30 : (2 : Int32).toInt = 2 := by decide
      refine call_g (wr := []) (va_runV (As := [.int 2, .int y6_1]) (rest := []) ⟨hx, hb, hml, hown, hts⟩ (k_fails l D cI cR cM _  ) (cwV 2 hts gX11_times_X11_fails rfl rfl rfl (by decide +kernel) ⟨Nat.le_of_ble_eq_true rfl, Nat.le_of_ble_eq_true rfl⟩) (pre_V hK hP hD 0 11 rfl rfl) rfl rfl hl.1 rfl (lv_room (Nat.le_of_ble_eq_true rfl)) dX11_times_35 ⟨Nat.le_of_ble_eq_true rfl, Nat.le_of_ble_eq_true rfl⟩) hP hD hS hA [0, 1, 2, 3, 4, 5, 6, 7, 8, 9, 10, 11, 12, 13, 14, 15, 16, 17, 18, 19, 20, 21, 22, 23, 24, 25] [] (by with_unfolding_all rfl) rfl (by decide) (by decide) (fun u_31 H locs hw hP hD hS => ?_)
      obtain ⟨r_31, y9_31⟩ := u_31
      have hP : va_P D vwCl (mX mm q jn cI x0 x1 x2 x3 x4 y5_1 y6_1 y7_1 y8_1 y9_31 x10 x11 x12 x13 x14 x15 x16 x17 x18 x19 x20 f0 f1 f2 f3 f4 f5 f6 f7 f8 f9 f10 f11 f12 f13 f14 f15 f16 f17 f18 f19 f20 f21 f22 f23 f24) H := hP
      have hD : va_D A (mX mm q jn cI x0 x1 x2 x3 x4 y5_1 y6_1 y7_1 y8_1 y9_31 x10 x11 x12 x13 x14 x15 x16 x17 x18 x19 x20 f0 f1 f2 f3 f4 f5 f6 f7 f8 f9 f10 f11 f12 f13 f14 f15 f16 f17 f18 f19 f20 f21 f22 f23 f24) := hD
      have hr_31 : (r_31.toInt = (2 : Int32).toInt) := hw
      exact g_iret (r_31, y5_1, y6_1, y7_1, y8_1, y9_31, x10, f3) hx hb hr hlocks hS rfl (⟨show x5.toInt ≤ y5_1.toInt ∧ y5_1.toInt ≤ x2.toInt from (by first | assumption | omega), show TokOK y7_1 y8_1 from (by first | assumption | omega), show r_31.toInt = 0 → x5.toInt < y5_1.toInt ∨ y7_1.toInt = 0 from (by first | assumption | omega), show r_31.toInt = 0 → x10.toInt ≤ x10.toInt from (by first | assumption | omega), show r_31.toInt = 0 → x10.toInt - (f6 x11.toInt.toNat).toInt ≤ 24 from (by first | assumption | omega), show r_31.toInt = 0 → CellsX jn f3 0 (6 * x10.toInt) from (fun q => absurd q (by omega))⟩) hP hD hQ (Nat.le_of_ble_eq_true rfl) (Nat.le_of_ble_eq_true rfl) dX11_times_38
  · refine lv_aload_n hx hb dX11_times_12 rfl (lv_at hl 0 rfl) ?_
    refine lv_iconst (v := 1) hx hb dX11_times_13 (by decide) ?_
    refine lv_aload_n hx hb dX11_times_14 rfl (lv_at hl 0 rfl) ?_
    refine va_get (D := D) (ci := 11) (v := .int y6_1) (C := RX11) (T := TX11) (N := 47) hx hb hts (by decide +kernel) hown hK.1 hP 0 rfl rfl 10 (by decide) (hts (.fieldLink RX11 120 "JugglingHallModel" "place" "I") (by decide +kernel)) (fun _ h9 => h9) rfl dX11_times_15 ?_
    have hz_32 : (1 : Int32).toInt = 1 := by decide
    refine call_g (wr := []) (va_runV (As := [.int 1, .int y6_1]) (rest := []) ⟨hx, hb, hml, hown, hts⟩ (k_fails l D cI cR cM _  ) (cwV 2 hts gX11_times_X11_fails rfl rfl rfl (by decide +kernel) ⟨Nat.le_of_ble_eq_true rfl, Nat.le_of_ble_eq_true rfl⟩) (pre_V hK hP hD 0 11 rfl rfl) rfl rfl hl.1 rfl (lv_room (Nat.le_of_ble_eq_true rfl)) dX11_times_18 ⟨Nat.le_of_ble_eq_true rfl, Nat.le_of_ble_eq_true rfl⟩) hP hD hS hA [0, 1, 2, 3, 4, 5, 6, 7, 8, 9, 10, 11, 12, 13, 14, 15, 16, 17, 18, 19, 20, 21, 22, 23, 24, 25] [] (by with_unfolding_all rfl) rfl (by decide) (by decide) (fun u_33 H locs hw hP hD hS => ?_)
    obtain ⟨r_33, y9_33⟩ := u_33
    have hP : va_P D vwCl (mX mm q jn cI x0 x1 x2 x3 x4 y5_1 y6_1 y7_1 y8_1 y9_33 x10 x11 x12 x13 x14 x15 x16 x17 x18 x19 x20 f0 f1 f2 f3 f4 f5 f6 f7 f8 f9 f10 f11 f12 f13 f14 f15 f16 f17 f18 f19 f20 f21 f22 f23 f24) H := hP
    have hD : va_D A (mX mm q jn cI x0 x1 x2 x3 x4 y5_1 y6_1 y7_1 y8_1 y9_33 x10 x11 x12 x13 x14 x15 x16 x17 x18 x19 x20 f0 f1 f2 f3 f4 f5 f6 f7 f8 f9 f10 f11 f12 f13 f14 f15 f16 f17 f18 f19 f20 f21 f22 f23 f24) := hD
    have hr_33 : (r_33.toInt = (1 : Int32).toInt) := hw
    exact g_iret (r_33, y5_1, y6_1, y7_1, y8_1, y9_33, x10, f3) hx hb hr hlocks hS rfl (⟨show x5.toInt ≤ y5_1.toInt ∧ y5_1.toInt ≤ x2.toInt from (by first | assumption | omega), show TokOK y7_1 y8_1 from (by first | assumption | omega), show r_33.toInt = 0 → x5.toInt < y5_1.toInt ∨ y7_1.toInt = 0 from (by first | assumption | omega), show r_33.toInt = 0 → x10.toInt ≤ x10.toInt from (by first | assumption | omega), show r_33.toInt = 0 → x10.toInt - (f6 x11.toInt.toNat).toInt ≤ 24 from (by first | assumption | omega), show r_33.toInt = 0 → CellsX jn f3 0 (6 * x10.toInt) from (fun q => absurd q (by omega))⟩) hP hD hQ (Nat.le_of_ble_eq_true rfl) (Nat.le_of_ble_eq_true rfl) dX11_times_21
