theorem dX11_order_0 : decode cX11_order 0 = .ok (.aload_n 0, 1) := by decide +kernel
theorem dX11_order_1 : decode cX11_order 1 = .ok (.iload_n 1, 1) := by decide +kernel
theorem dX11_order_2 : decode cX11_order 2 = .ok (.iaload, 1) := by decide +kernel
theorem dX11_order_3 : decode cX11_order 3 = .ok (.istore_n 2, 1) := by decide +kernel
theorem dX11_order_4 : decode cX11_order 4 = .ok (.aload_n 0, 1) := by decide +kernel
theorem dX11_order_5 : decode cX11_order 5 = .ok (.iload_n 1, 1) := by decide +kernel
theorem dX11_order_6 : decode cX11_order 6 = .ok (.iconst 1, 1) := by decide +kernel
theorem dX11_order_7 : decode cX11_order 7 = .ok (.iadd, 1) := by decide +kernel
theorem dX11_order_8 : decode cX11_order 8 = .ok (.iaload, 1) := by decide +kernel
theorem dX11_order_9 : decode cX11_order 9 = .ok (.istore_n 3, 1) := by decide +kernel
theorem dX11_order_10 : decode cX11_order 10 = .ok (.iload_n 3, 1) := by decide +kernel
theorem dX11_order_11 : decode cX11_order 11 = .ok (.iconst 4, 1) := by decide +kernel
theorem dX11_order_12 : decode cX11_order 12 = .ok (.idiv, 1) := by decide +kernel
theorem dX11_order_13 : decode cX11_order 13 = .ok (.iload_n 2, 1) := by decide +kernel
theorem dX11_order_14 : decode cX11_order 14 = .ok (.iconst 4, 1) := by decide +kernel
theorem dX11_order_15 : decode cX11_order 15 = .ok (.idiv, 1) := by decide +kernel
theorem dX11_order_16 : decode cX11_order 16 = .ok (.if_icmp .gt 21, 3) := by decide +kernel
theorem dX11_order_19 : decode cX11_order 19 = .ok (.iload_n 3, 1) := by decide +kernel
theorem dX11_order_20 : decode cX11_order 20 = .ok (.iconst 4, 1) := by decide +kernel
theorem dX11_order_21 : decode cX11_order 21 = .ok (.idiv, 1) := by decide +kernel
theorem dX11_order_22 : decode cX11_order 22 = .ok (.iload_n 2, 1) := by decide +kernel
theorem dX11_order_23 : decode cX11_order 23 = .ok (.iconst 4, 1) := by decide +kernel
theorem dX11_order_24 : decode cX11_order 24 = .ok (.idiv, 1) := by decide +kernel
theorem dX11_order_25 : decode cX11_order 25 = .ok (.if_icmp .ne 22, 3) := by decide +kernel
theorem dX11_order_28 : decode cX11_order 28 = .ok (.iload_n 3, 1) := by decide +kernel
theorem dX11_order_29 : decode cX11_order 29 = .ok (.iconst 4, 1) := by decide +kernel
theorem dX11_order_30 : decode cX11_order 30 = .ok (.irem, 1) := by decide +kernel
theorem dX11_order_31 : decode cX11_order 31 = .ok (.iload_n 2, 1) := by decide +kernel
theorem dX11_order_32 : decode cX11_order 32 = .ok (.iconst 4, 1) := by decide +kernel
theorem dX11_order_33 : decode cX11_order 33 = .ok (.irem, 1) := by decide +kernel
theorem dX11_order_34 : decode cX11_order 34 = .ok (.if_icmp .ge 13, 3) := by decide +kernel
theorem dX11_order_37 : decode cX11_order 37 = .ok (.aload_n 0, 1) := by decide +kernel
theorem dX11_order_38 : decode cX11_order 38 = .ok (.iload_n 1, 1) := by decide +kernel
theorem dX11_order_39 : decode cX11_order 39 = .ok (.iload_n 3, 1) := by decide +kernel
theorem dX11_order_40 : decode cX11_order 40 = .ok (.iastore, 1) := by decide +kernel
theorem dX11_order_41 : decode cX11_order 41 = .ok (.aload_n 0, 1) := by decide +kernel
theorem dX11_order_42 : decode cX11_order 42 = .ok (.iload_n 1, 1) := by decide +kernel
theorem dX11_order_43 : decode cX11_order 43 = .ok (.iconst 1, 1) := by decide +kernel
theorem dX11_order_44 : decode cX11_order 44 = .ok (.iadd, 1) := by decide +kernel
theorem dX11_order_45 : decode cX11_order 45 = .ok (.iload_n 2, 1) := by decide +kernel
theorem dX11_order_46 : decode cX11_order 46 = .ok (.iastore, 1) := by decide +kernel
theorem dX11_order_47 : decode cX11_order 47 = .ok (.return_, 1) := by decide +kernel
theorem dX11_oneThrow_0 : decode cX11_oneThrow 0 = .ok (.aload_n 0, 1) := by decide +kernel
theorem dX11_oneThrow_1 : decode cX11_oneThrow 1 = .ok (.getfield 131, 3) := by decide +kernel
theorem dX11_oneThrow_4 : decode cX11_oneThrow 4 = .ok (.iconst 1, 1) := by decide +kernel
theorem dX11_oneThrow_5 : decode cX11_oneThrow 5 = .ok (.if_icmp .eq 13, 3) := by decide +kernel
theorem dX11_oneThrow_8 : decode cX11_oneThrow 8 = .ok (.aload_n 0, 1) := by decide +kernel
theorem dX11_oneThrow_9 : decode cX11_oneThrow 9 = .ok (.iconst 1, 1) := by decide +kernel
theorem dX11_oneThrow_10 : decode cX11_oneThrow 10 = .ok (.aload_n 0, 1) := by decide +kernel
theorem dX11_oneThrow_11 : decode cX11_oneThrow 11 = .ok (.getfield 120, 3) := by decide +kernel
theorem dX11_oneThrow_14 : decode cX11_oneThrow 14 = .ok (.invokevirtual 157, 3) := by decide +kernel
theorem dX11_oneThrow_17 : decode cX11_oneThrow 17 = .ok (.ireturn, 1) := by decide +kernel
theorem dX11_oneThrow_18 : decode cX11_oneThrow 18 = .ok (.aload_n 0, 1) := by decide +kernel
theorem dX11_oneThrow_19 : decode cX11_oneThrow 19 = .ok (.getfield 138, 3) := by decide +kernel
theorem dX11_oneThrow_22 : decode cX11_oneThrow 22 = .ok (.istore_n 2, 1) := by decide +kernel
theorem dX11_oneThrow_23 : decode cX11_oneThrow 23 = .ok (.iload_n 1, 1) := by decide +kernel
theorem dX11_oneThrow_24 : decode cX11_oneThrow 24 = .ok (.istore_n 3, 1) := by decide +kernel
theorem dX11_oneThrow_25 : decode cX11_oneThrow 25 = .ok (.aload_n 0, 1) := by decide +kernel
theorem dX11_oneThrow_26 : decode cX11_oneThrow 26 = .ok (.aload_n 0, 1) := by decide +kernel
theorem dX11_oneThrow_27 : decode cX11_oneThrow 27 = .ok (.getfield 120, 3) := by decide +kernel
theorem dX11_oneThrow_30 : decode cX11_oneThrow 30 = .ok (.putfield 160, 3) := by decide +kernel
theorem dX11_oneThrow_33 : decode cX11_oneThrow 33 = .ok (.aload_n 0, 1) := by decide +kernel
theorem dX11_oneThrow_34 : decode cX11_oneThrow 34 = .ok (.invokevirtual 163, 3) := by decide +kernel
theorem dX11_oneThrow_37 : decode cX11_oneThrow 37 = .ok (.aload_n 0, 1) := by decide +kernel
theorem dX11_oneThrow_38 : decode cX11_oneThrow 38 = .ok (.getfield 131, 3) := by decide +kernel
theorem dX11_oneThrow_41 : decode cX11_oneThrow 41 = .ok (.iconst 4, 1) := by decide +kernel
theorem dX11_oneThrow_42 : decode cX11_oneThrow 42 = .ok (.if_icmp .ne 63, 3) := by decide +kernel
theorem dX11_oneThrow_45 : decode cX11_oneThrow 45 = .ok (.aload_n 0, 1) := by decide +kernel
theorem dX11_oneThrow_46 : decode cX11_oneThrow 46 = .ok (.invokevirtual 163, 3) := by decide +kernel
theorem dX11_oneThrow_49 : decode cX11_oneThrow 49 = .ok (.aload_n 0, 1) := by decide +kernel
theorem dX11_oneThrow_50 : decode cX11_oneThrow 50 = .ok (.getfield 131, 3) := by decide +kernel
theorem dX11_oneThrow_53 : decode cX11_oneThrow 53 = .ok (.iconst 1, 1) := by decide +kernel
theorem dX11_oneThrow_54 : decode cX11_oneThrow 54 = .ok (.if_icmp .eq 13, 3) := by decide +kernel
theorem dX11_oneThrow_57 : decode cX11_oneThrow 57 = .ok (.aload_n 0, 1) := by decide +kernel
theorem dX11_oneThrow_58 : decode cX11_oneThrow 58 = .ok (.iconst 1, 1) := by decide +kernel
theorem dX11_oneThrow_59 : decode cX11_oneThrow 59 = .ok (.aload_n 0, 1) := by decide +kernel
theorem dX11_oneThrow_60 : decode cX11_oneThrow 60 = .ok (.getfield 120, 3) := by decide +kernel
theorem dX11_oneThrow_63 : decode cX11_oneThrow 63 = .ok (.invokevirtual 157, 3) := by decide +kernel
theorem dX11_oneThrow_66 : decode cX11_oneThrow 66 = .ok (.ireturn, 1) := by decide +kernel
theorem dX11_oneThrow_67 : decode cX11_oneThrow 67 = .ok (.aload_n 0, 1) := by decide +kernel
theorem dX11_oneThrow_68 : decode cX11_oneThrow 68 = .ok (.getfield 138, 3) := by decide +kernel
theorem dX11_oneThrow_71 : decode cX11_oneThrow 71 = .ok (.aload_n 0, 1) := by decide +kernel
theorem dX11_oneThrow_72 : decode cX11_oneThrow 72 = .ok (.getfield 93, 3) := by decide +kernel
theorem dX11_oneThrow_75 : decode cX11_oneThrow 75 = .ok (.if_icmp .lt 13, 3) := by decide +kernel
theorem dX11_oneThrow_78 : decode cX11_oneThrow 78 = .ok (.aload_n 0, 1) := by decide +kernel
theorem dX11_oneThrow_79 : decode cX11_oneThrow 79 = .ok (.iconst 2, 1) := by decide +kernel
theorem dX11_oneThrow_80 : decode cX11_oneThrow 80 = .ok (.aload_n 0, 1) := by decide +kernel
theorem dX11_oneThrow_81 : decode cX11_oneThrow 81 = .ok (.getfield 120, 3) := by decide +kernel
theorem dX11_oneThrow_84 : decode cX11_oneThrow 84 = .ok (.invokevirtual 157, 3) := by decide +kernel
theorem dX11_oneThrow_87 : decode cX11_oneThrow 87 = .ok (.ireturn, 1) := by decide +kernel
theorem dX11_oneThrow_88 : decode cX11_oneThrow 88 = .ok (.aload_n 0, 1) := by decide +kernel
theorem dX11_oneThrow_89 : decode cX11_oneThrow 89 = .ok (.getfield 138, 3) := by decide +kernel
theorem dX11_oneThrow_92 : decode cX11_oneThrow 92 = .ok (.istore_n 3, 1) := by decide +kernel
theorem dX11_oneThrow_93 : decode cX11_oneThrow 93 = .ok (.aload_n 0, 1) := by decide +kernel
theorem dX11_oneThrow_94 : decode cX11_oneThrow 94 = .ok (.aload_n 0, 1) := by decide +kernel
theorem dX11_oneThrow_95 : decode cX11_oneThrow 95 = .ok (.getfield 120, 3) := by decide +kernel
theorem dX11_oneThrow_98 : decode cX11_oneThrow 98 = .ok (.putfield 160, 3) := by decide +kernel
theorem dX11_oneThrow_101 : decode cX11_oneThrow 101 = .ok (.aload_n 0, 1) := by decide +kernel
theorem dX11_oneThrow_102 : decode cX11_oneThrow 102 = .ok (.invokevirtual 163, 3) := by decide +kernel
theorem dX11_oneThrow_105 : decode cX11_oneThrow 105 = .ok (.aload_n 0, 1) := by decide +kernel
theorem dX11_oneThrow_106 : decode cX11_oneThrow 106 = .ok (.iload_n 2, 1) := by decide +kernel
theorem dX11_oneThrow_107 : decode cX11_oneThrow 107 = .ok (.ifCond .ne 7, 3) := by decide +kernel
theorem dX11_oneThrow_110 : decode cX11_oneThrow 110 = .ok (.iconst 0, 1) := by decide +kernel
theorem dX11_oneThrow_111 : decode cX11_oneThrow 111 = .ok (.goto 8, 3) := by decide +kernel
theorem dX11_oneThrow_114 : decode cX11_oneThrow 114 = .ok (.iconst 4, 1) := by decide +kernel
theorem dX11_oneThrow_115 : decode cX11_oneThrow 115 = .ok (.iload_n 2, 1) := by decide +kernel
theorem dX11_oneThrow_116 : decode cX11_oneThrow 116 = .ok (.imul, 1) := by decide +kernel
theorem dX11_oneThrow_117 : decode cX11_oneThrow 117 = .ok (.iload_n 3, 1) := by decide +kernel
theorem dX11_oneThrow_118 : decode cX11_oneThrow 118 = .ok (.iadd, 1) := by decide +kernel
theorem dX11_oneThrow_119 : decode cX11_oneThrow 119 = .ok (.putfield 166, 3) := by decide +kernel
theorem dX11_oneThrow_122 : decode cX11_oneThrow 122 = .ok (.iconst 0, 1) := by decide +kernel
theorem dX11_oneThrow_123 : decode cX11_oneThrow 123 = .ok (.ireturn, 1) := by decide +kernel
theorem dX11_mod_0 : decode cX11_mod 0 = .ok (.iload_n 0, 1) := by decide +kernel
theorem dX11_mod_1 : decode cX11_mod 1 = .ok (.iload_n 1, 1) := by decide +kernel
theorem dX11_mod_2 : decode cX11_mod 2 = .ok (.irem, 1) := by decide +kernel
theorem dX11_mod_3 : decode cX11_mod 3 = .ok (.iload_n 1, 1) := by decide +kernel
theorem dX11_mod_4 : decode cX11_mod 4 = .ok (.iadd, 1) := by decide +kernel
theorem dX11_mod_5 : decode cX11_mod 5 = .ok (.iload_n 1, 1) := by decide +kernel
theorem dX11_mod_6 : decode cX11_mod 6 = .ok (.irem, 1) := by decide +kernel
theorem dX11_mod_7 : decode cX11_mod 7 = .ok (.ireturn, 1) := by decide +kernel
set_option maxRecDepth 20000 in
theorem ggX11_oneThrow_X11_fails : GoodIn wsX11_oneThrow wsX11_fails := goodIn_r _ [11, 12, 41, 42, 43, 44, 45, 46, 47, 48, 49, 50, 51, 52, 53, 54, 55, 56, 57, 58, 59, 60, 61, 62, 63, 64, 65, 66, 67, 68, 69, 70, 71, 72, 73, 74, 75, 76, 77, 78, 79, 80, 81, 82, 83, 84, 85, 86, 87] (by decide +kernel) (by decide +kernel)
set_option maxRecDepth 20000 in
theorem gX11_oneThrow_X11_fails : GoodIn wsX11_oneThrow (wsV RX11 157 RX11 yX11_fails wsX11_fails) := goodIn_app (goodIn_of _ (by decide +kernel)) ggX11_oneThrow_X11_fails
set_option maxRecDepth 100000 in
set_option maxHeartbeats 4000000 in
theorem ggX11_oneThrow_X11_nextToken : GoodIn wsX11_oneThrow wsX11_nextToken := goodIn_r _ [16, 17, 2, 1, 3, 18, 19, 20, 10, 21, 22, 23, 24, 25, 26, 27, 28, 29, 30, 31, 32, 33, 34, 35, 36, 37, 38, 39, 40, 41, 42, 43, 44, 45, 46, 47, 48, 49, 50, 51, 52, 53, 54, 55, 56, 57, 58, 59, 60, 61, 62, 63, 64, 65, 66, 67, 68, 69, 70, 71, 72, 73, 74, 75, 76, 77, 78, 79, 80, 81, 82, 83, 84, 85, 86, 87] (by with_unfolding_all rfl) (by decide +kernel)
set_option maxRecDepth 20000 in
theorem gX11_oneThrow_X11_nextToken : GoodIn wsX11_oneThrow (wsV RX11 163 RX11 yX11_nextToken wsX11_nextToken) := goodIn_app (goodIn_of _ (by decide +kernel)) ggX11_oneThrow_X11_nextToken
theorem cx_set2 {jn : Nat} {f g : Nat → Int32} {hi x k : Int} (h : CellsX jn f 0 hi) (hk : 0 ≤ k) (hx : x = 2 * k) (hu : ∀ i : Int, 0 ≤ i → i ≠ x → i ≠ x + 1 → g i.toNat = f i.toNat) (h1 : CellX jn (g x.toNat)) (h2 : CellX jn (g (x + 1).toNat)) (hz : (g x.toNat).toInt = 0 → (g (x + 1).toNat).toInt = 0) : CellsX jn g 0 hi := by
  refine ⟨fun i i1 i2 => ?_, fun j j1 j2 => ?_⟩
  · by_cases e1 : i = x
    · rw [e1]; exact h1
    · by_cases e2 : i = x + 1
      · rw [e2]; exact h2
      · rw [hu i i1 e1 e2]; exact h.1 i i1 i2
  · by_cases e1 : j = k
    · have e3 : (0 : Int) + 2 * j = x := by omega
      rw [e3]; exact hz
    · rw [hu (0 + 2 * j) (by omega) (by omega) (by omega), hu (0 + 2 * j + 1) (by omega) (by omega) (by omega)]
      exact h.2 j j1 j2
theorem cx_0 {jn : Nat} (hj : 1 ≤ jn) {x : Int32} (h : x.toInt = 0) : CellX jn x := ⟨by omega, by omega, by omega, Or.inl h⟩
theorem cx_sub {jn : Nat} {f : Nat → Int32} {lo hi hi2 : Int} (h : CellsX jn f lo hi) (h2 : hi2 ≤ hi) : CellsX jn f lo hi2 := ⟨fun i i1 i2 => h.1 i i1 (by omega), fun k k1 k2 => h.2 k k1 (by omega)⟩
theorem cx_more0 {jn : Nat} (hj : 1 ≤ jn) {f : Nat → Int32} {lo hi hi2 : Int} (h : CellsX jn f lo hi) (hev : ∃ k, hi = lo + 2 * k) (hl : lo ≤ hi) (hz : ∀ i : Int, hi ≤ i → i < hi2 → (f i.toNat).toInt = 0) : CellsX jn f lo hi2 := by
  obtain ⟨k0, hk0⟩ := hev
  refine ⟨fun i i1 i2 => ?_, fun k k1 k2 q => ?_⟩
  · by_cases e : i < hi
    · exact h.1 i i1 e
    · exact cx_0 hj (hz i (by omega) i2)
  · by_cases e : lo + 2 * k + 1 < hi
    · exact h.2 k k1 e q
    · exact hz _ (by omega) k2
theorem cx_keep {jn : Nat} {f g : Nat → Int32} {lo hi : Int} (h : CellsX jn f lo hi) (hl : 0 ≤ lo) (hu : ∀ i : Int, 0 ≤ i → i < hi → g i.toNat = f i.toNat) : CellsX jn g lo hi := by
  refine ⟨fun i i1 i2 => ?_, fun k k1 k2 => ?_⟩
  · rw [hu i (by omega) i2]; exact h.1 i i1 i2
  · rw [hu (lo + 2 * k) (by omega) (by omega), hu (lo + 2 * k + 1) (by omega) k2]; exact h.2 k k1 k2
set_option maxRecDepth 100000 in
set_option maxHeartbeats 4000000 in
theorem k_fails (l : Launch) (D : va_G) (cI cR cM : ClassId) (sz : Nat) {jn mm : Nat} {q : Nat → Nat} {x0 x1 x2 x3 x4 x5 x6 x7 x8 x9 x10 x11 x12 x13 x14 x15 x16 x17 x18 x19 x20 : Int32} {f0 f1 f2 f3 f4 f5 f6 f7 f8 f9 f10 f11 f12 f13 f14 f15 f16 f17 f18 f19 f20 f21 f22 f23 f24 : Nat → Int32} {a b : Int32}   : Met l yX11_fails wsX11_fails ({ frames := 0, cells := 0, slots := 0, locals := 0 }) (P0 D cI cR cM [.ref mm, .int a, .int b] sz (mX mm q jn cI x0 x1 x2 x3 x4 x5 x6 x7 x8 x9 x10 x11 x12 x13 x14 x15 x16 x17 x18 x19 x20 f0 f1 f2 f3 f4 f5 f6 f7 f8 f9 f10 f11 f12 f13 f14 f15 f16 f17 f18 f19 f20 f21 f22 f23 f24)) (QG (S := Int32 × Int32) (fun u => some (.int u.1)) (fun u => mX mm q jn cI x0 x1 x2 x3 x4 x5 x6 x7 x8 (u.2) x10 x11 x12 x13 x14 x15 x16 x17 x18 x19 x20 f0 f1 f2 f3 f4 f5 f6 f7 f8 f9 f10 f11 f12 f13 f14 f15 f16 f17 f18 f19 f20 f21 f22 f23 f24) (fun u => (u.1.toInt = a.toInt)) D (va_A (mX mm q jn cI x0 x1 x2 x3 x4 x5 x6 x7 x8 x9 x10 x11 x12 x13 x14 x15 x16 x17 x18 x19 x20 f0 f1 f2 f3 f4 f5 f6 f7 f8 f9 f10 f11 f12 f13 f14 f15 f16 f17 f18 f19 f20 f21 f22 f23 f24) sz)) 0 0 (va_A (mX mm q jn cI x0 x1 x2 x3 x4 x5 x6 x7 x8 x9 x10 x11 x12 x13 x14 x15 x16 x17 x18 x19 x20 f0 f1 f2 f3 f4 f5 f6 f7 f8 f9 f10 f11 f12 f13 f14 f15 f16 f17 f18 f19 f20 f21 f22 f23 f24) sz) := by
  refine go (cc := cX11_fails) (maxL := 3) (ret := (some .int)) (by decide) rfl (Nat.le_of_ble_eq_true rfl) ?_
  intro p e s m below meth c ls args Q hQ hsz hx hb hr hml hts hown hlocks hnm hP hK hD hl
  subst hsz
  have hD := hD.self (sz := s.heap.size)
  generalize hAe : va_A (mX mm q jn cI x0 x1 x2 x3 x4 x5 x6 x7 x8 x9 x10 x11 x12 x13 x14 x15 x16 x17 x18 x19 x20 f0 f1 f2 f3 f4 f5 f6 f7 f8 f9 f10 f11 f12 f13 f14 f15 f16 f17 f18 f19 f20 f21 f22 f23 f24) s.heap.size = A at hD hQ
  have hA : ∀ q, s.heap.size ≤ q → A q := fun q h => by rw [← hAe]; exact Or.inr h
  have hS : va_S A s.heap s.heap [] := va_S.rf
  have hl : lv_has ls 3 [(0, .ref mm), (1, .int a), (2, .int b)] := hl
  refine lv_aload_n hx hb dX11_fails_0 rfl (lv_at hl 0 rfl) ?_
  refine lv_iload_n hx hb dX11_fails_1 rfl (lv_at hl 2 rfl) ?_
  refine mp_9 hx hb hts (by decide +kernel) hown hK hP hD hS (hts (.fieldLink RX11 148 "JugglingHallModel" "errorAt" "I") (by decide +kernel)) dX11_fails_2 (fun H locs hP hD hS => ?_)
  refine lv_iload_n hx hb dX11_fails_5 rfl (lv_at hl 1 rfl) ?_
  exact g_iret (a, b) hx hb hr hlocks hS rfl (show a.toInt = a.toInt from (by first | assumption | omega)) hP hD hQ (Nat.le_of_ble_eq_true rfl) (Nat.le_of_ble_eq_true rfl) dX11_fails_6
set_option maxRecDepth 100000 in
set_option maxHeartbeats 4000000 in
theorem k_many (l : Launch) (D : va_G) (cI cR cM : ClassId) (sz : Nat) {jn mm : Nat} {q : Nat → Nat} {x0 x1 x2 x3 x4 x5 x6 x7 x8 x9 x10 x11 x12 x13 x14 x15 x16 x17 x18 x19 x20 : Int32} {f0 f1 f2 f3 f4 f5 f6 f7 f8 f9 f10 f11 f12 f13 f14 f15 f16 f17 f18 f19 f20 f21 f22 f23 f24 : Nat → Int32}  (h11 : 0 ≤ x11.toInt ∧ x11.toInt ≤ 6) (h10 : 0 ≤ x10.toInt ∧ x10.toInt ≤ 300) (hs : 0 ≤ (f6 x11.toInt.toNat).toInt ∧ (f6 x11.toInt.toNat).toInt ≤ 300) : Met l yX11_many wsX11_many ({ frames := 0, cells := 0, slots := 0, locals := 0 }) (P0 D cI cR cM [.ref mm] sz (mX mm q jn cI x0 x1 x2 x3 x4 x5 x6 x7 x8 x9 x10 x11 x12 x13 x14 x15 x16 x17 x18 x19 x20 f0 f1 f2 f3 f4 f5 f6 f7 f8 f9 f10 f11 f12 f13 f14 f15 f16 f17 f18 f19 f20 f21 f22 f23 f24)) (QP (fun r => (r.toInt = x10.toInt - (f6 x11.toInt.toNat).toInt)) sz) 0 0 (va_A [] sz) := by
  refine go (cc := cX11_many) (maxL := 1) (ret := (some .int)) (by decide) rfl (Nat.le_of_ble_eq_true rfl) ?_
  intro p e s m below meth c ls args Q hQ hsz hx hb hr hml hts hown hlocks hnm hP hK hD hl
  subst hsz
  have hS : va_S (va_A [] s.heap.size) s.heap s.heap [] := va_S.rf
  have hA : ∀ q, s.heap.size ≤ q → va_A [] s.heap.size q := fun q h => Or.inr h
  have hl : lv_has ls 1 [(0, .ref mm)] := hl
  refine lv_aload_n hx hb dX11_many_0 rfl (lv_at hl 0 rfl) ?_
  refine va_get (D := D) (ci := 11) (v := .int x10) (C := RX11) (T := TX11) (N := 47) hx hb hts (by decide +kernel) hown hK.1 hP 0 rfl rfl 19 (by decide) (hts (.fieldLink RX11 151 "JugglingHallModel" "top" "I") (by decide +kernel)) (fun _ h9 => h9) rfl dX11_many_1 ?_
  refine lv_aload_n hx hb dX11_many_4 rfl (lv_at hl 0 rfl) ?_
  refine va_get (D := D) (ci := 11) (v := .ref (q 6)) (C := RX11) (T := TX11) (N := 47) hx hb hts (by decide +kernel) hown hK.1 hP 0 rfl rfl 17 (by decide) (hts (.fieldLink RX11 36 "JugglingHallModel" "starts" "[I") (by decide +kernel)) (fun _ h9 => h9) rfl dX11_many_5 ?_
  refine lv_aload_n hx hb dX11_many_8 rfl (lv_at hl 0 rfl) ?_
  refine va_get (D := D) (ci := 11) (v := .int x11) (C := RX11) (T := TX11) (N := 47) hx hb hts (by decide +kernel) hown hK.1 hP 0 rfl rfl 20 (by decide) (hts (.fieldLink RX11 154 "JugglingHallModel" "depth" "I") (by decide +kernel)) (fun _ h9 => h9) rfl dX11_many_9 ?_
  refine a_iald (f := f6) (u := x11.toInt) hx hb hK.1 hP 7 0 rfl rfl dX11_many_12 (rfl) (by omega) (fun z_1 q_1 e_1 => ?_)
  refine a_isub (u := x10.toInt) (v := z_1.toInt) hx hb dX11_many_13 (rfl) (rfl) (by omega) (fun z_2 e_2 => ?_)
  exact rp_iret hx hb hr hlocks hS (show z_2.toInt = x10.toInt - (f6 x11.toInt.toNat).toInt from (by first | assumption | omega)) hQ dX11_many_14
set_option maxRecDepth 100000 in
set_option maxHeartbeats 4000000 in
theorem k_mod (l : Launch) (D : va_G) (cI cR cM : ClassId) (sz : Nat) {a b : Int32}  (h1 : -100000 ≤ a.toInt ∧ a.toInt ≤ 100000) (h2 : 1 ≤ b.toInt ∧ b.toInt ≤ 100000) : Met l yX11_mod wsX11_mod ({ frames := 0, cells := 0, slots := 0, locals := 0 }) (P0 D cI cR cM [.int a, .int b] sz []) (QP (fun r => (0 ≤ r.toInt ∧ r.toInt < b.toInt)) sz) 0 0 (va_A [] sz) := by
  refine go (cc := cX11_mod) (maxL := 2) (ret := (some .int)) (by decide) rfl (Nat.le_of_ble_eq_true rfl) ?_
  intro p e s m below meth c ls args Q hQ hsz hx hb hr hml hts hown hlocks hnm hP hK hD hl
  subst hsz
  have hS : va_S (va_A [] s.heap.size) s.heap s.heap [] := va_S.rf
  have hA : ∀ q, s.heap.size ≤ q → va_A [] s.heap.size q := fun q h => Or.inr h
  have hl : lv_has ls 2 [(0, .int a), (1, .int b)] := hl
  refine lv_iload_n hx hb dX11_mod_0 rfl (lv_at hl 0 rfl) ?_
  refine lv_iload_n hx hb dX11_mod_1 rfl (lv_at hl 1 rfl) ?_
  refine a_iremS (u := a.toInt) (v := b.toInt) hx hb dX11_mod_2 (rfl) (rfl) (by omega) (fun z_1 e_1 h_1 k_1 => ?_)
  refine lv_iload_n hx hb dX11_mod_3 rfl (lv_at hl 1 rfl) ?_
  refine a_iadd (u := z_1.toInt) (v := b.toInt) hx hb dX11_mod_4 (rfl) (rfl) (by omega) (fun z_2 e_2 => ?_)
  refine lv_iload_n hx hb dX11_mod_5 rfl (lv_at hl 1 rfl) ?_
  refine a_irem (u := (z_1.toInt + b.toInt)) (v := b.toInt) hx hb dX11_mod_6 (e_2) (rfl) (by omega) (fun z_3 e_3 h_3 k_3 => ?_)
  exact rp_iret hx hb hr hlocks hS (show 0 ≤ z_3.toInt ∧ z_3.toInt < b.toInt from (by first | assumption | omega)) hQ dX11_mod_7
set_option maxRecDepth 100000 in
set_option maxHeartbeats 4000000 in
theorem k_order (l : Launch) (D : va_G) (cI cR cM : ClassId) (sz : Nat) {aa NN : Nat} {fA : Nat → Int32} {x : Int32}  (h1 : 0 ≤ x.toInt ∧ x.toInt + 1 < NN) (ha : 0 ≤ (fA x.toInt.toNat).toInt ∧ ((fA x.toInt.toNat).toInt = 0 ∨ 4 ≤ (fA x.toInt.toNat).toInt)) (hb9 : 0 ≤ (fA (x.toInt + 1).toNat).toInt ∧ ((fA (x.toInt + 1).toNat).toInt = 0 ∨ 4 ≤ (fA (x.toInt + 1).toNat).toInt)) (hN : NN ≤ 100000) : Met l yX11_order wsX11_order ({ frames := 0, cells := 0, slots := 0, locals := 0 }) (P0 D cI cR cM [.ref aa, .int x] sz [(aa, .inl (cI, NN, .inl fA))]) (QG (S := Nat → Int32) (fun u => none) (fun u => [(aa, .inl (cI, NN, .inl u))]) (fun u => (∀ i : Int, 0 ≤ i → i ≠ x.toInt → i ≠ x.toInt + 1 → u i.toNat = fA i.toNat) ∧ ((u x.toInt.toNat = fA x.toInt.toNat ∧ u (x.toInt + 1).toNat = fA (x.toInt + 1).toNat) ∨ (u x.toInt.toNat = fA (x.toInt + 1).toNat ∧ u (x.toInt + 1).toNat = fA x.toInt.toNat)) ∧ ((u x.toInt.toNat).toInt = 0 → (u (x.toInt + 1).toNat).toInt = 0)) D (va_A [(aa, .inl (cI, NN, .inl fA))] sz)) 0 0 (va_A [(aa, .inl (cI, NN, .inl fA))] sz) := by
  refine go (cc := cX11_order) (maxL := 4) (ret := none) (by decide) rfl (Nat.le_of_ble_eq_true rfl) ?_
  intro p e s m below meth c ls args Q hQ hsz hx hb hr hml hts hown hlocks hnm hP hK hD hl
  subst hsz
  have hD := hD.self (sz := s.heap.size)
  generalize hAe : va_A [(aa, .inl (cI, NN, .inl fA))] s.heap.size = A at hD hQ
  have hA : ∀ q, s.heap.size ≤ q → A q := fun q h => by rw [← hAe]; exact Or.inr h
  have hS : va_S A s.heap s.heap [] := va_S.rf
  have hl : lv_has ls 4 [(0, .ref aa), (1, .int x)] := hl
  refine lv_aload_n hx hb dX11_order_0 rfl (lv_at hl 0 rfl) ?_
  refine lv_iload_n hx hb dX11_order_1 rfl (lv_at hl 1 rfl) ?_
  refine a_iald (f := fA) (u := x.toInt) hx hb hK.1 hP 0 0 rfl rfl dX11_order_2 (rfl) (by omega) (fun z_1 q_1 e_1 => ?_)
  refine lv_istore_n (lv' := [(2, .int z_1), (0, .ref aa), (1, .int x)]) hx hb dX11_order_3 rfl hl (by decide) rfl (fun ls hl => ?_)
  refine lv_aload_n hx hb dX11_order_4 rfl (lv_at hl 1 rfl) ?_
  refine lv_iload_n hx hb dX11_order_5 rfl (lv_at hl 2 rfl) ?_
  refine lv_iconst (v := 1) hx hb dX11_order_6 (by decide) ?_
  refine a_iadd (u := x.toInt) (v := 1) hx hb dX11_order_7 (rfl) (by decide) (by omega) (fun z_2 e_2 => ?_)
  refine a_iald (f := fA) (u := (x.toInt + 1)) hx hb hK.1 hP 0 0 rfl rfl dX11_order_8 (e_2) (by omega) (fun z_3 q_3 e_3 => ?_)
  refine lv_istore_n (lv' := [(3, .int z_3), (2, .int z_1), (0, .ref aa), (1, .int x)]) hx hb dX11_order_9 rfl hl (by decide) rfl (fun ls hl => ?_)
  refine lv_iload_n hx hb dX11_order_10 rfl (lv_at hl 0 rfl) ?_
  refine lv_iconst (v := 4) hx hb dX11_order_11 (by decide) ?_
  refine a_idiv (u := z_3.toInt) (v := 4) hx hb dX11_order_12 (rfl) (by decide) (by omega) (fun z_4 e_4 => ?_)
  refine lv_iload_n hx hb dX11_order_13 rfl (lv_at hl 1 rfl) ?_
  refine lv_iconst (v := 4) hx hb dX11_order_14 (by decide) ?_
  refine a_idiv (u := z_1.toInt) (v := 4) hx hb dX11_order_15 (rfl) (by decide) (by omega) (fun z_5 e_5 => ?_)
  refine a_icmp_gt (u := (z_3.toInt / 4)) (v := (z_1.toInt / 4)) (tgt := 37) hx hb dX11_order_16 (by decide) (e_4) (e_5) (fun c_6 => ?_) (fun c_6 => ?_)
  · refine lv_aload_n hx hb dX11_order_37 rfl (lv_at hl 2 rfl) ?_
    refine lv_iload_n hx hb dX11_order_38 rfl (lv_at hl 3 rfl) ?_
    refine lv_iload_n hx hb dX11_order_39 rfl (lv_at hl 0 rfl) ?_
    refine a_iast (f := fA) (u := x.toInt) hx hb hK.1 hP hD hS 0 0 rfl rfl dX11_order_40 (rfl) (by omega) (fun g_7 H locs eg_7 hP hD hS => ?_)
    have hP : va_P D vwCl [(aa, .inl (cI, NN, .inl g_7))] H := hP
    have hD : va_D A [(aa, .inl (cI, NN, .inl g_7))] := hD
    skip
    refine lv_aload_n hx hb dX11_order_41 rfl (lv_at hl 2 rfl) ?_
    refine lv_iload_n hx hb dX11_order_42 rfl (lv_at hl 3 rfl) ?_
    refine lv_iconst (v := 1) hx hb dX11_order_43 (by decide) ?_
    refine a_iadd (u := x.toInt) (v := 1) hx hb dX11_order_44 (rfl) (by decide) (by omega) (fun z_8 e_8 => ?_)
    refine lv_iload_n hx hb dX11_order_45 rfl (lv_at hl 1 rfl) ?_
    refine a_iast (f := g_7) (u := (x.toInt + 1)) hx hb hK.1 hP hD hS 0 0 rfl rfl dX11_order_46 (e_8) (by omega) (fun g_9 H locs eg_9 hP hD hS => ?_)
    have hP : va_P D vwCl [(aa, .inl (cI, NN, .inl g_9))] H := hP
    have hD : va_D A [(aa, .inl (cI, NN, .inl g_9))] := hD
    exact g_vret g_9 hx hb hr hlocks hS rfl (⟨show ∀ i : Int, 0 ≤ i → i ≠ x.toInt → i ≠ x.toInt + 1 → g_9 i.toNat = fA i.toNat from (fun i i0 i1 i2 => by rw [eg_9, un_i i0 (by omega) i2, eg_7, un_i i0 (by omega) i1]), show (g_9 x.toInt.toNat = fA x.toInt.toNat ∧ g_9 (x.toInt + 1).toNat = fA (x.toInt + 1).toNat) ∨ (g_9 x.toInt.toNat = fA (x.toInt + 1).toNat ∧ g_9 (x.toInt + 1).toNat = fA x.toInt.toNat) from (by have t1 : g_9 x.toInt.toNat = z_3 := (by rw [eg_9, un_i (by omega) (by omega) (by omega), eg_7, pk_us]); have t2 : g_9 (x.toInt + 1).toNat = z_1 := (by rw [eg_9, pk_us]); rw [t1, t2]; exact Or.inr ⟨q_3, q_1⟩), show (g_9 x.toInt.toNat).toInt = 0 → (g_9 (x.toInt + 1).toNat).toInt = 0 from (by have t1 : g_9 x.toInt.toNat = z_3 := (by rw [eg_9, un_i (by omega) (by omega) (by omega), eg_7, pk_us]); have t2 : g_9 (x.toInt + 1).toNat = z_1 := (by rw [eg_9, pk_us]); rw [t1, t2]; omega)⟩) hP hD hQ (Nat.le_of_ble_eq_true rfl) (Nat.le_of_ble_eq_true rfl) dX11_order_47
  · refine lv_iload_n hx hb dX11_order_19 rfl (lv_at hl 0 rfl) ?_
    refine lv_iconst (v := 4) hx hb dX11_order_20 (by decide) ?_
    refine a_idiv (u := z_3.toInt) (v := 4) hx hb dX11_order_21 (rfl) (by decide) (by omega) (fun z_10 e_10 => ?_)
    refine lv_iload_n hx hb dX11_order_22 rfl (lv_at hl 1 rfl) ?_
    refine lv_iconst (v := 4) hx hb dX11_order_23 (by decide) ?_
    refine a_idiv (u := z_1.toInt) (v := 4) hx hb dX11_order_24 (rfl) (by decide) (by omega) (fun z_11 e_11 => ?_)
    refine a_icmp_ne (u := (z_3.toInt / 4)) (v := (z_1.toInt / 4)) (tgt := 47) hx hb dX11_order_25 (by decide) (e_10) (e_11) (fun c_12 => ?_) (fun c_12 => ?_)
    · exact g_vret fA hx hb hr hlocks hS rfl (⟨show ∀ i : Int, 0 ≤ i → i ≠ x.toInt → i ≠ x.toInt + 1 → fA i.toNat = fA i.toNat from (fun _ _ _ _ => rfl), show (fA x.toInt.toNat = fA x.toInt.toNat ∧ fA (x.toInt + 1).toNat = fA (x.toInt + 1).toNat) ∨ (fA x.toInt.toNat = fA (x.toInt + 1).toNat ∧ fA (x.toInt + 1).toNat = fA x.toInt.toNat) from (Or.inl ⟨rfl, rfl⟩), show (fA x.toInt.toNat).toInt = 0 → (fA (x.toInt + 1).toNat).toInt = 0 from (by omega)⟩) hP hD hQ (Nat.le_of_ble_eq_true rfl) (Nat.le_of_ble_eq_true rfl) dX11_order_47
    · refine lv_iload_n hx hb dX11_order_28 rfl (lv_at hl 0 rfl) ?_
      refine lv_iconst (v := 4) hx hb dX11_order_29 (by decide) ?_
      refine a_irem (u := z_3.toInt) (v := 4) hx hb dX11_order_30 (rfl) (by decide) (by omega) (fun z_13 e_13 h_13 k_13 => ?_)
      refine lv_iload_n hx hb dX11_order_31 rfl (lv_at hl 1 rfl) ?_
      refine lv_iconst (v := 4) hx hb dX11_order_32 (by decide) ?_
      refine a_irem (u := z_1.toInt) (v := 4) hx hb dX11_order_33 (rfl) (by decide) (by omega) (fun z_14 e_14 h_14 k_14 => ?_)
      refine a_icmp_ge (u := z_13.toInt) (v := z_14.toInt) (tgt := 47) hx hb dX11_order_34 (by decide) (rfl) (rfl) (fun c_15 => ?_) (fun c_15 => ?_)
      · exact g_vret fA hx hb hr hlocks hS rfl (⟨show ∀ i : Int, 0 ≤ i → i ≠ x.toInt → i ≠ x.toInt + 1 → fA i.toNat = fA i.toNat from (fun _ _ _ _ => rfl), show (fA x.toInt.toNat = fA x.toInt.toNat ∧ fA (x.toInt + 1).toNat = fA (x.toInt + 1).toNat) ∨ (fA x.toInt.toNat = fA (x.toInt + 1).toNat ∧ fA (x.toInt + 1).toNat = fA x.toInt.toNat) from (Or.inl ⟨rfl, rfl⟩), show (fA x.toInt.toNat).toInt = 0 → (fA (x.toInt + 1).toNat).toInt = 0 from (by omega)⟩) hP hD hQ (Nat.le_of_ble_eq_true rfl) (Nat.le_of_ble_eq_true rfl) dX11_order_47
      · refine lv_aload_n hx hb dX11_order_37 rfl (lv_at hl 2 rfl) ?_
        refine lv_iload_n hx hb dX11_order_38 rfl (lv_at hl 3 rfl) ?_
        refine lv_iload_n hx hb dX11_order_39 rfl (lv_at hl 0 rfl) ?_
        refine a_iast (f := fA) (u := x.toInt) hx hb hK.1 hP hD hS 0 0 rfl rfl dX11_order_40 (rfl) (by omega) (fun g_16 H locs eg_16 hP hD hS => ?_)
        have hP : va_P D vwCl [(aa, .inl (cI, NN, .inl g_16))] H := hP
        have hD : va_D A [(aa, .inl (cI, NN, .inl g_16))] := hD
        skip
        refine lv_aload_n hx hb dX11_order_41 rfl (lv_at hl 2 rfl) ?_
        refine lv_iload_n hx hb dX11_order_42 rfl (lv_at hl 3 rfl) ?_
        refine lv_iconst (v := 1) hx hb dX11_order_43 (by decide) ?_
        refine a_iadd (u := x.toInt) (v := 1) hx hb dX11_order_44 (rfl) (by decide) (by omega) (fun z_17 e_17 => ?_)
        refine lv_iload_n hx hb dX11_order_45 rfl (lv_at hl 1 rfl) ?_
        refine a_iast (f := g_16) (u := (x.toInt + 1)) hx hb hK.1 hP hD hS 0 0 rfl rfl dX11_order_46 (e_17) (by omega) (fun g_18 H locs eg_18 hP hD hS => ?_)
        have hP : va_P D vwCl [(aa, .inl (cI, NN, .inl g_18))] H := hP
        have hD : va_D A [(aa, .inl (cI, NN, .inl g_18))] := hD
        exact g_vret g_18 hx hb hr hlocks hS rfl (⟨show ∀ i : Int, 0 ≤ i → i ≠ x.toInt → i ≠ x.toInt + 1 → g_18 i.toNat = fA i.toNat from (fun i i0 i1 i2 => by rw [eg_18, un_i i0 (by omega) i2, eg_16, un_i i0 (by omega) i1]), show (g_18 x.toInt.toNat = fA x.toInt.toNat ∧ g_18 (x.toInt + 1).toNat = fA (x.toInt + 1).toNat) ∨ (g_18 x.toInt.toNat = fA (x.toInt + 1).toNat ∧ g_18 (x.toInt + 1).toNat = fA x.toInt.toNat) from (by have t1 : g_18 x.toInt.toNat = z_3 := (by rw [eg_18, un_i (by omega) (by omega) (by omega), eg_16, pk_us]); have t2 : g_18 (x.toInt + 1).toNat = z_1 := (by rw [eg_18, pk_us]); rw [t1, t2]; exact Or.inr ⟨q_3, q_1⟩), show (g_18 x.toInt.toNat).toInt = 0 → (g_18 (x.toInt + 1).toNat).toInt = 0 from (by have t1 : g_18 x.toInt.toNat = z_3 := (by rw [eg_18, un_i (by omega) (by omega) (by omega), eg_16, pk_us]); have t2 : g_18 (x.toInt + 1).toNat = z_1 := (by rw [eg_18, pk_us]); rw [t1, t2]; omega)⟩) hP hD hQ (Nat.le_of_ble_eq_true rfl) (Nat.le_of_ble_eq_true rfl) dX11_order_47
set_option maxRecDepth 100000 in
set_option maxHeartbeats 4000000 in
theorem k_oneThrow (l : Launch) (D : va_G) (cI cR cM : ClassId) (sz : Nat) {jn mm : Nat} {q : Nat → Nat} {x0 x1 x2 x3 x4 x5 x6 x7 x8 x9 x10 x11 x12 x13 x14 x15 x16 x17 x18 x19 x20 : Int32} {f0 f1 f2 f3 f4 f5 f6 f7 f8 f9 f10 f11 f12 f13 f14 f15 f16 f17 f18 f19 f20 f21 f22 f23 f24 : Nat → Int32} {j : Int32}  (ht : 0 ≤ x2.toInt ∧ x2.toInt ≤ 300) (h5 : 0 ≤ x5.toInt ∧ x5.toInt ≤ x2.toInt) (hT : TokOK x7 x8) (hj : 1 ≤ jn ∧ jn ≤ 3) (hjj : 0 ≤ j.toInt ∧ j.toInt < (jn : Int)) : Met l yX11_oneThrow wsX11_oneThrow ({ frames := 4, cells := 0, slots := 0, locals := 88 }) (P0 D cI cR cM [.ref mm, .int j] sz (mX mm q jn cI x0 x1 x2 x3 x4 x5 x6 x7 x8 x9 x10 x11 x12 x13 x14 x15 x16 x17 x18 x19 x20 f0 f1 f2 f3 f4 f5 f6 f7 f8 f9 f10 f11 f12 f13 f14 f15 f16 f17 f18 f19 f20 f21 f22 f23 f24)) (QG (S := Int32 × Int32 × Int32 × Int32 × Int32 × Int32 × Int32 × Int32) (fun u => some (.int u.1)) (fun u => mX mm q jn cI x0 x1 x2 x3 x4 (u.2.1) (u.2.2.1) (u.2.2.2.1) (u.2.2.2.2.1) (u.2.2.2.2.2.1) x10 x11 x12 (u.2.2.2.2.2.2.1) (u.2.2.2.2.2.2.2) x15 x16 x17 x18 x19 x20 f0 f1 f2 f3 f4 f5 f6 f7 f8 f9 f10 f11 f12 f13 f14 f15 f16 f17 f18 f19 f20 f21 f22 f23 f24) (fun u => (x5.toInt ≤ u.2.1.toInt ∧ u.2.1.toInt ≤ x2.toInt) ∧ (TokOK u.2.2.2.1 u.2.2.2.2.1) ∧ (u.1.toInt = 0 → x5.toInt < u.2.1.toInt ∨ u.2.2.2.1.toInt = 0) ∧ (u.1.toInt = 0 → CellX jn u.2.2.2.2.2.2.1) ∧ (u.1.toInt = 0 → x7.toInt = 1)) D (va_A (mX mm q jn cI x0 x1 x2 x3 x4 x5 x6 x7 x8 x9 x10 x11 x12 x13 x14 x15 x16 x17 x18 x19 x20 f0 f1 f2 f3 f4 f5 f6 f7 f8 f9 f10 f11 f12 f13 f14 f15 f16 f17 f18 f19 f20 f21 f22 f23 f24) sz)) 0 0 (va_A (mX mm q jn cI x0 x1 x2 x3 x4 x5 x6 x7 x8 x9 x10 x11 x12 x13 x14 x15 x16 x17 x18 x19 x20 f0 f1 f2 f3 f4 f5 f6 f7 f8 f9 f10 f11 f12 f13 f14 f15 f16 f17 f18 f19 f20 f21 f22 f23 f24) sz) := by
  refine go (cc := cX11_oneThrow) (maxL := 4) (ret := (some .int)) (by decide) rfl (Nat.le_of_ble_eq_true rfl) ?_
  intro p e s m below meth c ls args Q hQ hsz hx hb hr hml hts hown hlocks hnm hP hK hD hl
  subst hsz
  have hD := hD.self (sz := s.heap.size)
  generalize hAe : va_A (mX mm q jn cI x0 x1 x2 x3 x4 x5 x6 x7 x8 x9 x10 x11 x12 x13 x14 x15 x16 x17 x18 x19 x20 f0 f1 f2 f3 f4 f5 f6 f7 f8 f9 f10 f11 f12 f13 f14 f15 f16 f17 f18 f19 f20 f21 f22 f23 f24) s.heap.size = A at hD hQ
  have hA : ∀ q, s.heap.size ≤ q → A q := fun q h => by rw [← hAe]; exact Or.inr h
  have hS : va_S A s.heap s.heap [] := va_S.rf
  have hl : lv_has ls 4 [(0, .ref mm), (1, .int j)] := hl
  refine lv_aload_n hx hb dX11_oneThrow_0 rfl (lv_at hl 0 rfl) ?_
  refine va_get (D := D) (ci := 11) (v := .int x7) (C := RX11) (T := TX11) (N := 47) hx hb hts (by decide +kernel) hown hK.1 hP 0 rfl rfl 11 (by decide) (hts (.fieldLink RX11 131 "JugglingHallModel" "token" "I") (by decide +kernel)) (fun _ h9 => h9) rfl dX11_oneThrow_1 ?_
  refine lv_iconst (v := 1) hx hb dX11_oneThrow_4 (by decide) ?_
  refine a_icmp_eq (u := x7.toInt) (v := 1) (tgt := 18) hx hb dX11_oneThrow_5 (by decide) (rfl) (by decide) (fun c_1 => ?_) (fun c_1 => ?_)
  · have hv2 := hT.2.1 (by omega)
    refine lv_aload_n hx hb dX11_oneThrow_18 rfl (lv_at hl 0 rfl) ?_
    refine va_get (D := D) (ci := 11) (v := .int x8) (C := RX11) (T := TX11) (N := 47) hx hb hts (by decide +kernel) hown hK.1 hP 0 rfl rfl 12 (by decide) (hts (.fieldLink RX11 138 "JugglingHallModel" "value" "I") (by decide +kernel)) (fun _ h9 => h9) rfl dX11_oneThrow_19 ?_
    refine lv_istore_n (lv' := [(2, .int x8), (0, .ref mm), (1, .int j)]) hx hb dX11_oneThrow_22 rfl hl (by decide) rfl (fun ls hl => ?_)
    refine lv_iload_n hx hb dX11_oneThrow_23 rfl (lv_at hl 2 rfl) ?_
    refine lv_istore_n (lv' := [(3, .int j), (2, .int x8), (0, .ref mm), (1, .int j)]) hx hb dX11_oneThrow_24 rfl hl (by decide) rfl (fun ls hl => ?_)
    refine lv_aload_n hx hb dX11_oneThrow_25 rfl (lv_at hl 2 rfl) ?_
    refine lv_aload_n hx hb dX11_oneThrow_26 rfl (lv_at hl 2 rfl) ?_
    refine va_get (D := D) (ci := 11) (v := .int x6) (C := RX11) (T := TX11) (N := 47) hx hb hts (by decide +kernel) hown hK.1 hP 0 rfl rfl 10 (by decide) (hts (.fieldLink RX11 120 "JugglingHallModel" "place" "I") (by decide +kernel)) (fun _ h9 => h9) rfl dX11_oneThrow_27 ?_
    refine mp_14 hx hb hts (by decide +kernel) hown hK hP hD hS (hts (.fieldLink RX11 160 "JugglingHallModel" "lastPlace" "I") (by decide +kernel)) dX11_oneThrow_30 (fun H locs hP hD hS => ?_)
    refine lv_aload_n hx hb dX11_oneThrow_33 rfl (lv_at hl 2 rfl) ?_
    refine call_g (wr := []) (va_runV (As := []) (rest := []) ⟨hx, hb, hml, hown, hts⟩ (k_next l D cI cR cM _  (by first | assumption | omega) (by first | assumption | omega)) (cwV 0 hts gX11_oneThrow_X11_nextToken rfl rfl rfl (by decide +kernel) ⟨Nat.le_of_ble_eq_true rfl, Nat.le_of_ble_eq_true rfl⟩) (pre_V hK hP hD 0 11 rfl rfl) rfl rfl hl.1 rfl (lv_room (Nat.le_of_ble_eq_true rfl)) dX11_oneThrow_34 ⟨Nat.le_of_ble_eq_true rfl, Nat.le_of_ble_eq_true rfl⟩) hP hD hS hA [0, 1, 2, 3, 4, 5, 6, 7, 8, 9, 10, 11, 12, 13, 14, 15, 16, 17, 18, 19, 20, 21, 22, 23, 24, 25] [] (by with_unfolding_all rfl) rfl (by decide) (by decide) (fun u_3 H locs hw hP hD hS => ?_)
    obtain ⟨y5_3, y6_3, y7_3, y8_3⟩ := u_3
    have hP : va_P D vwCl (mX mm q jn cI x0 x1 x2 x3 x4 y5_3 y6_3 y7_3 y8_3 x9 x10 x11 x12 x13 x6 x15 x16 x17 x18 x19 x20 f0 f1 f2 f3 f4 f5 f6 f7 f8 f9 f10 f11 f12 f13 f14 f15 f16 f17 f18 f19 f20 f21 f22 f23 f24) H := hP
    have hD : va_D A (mX mm q jn cI x0 x1 x2 x3 x4 y5_3 y6_3 y7_3 y8_3 x9 x10 x11 x12 x13 x6 x15 x16 x17 x18 x19 x20 f0 f1 f2 f3 f4 f5 f6 f7 f8 f9 f10 f11 f12 f13 f14 f15 f16 f17 f18 f19 f20 f21 f22 f23 f24) := hD
    obtain ⟨ha_3, hp_3, hk_3, hT_3⟩ : (x5.toInt ≤ y5_3.toInt ∧ y5_3.toInt ≤ x2.toInt) ∧ (0 ≤ y6_3.toInt ∧ y6_3.toInt ≤ 300) ∧ (y7_3.toInt = 0 ∨ x5.toInt < y5_3.toInt) ∧ (TokOK y7_3 y8_3) := hw
    refine lv_aload_n hx hb dX11_oneThrow_37 rfl (lv_at hl 2 rfl) ?_
    refine va_get (D := D) (ci := 11) (v := .int y7_3) (C := RX11) (T := TX11) (N := 47) hx hb hts (by decide +kernel) hown hK.1 hP 0 rfl rfl 11 (by decide) (hts (.fieldLink RX11 131 "JugglingHallModel" "token" "I") (by decide +kernel)) (fun _ h9 => h9) rfl dX11_oneThrow_38 ?_
    refine lv_iconst (v := 4) hx hb dX11_oneThrow_41 (by decide) ?_
    refine a_icmp_ne (u := y7_3.toInt) (v := 4) (tgt := 105) hx hb dX11_oneThrow_42 (by decide) (rfl) (by decide) (fun c_4 => ?_) (fun c_4 => ?_)
    · refine lv_aload_n hx hb dX11_oneThrow_105 rfl (lv_at hl 2 rfl) ?_
      refine lv_iload_n hx hb dX11_oneThrow_106 rfl (lv_at hl 1 rfl) ?_
      refine a_if_ne (u := x8.toInt) (tgt := 114) hx hb dX11_oneThrow_107 (by decide) (rfl) (fun c_5 => ?_) (fun c_5 => ?_)
      · refine lv_iconst (v := 4) hx hb dX11_oneThrow_114 (by decide) ?_
        refine lv_iload_n hx hb dX11_oneThrow_115 rfl (lv_at hl 1 rfl) ?_
        refine a_imul (u := 4) (v := x8.toInt) hx hb dX11_oneThrow_116 (by decide) (rfl) (by omega) (fun z_6 e_6 => ?_)
        refine lv_iload_n hx hb dX11_oneThrow_117 rfl (lv_at hl 0 rfl) ?_
        refine a_iadd (u := (4 * x8.toInt)) (v := j.toInt) hx hb dX11_oneThrow_118 (e_6) (rfl) (by omega) (fun z_7 e_7 => ?_)
        refine mp_13 hx hb hts (by decide +kernel) hown hK hP hD hS (hts (.fieldLink RX11 166 "JugglingHallModel" "made" "I") (by decide +kernel)) dX11_oneThrow_119 (fun H locs hP hD hS => ?_)
        refine lv_iconst (v := 0) hx hb dX11_oneThrow_122 (by decide) ?_
        have hz_8 : (0 : Int32).toInt = 0 := by decide
        exact g_iret ((0 : Int32), y5_3, y6_3, y7_3, y8_3, x9, z_7, x6) hx hb hr hlocks hS rfl (⟨show x5.toInt ≤ y5_3.toInt ∧ y5_3.toInt ≤ x2.toInt from (by first | assumption | omega), show TokOK y7_3 y8_3 from (by first | assumption | omega), show (0 : Int32).toInt = 0 → x5.toInt < y5_3.toInt ∨ y7_3.toInt = 0 from (by first | assumption | omega), show (0 : Int32).toInt = 0 → CellX jn z_7 from (fun _ => ⟨by omega, by omega, by omega, by omega⟩), show (0 : Int32).toInt = 0 → x7.toInt = 1 from (by first | assumption | omega)⟩) hP hD hQ (Nat.le_of_ble_eq_true rfl) (Nat.le_of_ble_eq_true rfl) dX11_oneThrow_123
      · refine lv_iconst (v := 0) hx hb dX11_oneThrow_110 (by decide) ?_
        refine lv_goto (tgt := 119) hx hb dX11_oneThrow_111 (by decide) ?_
        refine mp_13 hx hb hts (by decide +kernel) hown hK hP hD hS (hts (.fieldLink RX11 166 "JugglingHallModel" "made" "I") (by decide +kernel)) dX11_oneThrow_119 (fun H locs hP hD hS => ?_)
        refine lv_iconst (v := 0) hx hb dX11_oneThrow_122 (by decide) ?_
        have hz_9 : (0 : Int32).toInt = 0 := by decide
        have hz_10 : (0 : Int32).toInt = 0 := by decide
        exact g_iret ((0 : Int32), y5_3, y6_3, y7_3, y8_3, x9, (0 : Int32), x6) hx hb hr hlocks hS rfl (⟨show x5.toInt ≤ y5_3.toInt ∧ y5_3.toInt ≤ x2.toInt from (by first | assumption | omega), show TokOK y7_3 y8_3 from (by first | assumption | omega), show (0 : Int32).toInt = 0 → x5.toInt < y5_3.toInt ∨ y7_3.toInt = 0 from (by first | assumption | omega), show (0 : Int32).toInt = 0 → CellX jn (0 : Int32) from (fun _ => ⟨by omega, by omega, by omega, by omega⟩), show (0 : Int32).toInt = 0 → x7.toInt = 1 from (by first | assumption | omega)⟩) hP hD hQ (Nat.le_of_ble_eq_true rfl) (Nat.le_of_ble_eq_true rfl) dX11_oneThrow_123
    · refine lv_aload_n hx hb dX11_oneThrow_45 rfl (lv_at hl 2 rfl) ?_
      refine call_g (wr := []) (va_runV (As := []) (rest := []) ⟨hx, hb, hml, hown, hts⟩ (k_next l D cI cR cM _  (by first | assumption | omega) (by first | assumption | omega)) (cwV 0 hts gX11_oneThrow_X11_nextToken rfl rfl rfl (by decide +kernel) ⟨Nat.le_of_ble_eq_true rfl, Nat.le_of_ble_eq_true rfl⟩) (pre_V hK hP hD 0 11 rfl rfl) rfl rfl hl.1 rfl (lv_room (Nat.le_of_ble_eq_true rfl)) dX11_oneThrow_46 ⟨Nat.le_of_ble_eq_true rfl, Nat.le_of_ble_eq_true rfl⟩) hP hD hS hA [0, 1, 2, 3, 4, 5, 6, 7, 8, 9, 10, 11, 12, 13, 14, 15, 16, 17, 18, 19, 20, 21, 22, 23, 24, 25] [] (by with_unfolding_all rfl) rfl (by decide) (by decide) (fun u_11 H locs hw hP hD hS => ?_)
      obtain ⟨y5_11, y6_11, y7_11, y8_11⟩ := u_11
      have hP : va_P D vwCl (mX mm q jn cI x0 x1 x2 x3 x4 y5_11 y6_11 y7_11 y8_11 x9 x10 x11 x12 x13 x6 x15 x16 x17 x18 x19 x20 f0 f1 f2 f3 f4 f5 f6 f7 f8 f9 f10 f11 f12 f13 f14 f15 f16 f17 f18 f19 f20 f21 f22 f23 f24) H := hP
      have hD : va_D A (mX mm q jn cI x0 x1 x2 x3 x4 y5_11 y6_11 y7_11 y8_11 x9 x10 x11 x12 x13 x6 x15 x16 x17 x18 x19 x20 f0 f1 f2 f3 f4 f5 f6 f7 f8 f9 f10 f11 f12 f13 f14 f15 f16 f17 f18 f19 f20 f21 f22 f23 f24) := hD
      obtain ⟨ha_11, hp_11, hk_11, hT_11⟩ : (y5_3.toInt ≤ y5_11.toInt ∧ y5_11.toInt ≤ x2.toInt) ∧ (0 ≤ y6_11.toInt ∧ y6_11.toInt ≤ 300) ∧ (y7_11.toInt = 0 ∨ y5_3.toInt < y5_11.toInt) ∧ (TokOK y7_11 y8_11) := hw
      refine lv_aload_n hx hb dX11_oneThrow_49 rfl (lv_at hl 2 rfl) ?_
      refine va_get (D := D) (ci := 11) (v := .int y7_11) (C := RX11) (T := TX11) (N := 47) hx hb hts (by decide +kernel) hown hK.1 hP 0 rfl rfl 11 (by decide) (hts (.fieldLink RX11 131 "JugglingHallModel" "token" "I") (by decide +kernel)) (fun _ h9 => h9) rfl dX11_oneThrow_50 ?_
      refine lv_iconst (v := 1) hx hb dX11_oneThrow_53 (by decide) ?_
      refine a_icmp_eq (u := y7_11.toInt) (v := 1) (tgt := 67) hx hb dX11_oneThrow_54 (by decide) (rfl) (by decide) (fun c_12 => ?_) (fun c_12 => ?_)
      · have hv13 := hT_11.2.1 (by omega)
        refine lv_aload_n hx hb dX11_oneThrow_67 rfl (lv_at hl 2 rfl) ?_
        refine va_get (D := D) (ci := 11) (v := .int y8_11) (C := RX11) (T := TX11) (N := 47) hx hb hts (by decide +kernel) hown hK.1 hP 0 rfl rfl 12 (by decide) (hts (.fieldLink RX11 138 "JugglingHallModel" "value" "I") (by decide +kernel)) (fun _ h9 => h9) rfl dX11_oneThrow_68 ?_
        refine lv_aload_n hx hb dX11_oneThrow_71 rfl (lv_at hl 2 rfl) ?_
        refine va_get (D := D) (ci := 11) (v := .int (nI jn)) (C := RX11) (T := TX11) (N := 47) hx hb hts (by decide +kernel) hown hK.1 hP 0 rfl rfl 0 (by decide) (hts (.fieldLink RX11 93 "JugglingHallModel" "jugglers" "I") (by decide +kernel)) (fun _ h9 => h9) rfl dX11_oneThrow_72 ?_
        refine a_icmp_lt (u := y8_11.toInt) (v := (jn : Int)) (tgt := 88) hx hb dX11_oneThrow_75 (by decide) (rfl) (nI_toInt (by omega)) (fun c_14 => ?_) (fun c_14 => ?_)
        · refine lv_aload_n hx hb dX11_oneThrow_88 rfl (lv_at hl 2 rfl) ?_
          refine va_get (D := D) (ci := 11) (v := .int y8_11) (C := RX11) (T := TX11) (N := 47) hx hb hts (by decide +kernel) hown hK.1 hP 0 rfl rfl 12 (by decide) (hts (.fieldLink RX11 138 "JugglingHallModel" "value" "I") (by decide +kernel)) (fun _ h9 => h9) rfl dX11_oneThrow_89 ?_
          refine lv_istore_n (lv' := [(3, .int y8_11), (2, .int x8), (0, .ref mm), (1, .int j)]) hx hb dX11_oneThrow_92 rfl hl (by decide) rfl (fun ls hl => ?_)
          refine lv_aload_n hx hb dX11_oneThrow_93 rfl (lv_at hl 2 rfl) ?_
          refine lv_aload_n hx hb dX11_oneThrow_94 rfl (lv_at hl 2 rfl) ?_
          refine va_get (D := D) (ci := 11) (v := .int y6_11) (C := RX11) (T := TX11) (N := 47) hx hb hts (by decide +kernel) hown hK.1 hP 0 rfl rfl 10 (by decide) (hts (.fieldLink RX11 120 "JugglingHallModel" "place" "I") (by decide +kernel)) (fun _ h9 => h9) rfl dX11_oneThrow_95 ?_
          refine mp_14 hx hb hts (by decide +kernel) hown hK hP hD hS (hts (.fieldLink RX11 160 "JugglingHallModel" "lastPlace" "I") (by decide +kernel)) dX11_oneThrow_98 (fun H locs hP hD hS => ?_)
          refine lv_aload_n hx hb dX11_oneThrow_101 rfl (lv_at hl 2 rfl) ?_
          refine call_g (wr := []) (va_runV (As := []) (rest := []) ⟨hx, hb, hml, hown, hts⟩ (k_next l D cI cR cM _  (by first | assumption | omega) (by first | assumption | omega)) (cwV 0 hts gX11_oneThrow_X11_nextToken rfl rfl rfl (by decide +kernel) ⟨Nat.le_of_ble_eq_true rfl, Nat.le_of_ble_eq_true rfl⟩) (pre_V hK hP hD 0 11 rfl rfl) rfl rfl hl.1 rfl (lv_room (Nat.le_of_ble_eq_true rfl)) dX11_oneThrow_102 ⟨Nat.le_of_ble_eq_true rfl, Nat.le_of_ble_eq_true rfl⟩) hP hD hS hA [0, 1, 2, 3, 4, 5, 6, 7, 8, 9, 10, 11, 12, 13, 14, 15, 16, 17, 18, 19, 20, 21, 22, 23, 24, 25] [] (by with_unfolding_all rfl) rfl (by decide) (by decide) (fun u_15 H locs hw hP hD hS => ?_)
          obtain ⟨y5_15, y6_15, y7_15, y8_15⟩ := u_15
          have hP : va_P D vwCl (mX mm q jn cI x0 x1 x2 x3 x4 y5_15 y6_15 y7_15 y8_15 x9 x10 x11 x12 x13 y6_11 x15 x16 x17 x18 x19 x20 f0 f1 f2 f3 f4 f5 f6 f7 f8 f9 f10 f11 f12 f13 f14 f15 f16 f17 f18 f19 f20 f21 f22 f23 f24) H := hP
          have hD : va_D A (mX mm q jn cI x0 x1 x2 x3 x4 y5_15 y6_15 y7_15 y8_15 x9 x10 x11 x12 x13 y6_11 x15 x16 x17 x18 x19 x20 f0 f1 f2 f3 f4 f5 f6 f7 f8 f9 f10 f11 f12 f13 f14 f15 f16 f17 f18 f19 f20 f21 f22 f23 f24) := hD
          obtain ⟨ha_15, hp_15, hk_15, hT_15⟩ : (y5_11.toInt ≤ y5_15.toInt ∧ y5_15.toInt ≤ x2.toInt) ∧ (0 ≤ y6_15.toInt ∧ y6_15.toInt ≤ 300) ∧ (y7_15.toInt = 0 ∨ y5_11.toInt < y5_15.toInt) ∧ (TokOK y7_15 y8_15) := hw
          refine lv_aload_n hx hb dX11_oneThrow_105 rfl (lv_at hl 2 rfl) ?_
          refine lv_iload_n hx hb dX11_oneThrow_106 rfl (lv_at hl 1 rfl) ?_
          refine a_if_ne (u := x8.toInt) (tgt := 114) hx hb dX11_oneThrow_107 (by decide) (rfl) (fun c_16 => ?_) (fun c_16 => ?_)
          · refine lv_iconst (v := 4) hx hb dX11_oneThrow_114 (by decide) ?_
            refine lv_iload_n hx hb dX11_oneThrow_115 rfl (lv_at hl 1 rfl) ?_
            refine a_imul (u := 4) (v := x8.toInt) hx hb dX11_oneThrow_116 (by decide) (rfl) (by omega) (fun z_17 e_17 => ?_)
            refine lv_iload_n hx hb dX11_oneThrow_117 rfl (lv_at hl 0 rfl) ?_
            refine a_iadd (u := (4 * x8.toInt)) (v := y8_11.toInt) hx hb dX11_oneThrow_118 (e_17) (rfl) (by omega) (fun z_18 e_18 => ?_)
            refine mp_13 hx hb hts (by decide +kernel) hown hK hP hD hS (hts (.fieldLink RX11 166 "JugglingHallModel" "made" "I") (by decide +kernel)) dX11_oneThrow_119 (fun H locs hP hD hS => ?_)
            refine lv_iconst (v := 0) hx hb dX11_oneThrow_122 (by decide) ?_
            have hz_19 : (0 : Int32).toInt = 0 := by decide
            exact g_iret ((0 : Int32), y5_15, y6_15, y7_15, y8_15, x9, z_18, y6_11) hx hb hr hlocks hS rfl (⟨show x5.toInt ≤ y5_15.toInt ∧ y5_15.toInt ≤ x2.toInt from (by first | assumption | omega), show TokOK y7_15 y8_15 from (by first | assumption | omega), show (0 : Int32).toInt = 0 → x5.toInt < y5_15.toInt ∨ y7_15.toInt = 0 from (by first | assumption | omega), show (0 : Int32).toInt = 0 → CellX jn z_18 from (fun _ => ⟨by omega, by omega, by omega, by omega⟩), show (0 : Int32).toInt = 0 → x7.toInt = 1 from (by first | assumption | omega)⟩) hP hD hQ (Nat.le_of_ble_eq_true rfl) (Nat.le_of_ble_eq_true rfl) dX11_oneThrow_123
          · refine lv_iconst (v := 0) hx hb dX11_oneThrow_110 (by decide) ?_
            refine lv_goto (tgt := 119) hx hb dX11_oneThrow_111 (by decide) ?_
            refine mp_13 hx hb hts (by decide +kernel) hown hK hP hD hS (hts (.fieldLink RX11 166 "JugglingHallModel" "made" "I") (by decide +kernel)) dX11_oneThrow_119 (fun H locs hP hD hS => ?_)
            refine lv_iconst (v := 0) hx hb dX11_oneThrow_122 (by decide) ?_
            have hz_20 : (0 : Int32).toInt = 0 := by decide
            have hz_21 : (0 : Int32).toInt = 0 := by decide
            exact g_iret ((0 : Int32), y5_15, y6_15, y7_15, y8_15, x9, (0 : Int32), y6_11) hx hb hr hlocks hS rfl (⟨show x5.toInt ≤ y5_15.toInt ∧ y5_15.toInt ≤ x2.toInt from (by first | assumption | omega), show TokOK y7_15 y8_15 from (by first | assumption | omega), show (0 : Int32).toInt = 0 → x5.toInt < y5_15.toInt ∨ y7_15.toInt = 0 from (by first | assumption | omega), show (0 : Int32).toInt = 0 → CellX jn (0 : Int32) from (fun _ => ⟨by omega, by omega, by omega, by omega⟩), show (0 : Int32).toInt = 0 → x7.toInt = 1 from (by first | assumption | omega)⟩) hP hD hQ (Nat.le_of_ble_eq_true rfl) (Nat.le_of_ble_eq_true rfl) dX11_oneThrow_123
        · refine lv_aload_n hx hb dX11_oneThrow_78 rfl (lv_at hl 2 rfl) ?_
          refine lv_iconst (v := 2) hx hb dX11_oneThrow_79 (by decide) ?_
          refine lv_aload_n hx hb dX11_oneThrow_80 rfl (lv_at hl 2 rfl) ?_
          refine va_get (D := D) (ci := 11) (v := .int y6_11) (C := RX11) (T := TX11) (N := 47) hx hb hts (by decide +kernel) hown hK.1 hP 0 rfl rfl 10 (by decide) (hts (.fieldLink RX11 120 "JugglingHallModel" "place" "I") (by decide +kernel)) (fun _ h9 => h9) rfl dX11_oneThrow_81 ?_
          have hz_22 : (2 : Int32).toInt = 2 := by decide
          refine call_g (wr := []) (va_runV (As := [.int 2, .int y6_11]) (rest := []) ⟨hx, hb, hml, hown, hts⟩ (k_fails l D cI cR cM _  ) (cwV 2 hts gX11_oneThrow_X11_fails rfl rfl rfl (by decide +kernel) ⟨Nat.le_of_ble_eq_true rfl, Nat.le_of_ble_eq_true rfl⟩) (pre_V hK hP hD 0 11 rfl rfl) rfl rfl hl.1 rfl (lv_room (Nat.le_of_ble_eq_true rfl)) dX11_oneThrow_84 ⟨Nat.le_of_ble_eq_true rfl, Nat.le_of_ble_eq_true rfl⟩) hP hD hS hA [0, 1, 2, 3, 4, 5, 6, 7, 8, 9, 10, 11, 12, 13, 14, 15, 16, 17, 18, 19, 20, 21, 22, 23, 24, 25] [] (by with_unfolding_all rfl) rfl (by decide) (by decide) (fun u_23 H locs hw hP hD hS => ?_)
          obtain ⟨r_23, y9_23⟩ := u_23
          have hP : va_P D vwCl (mX mm q jn cI x0 x1 x2 x3 x4 y5_11 y6_11 y7_11 y8_11 y9_23 x10 x11 x12 x13 x6 x15 x16 x17 x18 x19 x20 f0 f1 f2 f3 f4 f5 f6 f7 f8 f9 f10 f11 f12 f13 f14 f15 f16 f17 f18 f19 f20 f21 f22 f23 f24) H := hP
          have hD : va_D A (mX mm q jn cI x0 x1 x2 x3 x4 y5_11 y6_11 y7_11 y8_11 y9_23 x10 x11 x12 x13 x6 x15 x16 x17 x18 x19 x20 f0 f1 f2 f3 f4 f5 f6 f7 f8 f9 f10 f11 f12 f13 f14 f15 f16 f17 f18 f19 f20 f21 f22 f23 f24) := hD
          have hr_23 : (r_23.toInt = (2 : Int32).toInt) := hw
          exact g_iret (r_23, y5_11, y6_11, y7_11, y8_11, y9_23, x13, x6) hx hb hr hlocks hS rfl (⟨show x5.toInt ≤ y5_11.toInt ∧ y5_11.toInt ≤ x2.toInt from (by first | assumption | omega), show TokOK y7_11 y8_11 from (by first | assumption | omega), show r_23.toInt = 0 → x5.toInt < y5_11.toInt ∨ y7_11.toInt = 0 from (by first | assumption | omega), show r_23.toInt = 0 → CellX jn x13 from (fun q => absurd q (by omega)), show r_23.toInt = 0 → x7.toInt = 1 from (by first | assumption | omega)⟩) hP hD hQ (Nat.le_of_ble_eq_true rfl) (Nat.le_of_ble_eq_true rfl) dX11_oneThrow_87
      · refine lv_aload_n hx hb dX11_oneThrow_57 rfl (lv_at hl 2 rfl) ?_
        refine lv_iconst (v := 1) hx hb dX11_oneThrow_58 (by decide) ?_
        refine lv_aload_n hx hb dX11_oneThrow_59 rfl (lv_at hl 2 rfl) ?_
        refine va_get (D := D) (ci := 11) (v := .int y6_11) (C := RX11) (T := TX11) (N := 47) hx hb hts (by decide +kernel) hown hK.1 hP 0 rfl rfl 10 (by decide) (hts (.fieldLink RX11 120 "JugglingHallModel" "place" "I") (by decide +kernel)) (fun _ h9 => h9) rfl dX11_oneThrow_60 ?_
        have hz_24 : (1 : Int32).toInt = 1 := by decide
        refine call_g (wr := []) (va_runV (As := [.int 1, .int y6_11]) (rest := []) ⟨hx, hb, hml, hown, hts⟩ (k_fails l D cI cR cM _  ) (cwV 2 hts gX11_oneThrow_X11_fails rfl rfl rfl (by decide +kernel) ⟨Nat.le_of_ble_eq_true rfl, Nat.le_of_ble_eq_true rfl⟩) (pre_V hK hP hD 0 11 rfl rfl) rfl rfl hl.1 rfl (lv_room (Nat.le_of_ble_eq_true rfl)) dX11_oneThrow_63 ⟨Nat.le_of_ble_eq_true rfl, Nat.le_of_ble_eq_true rfl⟩) hP hD hS hA [0, 1, 2, 3, 4, 5, 6, 7, 8, 9, 10, 11, 12, 13, 14, 15, 16, 17, 18, 19, 20, 21, 22, 23, 24, 25] [] (by with_unfolding_all rfl) rfl (by decide) (by decide) (fun u_25 H locs hw hP hD hS => ?_)
        obtain ⟨r_25, y9_25⟩ := u_25
        have hP : va_P D vwCl (mX mm q jn cI x0 x1 x2 x3 x4 y5_11 y6_11 y7_11 y8_11 y9_25 x10 x11 x12 x13 x6 x15 x16 x17 x18 x19 x20 f0 f1 f2 f3 f4 f5 f6 f7 f8 f9 f10 f11 f12 f13 f14 f15 f16 f17 f18 f19 f20 f21 f22 f23 f24) H := hP
        have hD : va_D A (mX mm q jn cI x0 x1 x2 x3 x4 y5_11 y6_11 y7_11 y8_11 y9_25 x10 x11 x12 x13 x6 x15 x16 x17 x18 x19 x20 f0 f1 f2 f3 f4 f5 f6 f7 f8 f9 f10 f11 f12 f13 f14 f15 f16 f17 f18 f19 f20 f21 f22 f23 f24) := hD
        have hr_25 : (r_25.toInt = (1 : Int32).toInt) := hw
        exact g_iret (r_25, y5_11, y6_11, y7_11, y8_11, y9_25, x13, x6) hx hb hr hlocks hS rfl (⟨show x5.toInt ≤ y5_11.toInt ∧ y5_11.toInt ≤ x2.toInt from (by first | assumption | omega), show TokOK y7_11 y8_11 from (by first | assumption | omega), show r_25.toInt = 0 → x5.toInt < y5_11.toInt ∨ y7_11.toInt = 0 from (by first | assumption | omega), show r_25.toInt = 0 → CellX jn x13 from (fun q => absurd q (by omega)), show r_25.toInt = 0 → x7.toInt = 1 from (by first | assumption | omega)⟩) hP hD hQ (Nat.le_of_ble_eq_true rfl) (Nat.le_of_ble_eq_true rfl) dX11_oneThrow_66
  · refine lv_aload_n hx hb dX11_oneThrow_8 rfl (lv_at hl 0 rfl) ?_
    refine lv_iconst (v := 1) hx hb dX11_oneThrow_9 (by decide) ?_
    refine lv_aload_n hx hb dX11_oneThrow_10 rfl (lv_at hl 0 rfl) ?_
    refine va_get (D := D) (ci := 11) (v := .int x6) (C := RX11) (T := TX11) (N := 47) hx hb hts (by decide +kernel) hown hK.1 hP 0 rfl rfl 10 (by decide) (hts (.fieldLink RX11 120 "JugglingHallModel" "place" "I") (by decide +kernel)) (fun _ h9 => h9) rfl dX11_oneThrow_11 ?_
    have hz_26 : (1 : Int32).toInt = 1 := by decide
    refine call_g (wr := []) (va_runV (As := [.int 1, .int x6]) (rest := []) ⟨hx, hb, hml, hown, hts⟩ (k_fails l D cI cR cM _  ) (cwV 2 hts gX11_oneThrow_X11_fails rfl rfl rfl (by decide +kernel) ⟨Nat.le_of_ble_eq_true rfl, Nat.le_of_ble_eq_true rfl⟩) (pre_V hK hP hD 0 11 rfl rfl) rfl rfl hl.1 rfl (lv_room (Nat.le_of_ble_eq_true rfl)) dX11_oneThrow_14 ⟨Nat.le_of_ble_eq_true rfl, Nat.le_of_ble_eq_true rfl⟩) hP hD hS hA [0, 1, 2, 3, 4, 5, 6, 7, 8, 9, 10, 11, 12, 13, 14, 15, 16, 17, 18, 19, 20, 21, 22, 23, 24, 25] [] (by with_unfolding_all rfl) rfl (by decide) (by decide) (fun u_27 H locs hw hP hD hS => ?_)
    obtain ⟨r_27, y9_27⟩ := u_27
    have hP : va_P D vwCl (mX mm q jn cI x0 x1 x2 x3 x4 x5 x6 x7 x8 y9_27 x10 x11 x12 x13 x14 x15 x16 x17 x18 x19 x20 f0 f1 f2 f3 f4 f5 f6 f7 f8 f9 f10 f11 f12 f13 f14 f15 f16 f17 f18 f19 f20 f21 f22 f23 f24) H := hP
    have hD : va_D A (mX mm q jn cI x0 x1 x2 x3 x4 x5 x6 x7 x8 y9_27 x10 x11 x12 x13 x14 x15 x16 x17 x18 x19 x20 f0 f1 f2 f3 f4 f5 f6 f7 f8 f9 f10 f11 f12 f13 f14 f15 f16 f17 f18 f19 f20 f21 f22 f23 f24) := hD
    have hr_27 : (r_27.toInt = (1 : Int32).toInt) := hw
    exact g_iret (r_27, x5, x6, x7, x8, y9_27, x13, x14) hx hb hr hlocks hS rfl (⟨show x5.toInt ≤ x5.toInt ∧ x5.toInt ≤ x2.toInt from (by first | assumption | omega), show TokOK x7 x8 from (by first | assumption | omega), show r_27.toInt = 0 → x5.toInt < x5.toInt ∨ x7.toInt = 0 from (by first | assumption | omega), show r_27.toInt = 0 → CellX jn x13 from (fun q => absurd q (by omega)), show r_27.toInt = 0 → x7.toInt = 1 from (by first | assumption | omega)⟩) hP hD hQ (Nat.le_of_ble_eq_true rfl) (Nat.le_of_ble_eq_true rfl) dX11_oneThrow_17
