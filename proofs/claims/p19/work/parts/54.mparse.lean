theorem dX11_beat_0 : decode cX11_beat 0 = .ok (.iconst 0, 1) := by decide +kernel
theorem dX11_beat_1 : decode cX11_beat 1 = .ok (.istore_n 1, 1) := by decide +kernel
theorem dX11_beat_2 : decode cX11_beat 2 = .ok (.iload_n 1, 1) := by decide +kernel
theorem dX11_beat_3 : decode cX11_beat 3 = .ok (.bipush 6, 2) := by decide +kernel
theorem dX11_beat_5 : decode cX11_beat 5 = .ok (.if_icmp .ge 24, 3) := by decide +kernel
theorem dX11_beat_8 : decode cX11_beat 8 = .ok (.aload_n 0, 1) := by decide +kernel
theorem dX11_beat_9 : decode cX11_beat 9 = .ok (.getfield 27, 3) := by decide +kernel
theorem dX11_beat_12 : decode cX11_beat 12 = .ok (.bipush 6, 2) := by decide +kernel
theorem dX11_beat_14 : decode cX11_beat 14 = .ok (.aload_n 0, 1) := by decide +kernel
theorem dX11_beat_15 : decode cX11_beat 15 = .ok (.getfield 151, 3) := by decide +kernel
theorem dX11_beat_18 : decode cX11_beat 18 = .ok (.imul, 1) := by decide +kernel
theorem dX11_beat_19 : decode cX11_beat 19 = .ok (.iload_n 1, 1) := by decide +kernel
theorem dX11_beat_20 : decode cX11_beat 20 = .ok (.iadd, 1) := by decide +kernel
theorem dX11_beat_21 : decode cX11_beat 21 = .ok (.iconst 0, 1) := by decide +kernel
theorem dX11_beat_22 : decode cX11_beat 22 = .ok (.iastore, 1) := by decide +kernel
theorem dX11_beat_23 : decode cX11_beat 23 = .ok (.iinc 1 1, 3) := by decide +kernel
theorem dX11_beat_26 : decode cX11_beat 26 = .ok (.goto (-24), 3) := by decide +kernel
theorem dX11_beat_29 : decode cX11_beat 29 = .ok (.aload_n 0, 1) := by decide +kernel
theorem dX11_beat_30 : decode cX11_beat 30 = .ok (.aload_n 0, 1) := by decide +kernel
theorem dX11_beat_31 : decode cX11_beat 31 = .ok (.getfield 151, 3) := by decide +kernel
theorem dX11_beat_34 : decode cX11_beat 34 = .ok (.putfield 176, 3) := by decide +kernel
theorem dX11_beat_37 : decode cX11_beat 37 = .ok (.aload_n 0, 1) := by decide +kernel
theorem dX11_beat_38 : decode cX11_beat 38 = .ok (.getfield 93, 3) := by decide +kernel
theorem dX11_beat_41 : decode cX11_beat 41 = .ok (.iconst 1, 1) := by decide +kernel
theorem dX11_beat_42 : decode cX11_beat 42 = .ok (.if_icmp .ne 18, 3) := by decide +kernel
theorem dX11_beat_45 : decode cX11_beat 45 = .ok (.aload_n 0, 1) := by decide +kernel
theorem dX11_beat_46 : decode cX11_beat 46 = .ok (.iconst 0, 1) := by decide +kernel
theorem dX11_beat_47 : decode cX11_beat 47 = .ok (.invokevirtual 179, 3) := by decide +kernel
theorem dX11_beat_50 : decode cX11_beat 50 = .ok (.istore_n 1, 1) := by decide +kernel
theorem dX11_beat_51 : decode cX11_beat 51 = .ok (.iload_n 1, 1) := by decide +kernel
theorem dX11_beat_52 : decode cX11_beat 52 = .ok (.ifCond .eq 5, 3) := by decide +kernel
theorem dX11_beat_55 : decode cX11_beat 55 = .ok (.iload_n 1, 1) := by decide +kernel
theorem dX11_beat_56 : decode cX11_beat 56 = .ok (.ireturn, 1) := by decide +kernel
theorem dX11_beat_57 : decode cX11_beat 57 = .ok (.goto 100, 3) := by decide +kernel
theorem dX11_beat_60 : decode cX11_beat 60 = .ok (.aload_n 0, 1) := by decide +kernel
theorem dX11_beat_61 : decode cX11_beat 61 = .ok (.getfield 131, 3) := by decide +kernel
theorem dX11_beat_64 : decode cX11_beat 64 = .ok (.bipush 60, 2) := by decide +kernel
theorem dX11_beat_66 : decode cX11_beat 66 = .ok (.if_icmp .eq 13, 3) := by decide +kernel
theorem dX11_beat_69 : decode cX11_beat 69 = .ok (.aload_n 0, 1) := by decide +kernel
theorem dX11_beat_70 : decode cX11_beat 70 = .ok (.iconst 1, 1) := by decide +kernel
theorem dX11_beat_71 : decode cX11_beat 71 = .ok (.aload_n 0, 1) := by decide +kernel
theorem dX11_beat_72 : decode cX11_beat 72 = .ok (.getfield 120, 3) := by decide +kernel
theorem dX11_beat_75 : decode cX11_beat 75 = .ok (.invokevirtual 157, 3) := by decide +kernel
theorem dX11_beat_78 : decode cX11_beat 78 = .ok (.ireturn, 1) := by decide +kernel
theorem dX11_beat_79 : decode cX11_beat 79 = .ok (.iconst 0, 1) := by decide +kernel
theorem dX11_beat_80 : decode cX11_beat 80 = .ok (.istore_n 1, 1) := by decide +kernel
theorem dX11_beat_81 : decode cX11_beat 81 = .ok (.iload_n 1, 1) := by decide +kernel
theorem dX11_beat_82 : decode cX11_beat 82 = .ok (.aload_n 0, 1) := by decide +kernel
theorem dX11_beat_83 : decode cX11_beat 83 = .ok (.getfield 93, 3) := by decide +kernel
theorem dX11_beat_86 : decode cX11_beat 86 = .ok (.if_icmp .ge 59, 3) := by decide +kernel
theorem dX11_beat_89 : decode cX11_beat 89 = .ok (.aload_n 0, 1) := by decide +kernel
theorem dX11_beat_90 : decode cX11_beat 90 = .ok (.invokevirtual 163, 3) := by decide +kernel
theorem dX11_beat_93 : decode cX11_beat 93 = .ok (.aload_n 0, 1) := by decide +kernel
theorem dX11_beat_94 : decode cX11_beat 94 = .ok (.iload_n 1, 1) := by decide +kernel
theorem dX11_beat_95 : decode cX11_beat 95 = .ok (.invokevirtual 179, 3) := by decide +kernel
theorem dX11_beat_98 : decode cX11_beat 98 = .ok (.istore_n 2, 1) := by decide +kernel
theorem dX11_beat_99 : decode cX11_beat 99 = .ok (.iload_n 2, 1) := by decide +kernel
theorem dX11_beat_100 : decode cX11_beat 100 = .ok (.ifCond .eq 5, 3) := by decide +kernel
theorem dX11_beat_103 : decode cX11_beat 103 = .ok (.iload_n 2, 1) := by decide +kernel
theorem dX11_beat_104 : decode cX11_beat 104 = .ok (.ireturn, 1) := by decide +kernel
theorem dX11_beat_105 : decode cX11_beat 105 = .ok (.aload_n 0, 1) := by decide +kernel
theorem dX11_beat_106 : decode cX11_beat 106 = .ok (.getfield 131, 3) := by decide +kernel
theorem dX11_beat_109 : decode cX11_beat 109 = .ok (.iload_n 1, 1) := by decide +kernel
theorem dX11_beat_110 : decode cX11_beat 110 = .ok (.aload_n 0, 1) := by decide +kernel
theorem dX11_beat_111 : decode cX11_beat 111 = .ok (.getfield 93, 3) := by decide +kernel
theorem dX11_beat_114 : decode cX11_beat 114 = .ok (.iconst 1, 1) := by decide +kernel
theorem dX11_beat_115 : decode cX11_beat 115 = .ok (.isub, 1) := by decide +kernel
theorem dX11_beat_116 : decode cX11_beat 116 = .ok (.if_icmp .ne 8, 3) := by decide +kernel
theorem dX11_beat_119 : decode cX11_beat 119 = .ok (.bipush 62, 2) := by decide +kernel
theorem dX11_beat_121 : decode cX11_beat 121 = .ok (.goto 5, 3) := by decide +kernel
theorem dX11_beat_124 : decode cX11_beat 124 = .ok (.bipush 124, 2) := by decide +kernel
theorem dX11_beat_126 : decode cX11_beat 126 = .ok (.if_icmp .eq 13, 3) := by decide +kernel
theorem dX11_beat_129 : decode cX11_beat 129 = .ok (.aload_n 0, 1) := by decide +kernel
theorem dX11_beat_130 : decode cX11_beat 130 = .ok (.iconst 1, 1) := by decide +kernel
theorem dX11_beat_131 : decode cX11_beat 131 = .ok (.aload_n 0, 1) := by decide +kernel
theorem dX11_beat_132 : decode cX11_beat 132 = .ok (.getfield 120, 3) := by decide +kernel
theorem dX11_beat_135 : decode cX11_beat 135 = .ok (.invokevirtual 157, 3) := by decide +kernel
theorem dX11_beat_138 : decode cX11_beat 138 = .ok (.ireturn, 1) := by decide +kernel
theorem dX11_beat_139 : decode cX11_beat 139 = .ok (.iinc 1 1, 3) := by decide +kernel
theorem dX11_beat_142 : decode cX11_beat 142 = .ok (.goto (-61), 3) := by decide +kernel
theorem dX11_beat_145 : decode cX11_beat 145 = .ok (.aload_n 0, 1) := by decide +kernel
theorem dX11_beat_146 : decode cX11_beat 146 = .ok (.aload_n 0, 1) := by decide +kernel
theorem dX11_beat_147 : decode cX11_beat 147 = .ok (.getfield 120, 3) := by decide +kernel
theorem dX11_beat_150 : decode cX11_beat 150 = .ok (.putfield 160, 3) := by decide +kernel
theorem dX11_beat_153 : decode cX11_beat 153 = .ok (.aload_n 0, 1) := by decide +kernel
theorem dX11_beat_154 : decode cX11_beat 154 = .ok (.invokevirtual 163, 3) := by decide +kernel
theorem dX11_beat_157 : decode cX11_beat 157 = .ok (.aload_n 0, 1) := by decide +kernel
theorem dX11_beat_158 : decode cX11_beat 158 = .ok (.dup, 1) := by decide +kernel
theorem dX11_beat_159 : decode cX11_beat 159 = .ok (.getfield 151, 3) := by decide +kernel
theorem dX11_beat_162 : decode cX11_beat 162 = .ok (.iconst 1, 1) := by decide +kernel
theorem dX11_beat_163 : decode cX11_beat 163 = .ok (.iadd, 1) := by decide +kernel
theorem dX11_beat_164 : decode cX11_beat 164 = .ok (.putfield 151, 3) := by decide +kernel
theorem dX11_beat_167 : decode cX11_beat 167 = .ok (.aload_n 0, 1) := by decide +kernel
theorem dX11_beat_168 : decode cX11_beat 168 = .ok (.invokevirtual 182, 3) := by decide +kernel
theorem dX11_beat_171 : decode cX11_beat 171 = .ok (.bipush 24, 2) := by decide +kernel
theorem dX11_beat_173 : decode cX11_beat 173 = .ok (.if_icmp .le 15, 3) := by decide +kernel
theorem dX11_beat_176 : decode cX11_beat 176 = .ok (.aload_n 0, 1) := by decide +kernel
theorem dX11_beat_177 : decode cX11_beat 177 = .ok (.iconst 4, 1) := by decide +kernel
theorem dX11_beat_178 : decode cX11_beat 178 = .ok (.aload_n 0, 1) := by decide +kernel
theorem dX11_beat_179 : decode cX11_beat 179 = .ok (.getfield 160, 3) := by decide +kernel
theorem dX11_beat_182 : decode cX11_beat 182 = .ok (.invokevirtual 157, 3) := by decide +kernel
theorem dX11_beat_185 : decode cX11_beat 185 = .ok (.goto 4, 3) := by decide +kernel
theorem dX11_beat_188 : decode cX11_beat 188 = .ok (.iconst 0, 1) := by decide +kernel
theorem dX11_beat_189 : decode cX11_beat 189 = .ok (.ireturn, 1) := by decide +kernel
set_option maxRecDepth 100000 in
set_option maxHeartbeats 4000000 in
theorem ggX11_beat_X11_hands : GoodIn wsX11_beat wsX11_hands := goodIn_r _ [12, 5, 2, 1, 13, 6, 7, 14, 15, 16, 11, 17, 18, 19, 20, 21, 22, 23, 24, 25, 26, 27, 28, 29, 30, 31, 32, 33, 34, 35, 36, 37, 38, 39, 40, 41, 42, 43, 44, 45, 46, 4, 47, 48, 49, 50, 51, 52, 53, 54, 61, 62, 63, 64, 65, 66, 67, 68, 69, 70, 71, 72, 73, 74, 75, 76, 77, 78, 79, 80, 81, 82, 83, 84, 85, 86, 87, 88, 89, 90, 91, 92, 93, 94, 95, 96, 97, 98, 99, 100, 101, 102, 103, 104, 105, 106, 107] (by with_unfolding_all rfl) (by decide +kernel)
set_option maxRecDepth 20000 in
theorem gX11_beat_X11_hands : GoodIn wsX11_beat (wsV RX11 179 RX11 yX11_hands wsX11_hands) := goodIn_app (goodIn_of _ (by decide +kernel)) ggX11_beat_X11_hands
set_option maxRecDepth 20000 in
theorem ggX11_beat_X11_fails : GoodIn wsX11_beat wsX11_fails := goodIn_r _ [50, 51, 61, 62, 63, 64, 65, 66, 67, 68, 69, 70, 71, 72, 73, 74, 75, 76, 77, 78, 79, 80, 81, 82, 83, 84, 85, 86, 87, 88, 89, 90, 91, 92, 93, 94, 95, 96, 97, 98, 99, 100, 101, 102, 103, 104, 105, 106, 107] (by decide +kernel) (by decide +kernel)
set_option maxRecDepth 20000 in
theorem gX11_beat_X11_fails : GoodIn wsX11_beat (wsV RX11 157 RX11 yX11_fails wsX11_fails) := goodIn_app (goodIn_of _ (by decide +kernel)) ggX11_beat_X11_fails
set_option maxRecDepth 100000 in
set_option maxHeartbeats 4000000 in
theorem ggX11_beat_X11_nextToken : GoodIn wsX11_beat wsX11_nextToken := goodIn_r _ [17, 18, 6, 5, 19, 20, 21, 22, 11, 23, 24, 25, 26, 27, 28, 29, 30, 31, 32, 33, 34, 35, 36, 37, 38, 39, 40, 41, 42, 61, 62, 63, 64, 65, 66, 67, 68, 69, 70, 71, 72, 73, 74, 75, 76, 77, 78, 79, 80, 81, 82, 83, 84, 85, 86, 87, 88, 89, 90, 91, 92, 93, 94, 95, 96, 97, 98, 99, 100, 101, 102, 103, 104, 105, 106, 107] (by with_unfolding_all rfl) (by decide +kernel)
set_option maxRecDepth 20000 in
theorem gX11_beat_X11_nextToken : GoodIn wsX11_beat (wsV RX11 163 RX11 yX11_nextToken wsX11_nextToken) := goodIn_app (goodIn_of _ (by decide +kernel)) ggX11_beat_X11_nextToken
set_option maxRecDepth 20000 in
theorem ggX11_beat_X11_many : GoodIn wsX11_beat wsX11_many := goodIn_r _ [58, 2, 59, 60, 61, 62, 63, 64, 65, 66, 67, 68, 69, 70, 71, 72, 73, 74, 75, 76, 77, 78, 79, 80, 81, 82, 83, 84, 85, 86, 87, 88, 89, 90, 91, 92, 93, 94, 95, 96, 97, 98, 99, 100, 101, 102, 103, 104, 105, 106, 107] (by decide +kernel) (by decide +kernel)
set_option maxRecDepth 20000 in
theorem gX11_beat_X11_many : GoodIn wsX11_beat (wsV RX11 182 RX11 yX11_many wsX11_many) := goodIn_app (goodIn_of _ (by decide +kernel)) ggX11_beat_X11_many
set_option maxRecDepth 100000 in
set_option maxHeartbeats 4000000 in
theorem k_beat (l : Launch) (D : va_G) (cI cR cM : ClassId) (sz : Nat) {jn mm : Nat} {q : Nat → Nat} {x0 x1 x2 x3 x4 x5 x6 x7 x8 x9 x10 x11 x12 x13 x14 x15 x16 x17 x18 x19 x20 : Int32} {f0 f1 f2 f3 f4 f5 f6 f7 f8 f9 f10 f11 f12 f13 f14 f15 f16 f17 f18 f19 f20 f21 f22 f23 f24 : Nat → Int32}  (ht : 0 ≤ x2.toInt ∧ x2.toInt ≤ 300) (h5 : 0 ≤ x5.toInt ∧ x5.toInt ≤ x2.toInt) (hT : TokOK x7 x8) (hj : 1 ≤ jn ∧ jn ≤ 3) (h11 : 0 ≤ x11.toInt ∧ x11.toInt ≤ 5) (hs : 0 ≤ (f6 x11.toInt.toNat).toInt ∧ (f6 x11.toInt.toNat).toInt ≤ x10.toInt) (h10 : 0 ≤ x10.toInt ∧ x10.toInt ≤ 150) (hC : CellsX jn f3 0 (6 * x10.toInt)) : Met l yX11_beat wsX11_beat ({ frames := 6, cells := 0, slots := 0, locals := 135 }) (P0 D cI cR cM [.ref mm] sz (mX mm q jn cI x0 x1 x2 x3 x4 x5 x6 x7 x8 x9 x10 x11 x12 x13 x14 x15 x16 x17 x18 x19 x20 f0 f1 f2 f3 f4 f5 f6 f7 f8 f9 f10 f11 f12 f13 f14 f15 f16 f17 f18 f19 f20 f21 f22 f23 f24)) (QG (S := Int32 × Int32 × Int32 × Int32 × Int32 × Int32 × Int32 × Int32 × Int32 × Int32 × (Nat → Int32)) (fun u => some (.int u.1)) (fun u => mX mm q jn cI x0 x1 x2 x3 x4 (u.2.1) (u.2.2.1) (u.2.2.2.1) (u.2.2.2.2.1) (u.2.2.2.2.2.1) (u.2.2.2.2.2.2.1) x11 (u.2.2.2.2.2.2.2.1) (u.2.2.2.2.2.2.2.2.1) (u.2.2.2.2.2.2.2.2.2.1) x15 x16 x17 x18 x19 x20 f0 f1 f2 (u.2.2.2.2.2.2.2.2.2.2) f4 f5 f6 f7 f8 f9 f10 f11 f12 f13 f14 f15 f16 f17 f18 f19 f20 f21 f22 f23 f24) (fun u => (x5.toInt ≤ u.2.1.toInt ∧ u.2.1.toInt ≤ x2.toInt) ∧ (TokOK u.2.2.2.1 u.2.2.2.2.1) ∧ (u.1.toInt = 0 → x5.toInt < u.2.1.toInt ∨ u.2.2.2.1.toInt = 0) ∧ (u.1.toInt = 0 → u.2.2.2.2.2.2.1.toInt = x10.toInt + 1 ∧ u.2.2.2.2.2.2.2.1.toInt = x10.toInt) ∧ (u.1.toInt = 0 → u.2.2.2.2.2.2.1.toInt - (f6 x11.toInt.toNat).toInt ≤ 24) ∧ (u.1.toInt = 0 → CellsX jn u.2.2.2.2.2.2.2.2.2.2 0 (6 * u.2.2.2.2.2.2.1.toInt)) ∧ (u.1.toInt = 0 → x7.toInt ≠ 0)) D (va_A (mX mm q jn cI x0 x1 x2 x3 x4 x5 x6 x7 x8 x9 x10 x11 x12 x13 x14 x15 x16 x17 x18 x19 x20 f0 f1 f2 f3 f4 f5 f6 f7 f8 f9 f10 f11 f12 f13 f14 f15 f16 f17 f18 f19 f20 f21 f22 f23 f24) sz)) 0 0 (va_A (mX mm q jn cI x0 x1 x2 x3 x4 x5 x6 x7 x8 x9 x10 x11 x12 x13 x14 x15 x16 x17 x18 x19 x20 f0 f1 f2 f3 f4 f5 f6 f7 f8 f9 f10 f11 f12 f13 f14 f15 f16 f17 f18 f19 f20 f21 f22 f23 f24) sz) := by
  refine go (cc := cX11_beat) (maxL := 3) (ret := (some .int)) (by decide) rfl (Nat.le_of_ble_eq_true rfl) ?_
  intro p e s m below meth c ls args Q hQ hsz hx hb hr hml hts hown hlocks hnm hP hK hD hl
  subst hsz
  have hD := hD.self (sz := s.heap.size)
  generalize hAe : va_A (mX mm q jn cI x0 x1 x2 x3 x4 x5 x6 x7 x8 x9 x10 x11 x12 x13 x14 x15 x16 x17 x18 x19 x20 f0 f1 f2 f3 f4 f5 f6 f7 f8 f9 f10 f11 f12 f13 f14 f15 f16 f17 f18 f19 f20 f21 f22 f23 f24) s.heap.size = A at hD hQ
  have hA : ∀ q, s.heap.size ≤ q → A q := fun q h => by rw [← hAe]; exact Or.inr h
  have hS : va_S A s.heap s.heap [] := va_S.rf
  have hl : lv_has ls 3 [(0, .ref mm)] := hl
  refine lv_iconst (v := 0) hx hb dX11_beat_0 (by decide) ?_
  refine lv_istore_n (lv' := [(1, .int 0), (0, .ref mm)]) hx hb dX11_beat_1 rfl hl (by decide) rfl (fun ls hl => ?_)
  have loop2 : ∀ (ddloop2 : Nat) (k : Int32) (ga : (Nat → Int32)) (H : Heap) (locs : List Loc) (ls : Array Slot), (6 - k.toInt).toNat < ddloop2 → (0 ≤ k.toInt ∧ k.toInt ≤ 6) → (∀ i : Int, 0 ≤ i → i < 6 * x10.toInt → ga i.toNat = f3 i.toNat) → (∀ i : Int, 6 * x10.toInt ≤ i → i < 6 * x10.toInt + k.toInt → (ga i.toNat).toInt = 0) → va_P D vwCl (mX mm q jn cI x0 x1 x2 x3 x4 x5 x6 x7 x8 x9 x10 x11 x12 x13 x14 x15 x16 x17 x18 x19 x20 f0 f1 f2 ga f4 f5 f6 f7 f8 f9 f10 f11 f12 f13 f14 f15 f16 f17 f18 f19 f20 f21 f22 f23 f24) H → va_D A (mX mm q jn cI x0 x1 x2 x3 x4 x5 x6 x7 x8 x9 x10 x11 x12 x13 x14 x15 x16 x17 x18 x19 x20 f0 f1 f2 ga f4 f5 f6 f7 f8 f9 f10 f11 f12 f13 f14 f15 f16 f17 f18 f19 f20 f21 f22 f23 f24) → va_S A s.heap H locs → lv_has ls 3 [(0, .ref mm), (1, .int k)] → W p l e ({ frames := 6, cells := 0, slots := 0, locals := 135 }) s m args below meth c H locs 0 0 Q (F0 m 2 ls []) := by
    intro ddloop2
    induction ddloop2 with
    | zero =>
      intro k ga H locs ls hdd
      exact absurd hdd (Nat.not_lt_zero _)
    | succ ddloop2 ih2 =>
      intro k ga H locs ls hdd hk hga hgz hP hD hS hl
      refine lv_iload_n hx hb dX11_beat_2 rfl (lv_at hl 1 rfl) ?_
      refine lv_bipush (v := 6) hx hb dX11_beat_3 (by decide) ?_
      refine a_icmp_ge (u := k.toInt) (v := 6) (tgt := 29) hx hb dX11_beat_5 (by decide) (rfl) (by decide) (fun c_1 => ?_) (fun c_1 => ?_)
      · have hC0 : CellsX jn ga 0 (6 * x10.toInt + 6) := cx_more0 (by omega) (cx_keep hC (by omega) hga) ⟨3 * x10.toInt, by omega⟩ (by omega) (fun i i0 i1 => hgz i i0 (by omega))
        refine lv_aload_n hx hb dX11_beat_29 rfl (lv_at hl 0 rfl) ?_
        refine lv_aload_n hx hb dX11_beat_30 rfl (lv_at hl 0 rfl) ?_
        refine va_get (D := D) (ci := 11) (v := .int x10) (C := RX11) (T := TX11) (N := 47) hx hb hts (by decide +kernel) hown hK.1 hP 0 rfl rfl 19 (by decide) (hts (.fieldLink RX11 151 "JugglingHallModel" "top" "I") (by decide +kernel)) (fun _ h9 => h9) rfl dX11_beat_31 ?_
        refine mp_12 hx hb hts (by decide +kernel) hown hK hP hD hS (hts (.fieldLink RX11 176 "JugglingHallModel" "oneStart" "I") (by decide +kernel)) dX11_beat_34 (fun H locs hP hD hS => ?_)
        have join2 : ∀ (b5 : Int32) (b6 : Int32) (b7 : Int32) (b8 : Int32) (b9 : Int32) (b13 : Int32) (b14 : Int32) (gc : (Nat → Int32)) (H : Heap) (locs : List Loc) (ls : Array Slot), (TokOK b7 b8) → (x5.toInt ≤ b5.toInt ∧ b5.toInt ≤ x2.toInt) → (x5.toInt < b5.toInt ∨ b7.toInt = 0) → (CellsX jn gc 0 (6 * x10.toInt + 6)) → (x7.toInt ≠ 0) → va_P D vwCl (mX mm q jn cI x0 x1 x2 x3 x4 b5 b6 b7 b8 b9 x10 x11 x10 b13 b14 x15 x16 x17 x18 x19 x20 f0 f1 f2 gc f4 f5 f6 f7 f8 f9 f10 f11 f12 f13 f14 f15 f16 f17 f18 f19 f20 f21 f22 f23 f24) H → va_D A (mX mm q jn cI x0 x1 x2 x3 x4 b5 b6 b7 b8 b9 x10 x11 x10 b13 b14 x15 x16 x17 x18 x19 x20 f0 f1 f2 gc f4 f5 f6 f7 f8 f9 f10 f11 f12 f13 f14 f15 f16 f17 f18 f19 f20 f21 f22 f23 f24) → va_S A s.heap H locs → lv_has ls 3 [(0, .ref mm)] → W p l e ({ frames := 6, cells := 0, slots := 0, locals := 135 }) s m args below meth c H locs 0 0 Q (F0 m 157 ls []) := by
          intro b5 b6 b7 b8 b9 b13 b14 gc H locs ls hT hp hp2 hCc h77 hP hD hS hl
          refine lv_aload_n hx hb dX11_beat_157 rfl (lv_at hl 0 rfl) ?_
          refine lv_dup hx hb dX11_beat_158 rfl ?_
          refine va_get (D := D) (ci := 11) (v := .int x10) (C := RX11) (T := TX11) (N := 47) hx hb hts (by decide +kernel) hown hK.1 hP 0 rfl rfl 19 (by decide) (hts (.fieldLink RX11 151 "JugglingHallModel" "top" "I") (by decide +kernel)) (fun _ h9 => h9) rfl dX11_beat_159 ?_
          refine lv_iconst (v := 1) hx hb dX11_beat_162 (by decide) ?_
          refine a_iadd (u := x10.toInt) (v := 1) hx hb dX11_beat_163 (rfl) (by decide) (by omega) (fun z_3 e_3 => ?_)
          refine mp_10 hx hb hts (by decide +kernel) hown hK hP hD hS (hts (.fieldLink RX11 151 "JugglingHallModel" "top" "I") (by decide +kernel)) dX11_beat_164 (fun H locs hP hD hS => ?_)
          refine lv_aload_n hx hb dX11_beat_167 rfl (lv_at hl 0 rfl) ?_
          refine roP (va_runV (As := []) (rest := []) ⟨hx, hb, hml, hown, hts⟩ (k_many l D cI cR cM _  (by first | assumption | omega) (by first | assumption | omega) (by first | assumption | omega)) (cwV 0 hts gX11_beat_X11_many rfl rfl rfl (by decide +kernel) ⟨Nat.le_of_ble_eq_true rfl, Nat.le_of_ble_eq_true rfl⟩) (pre_V hK hP hD 0 11 rfl rfl) rfl rfl hl.1 rfl (lv_room (Nat.le_of_ble_eq_true rfl)) dX11_beat_168 ⟨Nat.le_of_ble_eq_true rfl, Nat.le_of_ble_eq_true rfl⟩) hS hA hP (fun r_4 H locs hw hP hS => ?_)
          have h_4 : (r_4.toInt = z_3.toInt - (f6 x11.toInt.toNat).toInt) := hw
          refine lv_bipush (v := 24) hx hb dX11_beat_171 (by decide) ?_
          refine a_icmp_le (u := r_4.toInt) (v := 24) (tgt := 188) hx hb dX11_beat_173 (by decide) (rfl) (by decide) (fun c_5 => ?_) (fun c_5 => ?_)
          · refine lv_iconst (v := 0) hx hb dX11_beat_188 (by decide) ?_
            have hz_6 : (0 : Int32).toInt = 0 := by decide
            exact g_iret ((0 : Int32), b5, b6, b7, b8, b9, z_3, x10, b13, b14, gc) hx hb hr hlocks hS rfl (⟨show x5.toInt ≤ b5.toInt ∧ b5.toInt ≤ x2.toInt from (by first | assumption | omega), show TokOK b7 b8 from (by first | assumption | omega), show (0 : Int32).toInt = 0 → x5.toInt < b5.toInt ∨ b7.toInt = 0 from (by first | assumption | omega), show (0 : Int32).toInt = 0 → z_3.toInt = x10.toInt + 1 ∧ x10.toInt = x10.toInt from (by first | assumption | omega), show (0 : Int32).toInt = 0 → z_3.toInt - (f6 x11.toInt.toNat).toInt ≤ 24 from (by first | assumption | omega), show (0 : Int32).toInt = 0 → CellsX jn gc 0 (6 * z_3.toInt) from (fun _ => by rw [show 6 * z_3.toInt = 6 * x10.toInt + 6 by omega]; exact hCc), show (0 : Int32).toInt = 0 → x7.toInt ≠ 0 from (by first | assumption | omega)⟩) hP hD hQ (Nat.le_of_ble_eq_true rfl) (Nat.le_of_ble_eq_true rfl) dX11_beat_189
          · refine lv_aload_n hx hb dX11_beat_176 rfl (lv_at hl 0 rfl) ?_
            refine lv_iconst (v := 4) hx hb dX11_beat_177 (by decide) ?_
            refine lv_aload_n hx hb dX11_beat_178 rfl (lv_at hl 0 rfl) ?_
            refine va_get (D := D) (ci := 11) (v := .int b14) (C := RX11) (T := TX11) (N := 47) hx hb hts (by decide +kernel) hown hK.1 hP 0 rfl rfl 26 (by decide) (hts (.fieldLink RX11 160 "JugglingHallModel" "lastPlace" "I") (by decide +kernel)) (fun _ h9 => h9) rfl dX11_beat_179 ?_
            have hz_7 : (4 : Int32).toInt = 4 := by decide
            refine call_g (wr := []) (va_runV (As := [.int 4, .int b14]) (rest := []) ⟨hx, hb, hml, hown, hts⟩ (k_fails l D cI cR cM _  ) (cwV 2 hts gX11_beat_X11_fails rfl rfl rfl (by decide +kernel) ⟨Nat.le_of_ble_eq_true rfl, Nat.le_of_ble_eq_true rfl⟩) (pre_V hK hP hD 0 11 rfl rfl) rfl rfl hl.1 rfl (lv_room (Nat.le_of_ble_eq_true rfl)) dX11_beat_182 ⟨Nat.le_of_ble_eq_true rfl, Nat.le_of_ble_eq_true rfl⟩) hP hD hS hA [0, 1, 2, 3, 4, 5, 6, 7, 8, 9, 10, 11, 12, 13, 14, 15, 16, 17, 18, 19, 20, 21, 22, 23, 24, 25] [] (by with_unfolding_all rfl) rfl (by decide) (by decide) (fun u_8 H locs hw hP hD hS => ?_)
            obtain ⟨r_8, y9_8⟩ := u_8
            have hP : va_P D vwCl (mX mm q jn cI x0 x1 x2 x3 x4 b5 b6 b7 b8 y9_8 z_3 x11 x10 b13 b14 x15 x16 x17 x18 x19 x20 f0 f1 f2 gc f4 f5 f6 f7 f8 f9 f10 f11 f12 f13 f14 f15 f16 f17 f18 f19 f20 f21 f22 f23 f24) H := hP
            have hD : va_D A (mX mm q jn cI x0 x1 x2 x3 x4 b5 b6 b7 b8 y9_8 z_3 x11 x10 b13 b14 x15 x16 x17 x18 x19 x20 f0 f1 f2 gc f4 f5 f6 f7 f8 f9 f10 f11 f12 f13 f14 f15 f16 f17 f18 f19 f20 f21 f22 f23 f24) := hD
            have hr_8 : (r_8.toInt = (4 : Int32).toInt) := hw
            refine lv_goto (tgt := 189) hx hb dX11_beat_185 (by decide) ?_
            exact g_iret (r_8, b5, b6, b7, b8, y9_8, z_3, x10, b13, b14, gc) hx hb hr hlocks hS rfl (⟨show x5.toInt ≤ b5.toInt ∧ b5.toInt ≤ x2.toInt from (by first | assumption | omega), show TokOK b7 b8 from (by first | assumption | omega), show r_8.toInt = 0 → x5.toInt < b5.toInt ∨ b7.toInt = 0 from (by first | assumption | omega), show r_8.toInt = 0 → z_3.toInt = x10.toInt + 1 ∧ x10.toInt = x10.toInt from (by first | assumption | omega), show r_8.toInt = 0 → z_3.toInt - (f6 x11.toInt.toNat).toInt ≤ 24 from (by first | assumption | omega), show r_8.toInt = 0 → CellsX jn gc 0 (6 * z_3.toInt) from (fun q => absurd q (by omega)), show r_8.toInt = 0 → x7.toInt ≠ 0 from (by first | assumption | omega)⟩) hP hD hQ (Nat.le_of_ble_eq_true rfl) (Nat.le_of_ble_eq_true rfl) dX11_beat_189
        refine lv_aload_n hx hb dX11_beat_37 rfl (lv_at hl 0 rfl) ?_
        refine va_get (D := D) (ci := 11) (v := .int (nI jn)) (C := RX11) (T := TX11) (N := 47) hx hb hts (by decide +kernel) hown hK.1 hP 0 rfl rfl 0 (by decide) (hts (.fieldLink RX11 93 "JugglingHallModel" "jugglers" "I") (by decide +kernel)) (fun _ h9 => h9) rfl dX11_beat_38 ?_
        refine lv_iconst (v := 1) hx hb dX11_beat_41 (by decide) ?_
        refine a_icmp_ne (u := (jn : Int)) (v := 1) (tgt := 60) hx hb dX11_beat_42 (by decide) (nI_toInt (by omega)) (by decide) (fun c_9 => ?_) (fun c_9 => ?_)
        · refine lv_aload_n hx hb dX11_beat_60 rfl (lv_at hl 0 rfl) ?_
          refine va_get (D := D) (ci := 11) (v := .int x7) (C := RX11) (T := TX11) (N := 47) hx hb hts (by decide +kernel) hown hK.1 hP 0 rfl rfl 11 (by decide) (hts (.fieldLink RX11 131 "JugglingHallModel" "token" "I") (by decide +kernel)) (fun _ h9 => h9) rfl dX11_beat_61 ?_
          refine lv_bipush (v := 60) hx hb dX11_beat_64 (by decide) ?_
          refine a_icmp_eq (u := x7.toInt) (v := 60) (tgt := 79) hx hb dX11_beat_66 (by decide) (rfl) (by decide) (fun c_10 => ?_) (fun c_10 => ?_)
          · refine lv_iconst (v := 0) hx hb dX11_beat_79 (by decide) ?_
            refine lv_istore_n (lv' := [(1, .int 0), (0, .ref mm)]) hx hb dX11_beat_80 rfl hl (by decide) rfl (fun ls hl => ?_)
            have loop81 : ∀ (ddloop81 : Nat) (jj : Int32) (a5 : Int32) (a6 : Int32) (a7 : Int32) (a8 : Int32) (a9 : Int32) (a13 : Int32) (a14 : Int32) (gb : (Nat → Int32)) (H : Heap) (locs : List Loc) (ls : Array Slot), ((jn : Int) - jj.toInt).toNat < ddloop81 → (0 ≤ jj.toInt ∧ jj.toInt ≤ (jn : Int)) → (TokOK a7 a8) → (x5.toInt ≤ a5.toInt ∧ a5.toInt ≤ x2.toInt) → (a7.toInt ≠ 0 ∧ (jj.toInt = 0 ∨ x5.toInt < a5.toInt)) → (CellsX jn gb 0 (6 * x10.toInt + 6)) → va_P D vwCl (mX mm q jn cI x0 x1 x2 x3 x4 a5 a6 a7 a8 a9 x10 x11 x10 a13 a14 x15 x16 x17 x18 x19 x20 f0 f1 f2 gb f4 f5 f6 f7 f8 f9 f10 f11 f12 f13 f14 f15 f16 f17 f18 f19 f20 f21 f22 f23 f24) H → va_D A (mX mm q jn cI x0 x1 x2 x3 x4 a5 a6 a7 a8 a9 x10 x11 x10 a13 a14 x15 x16 x17 x18 x19 x20 f0 f1 f2 gb f4 f5 f6 f7 f8 f9 f10 f11 f12 f13 f14 f15 f16 f17 f18 f19 f20 f21 f22 f23 f24) → va_S A s.heap H locs → lv_has ls 3 [(0, .ref mm), (1, .int jj)] → W p l e ({ frames := 6, cells := 0, slots := 0, locals := 135 }) s m args below meth c H locs 0 0 Q (F0 m 81 ls []) := by
              intro ddloop81
              induction ddloop81 with
              | zero =>
                intro jj a5 a6 a7 a8 a9 a13 a14 gb H locs ls hdd
                exact absurd hdd (Nat.not_lt_zero _)
              | succ ddloop81 ih81 =>
                intro jj a5 a6 a7 a8 a9 a13 a14 gb H locs ls hdd hjj hT hp hp2 hCb hP hD hS hl
                refine lv_iload_n hx hb dX11_beat_81 rfl (lv_at hl 1 rfl) ?_
                refine lv_aload_n hx hb dX11_beat_82 rfl (lv_at hl 0 rfl) ?_
                refine va_get (D := D) (ci := 11) (v := .int (nI jn)) (C := RX11) (T := TX11) (N := 47) hx hb hts (by decide +kernel) hown hK.1 hP 0 rfl rfl 0 (by decide) (hts (.fieldLink RX11 93 "JugglingHallModel" "jugglers" "I") (by decide +kernel)) (fun _ h9 => h9) rfl dX11_beat_83 ?_
                refine a_icmp_ge (u := jj.toInt) (v := (jn : Int)) (tgt := 145) hx hb dX11_beat_86 (by decide) (rfl) (nI_toInt (by omega)) (fun c_11 => ?_) (fun c_11 => ?_)
                · refine lv_aload_n hx hb dX11_beat_145 rfl (lv_at hl 0 rfl) ?_
                  refine lv_aload_n hx hb dX11_beat_146 rfl (lv_at hl 0 rfl) ?_
                  refine va_get (D := D) (ci := 11) (v := .int a6) (C := RX11) (T := TX11) (N := 47) hx hb hts (by decide +kernel) hown hK.1 hP 0 rfl rfl 10 (by decide) (hts (.fieldLink RX11 120 "JugglingHallModel" "place" "I") (by decide +kernel)) (fun _ h9 => h9) rfl dX11_beat_147 ?_
                  refine mp_14 hx hb hts (by decide +kernel) hown hK hP hD hS (hts (.fieldLink RX11 160 "JugglingHallModel" "lastPlace" "I") (by decide +kernel)) dX11_beat_150 (fun H locs hP hD hS => ?_)
                  refine lv_aload_n hx hb dX11_beat_153 rfl (lv_at hl 0 rfl) ?_
                  refine call_g (wr := []) (va_runV (As := []) (rest := []) ⟨hx, hb, hml, hown, hts⟩ (k_next l D cI cR cM _  (by first | assumption | omega) (by first | assumption | omega)) (cwV 0 hts gX11_beat_X11_nextToken rfl rfl rfl (by decide +kernel) ⟨Nat.le_of_ble_eq_true rfl, Nat.le_of_ble_eq_true rfl⟩) (pre_V hK hP hD 0 11 rfl rfl) rfl rfl hl.1 rfl (lv_room (Nat.le_of_ble_eq_true rfl)) dX11_beat_154 ⟨Nat.le_of_ble_eq_true rfl, Nat.le_of_ble_eq_true rfl⟩) hP hD hS hA [0, 1, 2, 3, 4, 5, 6, 7, 8, 9, 10, 11, 12, 13, 14, 15, 16, 17, 18, 19, 20, 21, 22, 23, 24, 25] [] (by with_unfolding_all rfl) rfl (by decide) (by decide) (fun u_12 H locs hw hP hD hS => ?_)
                  obtain ⟨y5_12, y6_12, y7_12, y8_12⟩ := u_12
                  have hP : va_P D vwCl (mX mm q jn cI x0 x1 x2 x3 x4 y5_12 y6_12 y7_12 y8_12 a9 x10 x11 x10 a13 a6 x15 x16 x17 x18 x19 x20 f0 f1 f2 gb f4 f5 f6 f7 f8 f9 f10 f11 f12 f13 f14 f15 f16 f17 f18 f19 f20 f21 f22 f23 f24) H := hP
                  have hD : va_D A (mX mm q jn cI x0 x1 x2 x3 x4 y5_12 y6_12 y7_12 y8_12 a9 x10 x11 x10 a13 a6 x15 x16 x17 x18 x19 x20 f0 f1 f2 gb f4 f5 f6 f7 f8 f9 f10 f11 f12 f13 f14 f15 f16 f17 f18 f19 f20 f21 f22 f23 f24) := hD
                  obtain ⟨ha_12, hp_12, hk_12, hT_12⟩ : (a5.toInt ≤ y5_12.toInt ∧ y5_12.toInt ≤ x2.toInt) ∧ (0 ≤ y6_12.toInt ∧ y6_12.toInt ≤ 300) ∧ (y7_12.toInt = 0 ∨ a5.toInt < y5_12.toInt) ∧ (TokOK y7_12 y8_12) := hw
                  exact join2 y5_12 y6_12 y7_12 y8_12 a9 a13 a6 gb _ _ _ (by first | assumption | omega) (by first | assumption | omega) (by first | assumption | omega) (by first | assumption | omega) (by first | assumption | omega) hP hD hS (lv_sub hl [0] rfl)
                · refine lv_aload_n hx hb dX11_beat_89 rfl (lv_at hl 0 rfl) ?_
                  refine call_g (wr := []) (va_runV (As := []) (rest := []) ⟨hx, hb, hml, hown, hts⟩ (k_next l D cI cR cM _  (by first | assumption | omega) (by first | assumption | omega)) (cwV 0 hts gX11_beat_X11_nextToken rfl rfl rfl (by decide +kernel) ⟨Nat.le_of_ble_eq_true rfl, Nat.le_of_ble_eq_true rfl⟩) (pre_V hK hP hD 0 11 rfl rfl) rfl rfl hl.1 rfl (lv_room (Nat.le_of_ble_eq_true rfl)) dX11_beat_90 ⟨Nat.le_of_ble_eq_true rfl, Nat.le_of_ble_eq_true rfl⟩) hP hD hS hA [0, 1, 2, 3, 4, 5, 6, 7, 8, 9, 10, 11, 12, 13, 14, 15, 16, 17, 18, 19, 20, 21, 22, 23, 24, 25] [] (by with_unfolding_all rfl) rfl (by decide) (by decide) (fun u_13 H locs hw hP hD hS => ?_)
                  obtain ⟨y5_13, y6_13, y7_13, y8_13⟩ := u_13
                  have hP : va_P D vwCl (mX mm q jn cI x0 x1 x2 x3 x4 y5_13 y6_13 y7_13 y8_13 a9 x10 x11 x10 a13 a14 x15 x16 x17 x18 x19 x20 f0 f1 f2 gb f4 f5 f6 f7 f8 f9 f10 f11 f12 f13 f14 f15 f16 f17 f18 f19 f20 f21 f22 f23 f24) H := hP
                  have hD : va_D A (mX mm q jn cI x0 x1 x2 x3 x4 y5_13 y6_13 y7_13 y8_13 a9 x10 x11 x10 a13 a14 x15 x16 x17 x18 x19 x20 f0 f1 f2 gb f4 f5 f6 f7 f8 f9 f10 f11 f12 f13 f14 f15 f16 f17 f18 f19 f20 f21 f22 f23 f24) := hD
                  obtain ⟨ha_13, hp_13, hk_13, hT_13⟩ : (a5.toInt ≤ y5_13.toInt ∧ y5_13.toInt ≤ x2.toInt) ∧ (0 ≤ y6_13.toInt ∧ y6_13.toInt ≤ 300) ∧ (y7_13.toInt = 0 ∨ a5.toInt < y5_13.toInt) ∧ (TokOK y7_13 y8_13) := hw
                  refine lv_aload_n hx hb dX11_beat_93 rfl (lv_at hl 0 rfl) ?_
                  refine lv_iload_n hx hb dX11_beat_94 rfl (lv_at hl 1 rfl) ?_
                  refine call_g (wr := []) (va_runV (As := [.int jj]) (rest := []) ⟨hx, hb, hml, hown, hts⟩ (k_hands l D cI cR cM _  (by first | assumption | omega) (by first | assumption | omega) (by first | assumption | omega) (by first | assumption | omega) (by first | assumption | omega) (by first | assumption | omega) (by first | assumption | omega)) (cwV 1 hts gX11_beat_X11_hands rfl rfl rfl (by decide +kernel) ⟨Nat.le_of_ble_eq_true rfl, Nat.le_of_ble_eq_true rfl⟩) (pre_V hK hP hD 0 11 rfl rfl) rfl rfl hl.1 rfl (lv_room (Nat.le_of_ble_eq_true rfl)) dX11_beat_95 ⟨Nat.le_of_ble_eq_true rfl, Nat.le_of_ble_eq_true rfl⟩) hP hD hS hA [0, 1, 2, 3, 4, 5, 6, 7, 8, 9, 10, 11, 12, 13, 14, 15, 16, 17, 18, 19, 20, 21, 22, 23, 24, 25] [] (by with_unfolding_all rfl) rfl (by decide) (by decide) (fun u_14 H locs hw hP hD hS => ?_)
                  obtain ⟨r_14, y5_14, y6_14, y7_14, y8_14, y9_14, y13_14, y14_14, g3_14⟩ := u_14
                  have hP : va_P D vwCl (mX mm q jn cI x0 x1 x2 x3 x4 y5_14 y6_14 y7_14 y8_14 y9_14 x10 x11 x10 y13_14 y14_14 x15 x16 x17 x18 x19 x20 f0 f1 f2 g3_14 f4 f5 f6 f7 f8 f9 f10 f11 f12 f13 f14 f15 f16 f17 f18 f19 f20 f21 f22 f23 f24) H := hP
                  have hD : va_D A (mX mm q jn cI x0 x1 x2 x3 x4 y5_14 y6_14 y7_14 y8_14 y9_14 x10 x11 x10 y13_14 y14_14 x15 x16 x17 x18 x19 x20 f0 f1 f2 g3_14 f4 f5 f6 f7 f8 f9 f10 f11 f12 f13 f14 f15 f16 f17 f18 f19 f20 f21 f22 f23 f24) := hD
                  obtain ⟨ha_14, hT_14, hg_14, hC_14, h7_14⟩ : (y5_13.toInt ≤ y5_14.toInt ∧ y5_14.toInt ≤ x2.toInt) ∧ (TokOK y7_14 y8_14) ∧ (r_14.toInt = 0 → y5_13.toInt < y5_14.toInt ∨ y7_14.toInt = 0) ∧ (r_14.toInt = 0 → CellsX jn g3_14 0 (6 * x10.toInt + 6)) ∧ (r_14.toInt = 0 → y7_13.toInt ≠ 0) := hw
                  refine lv_istore_n (lv' := [(2, .int r_14), (0, .ref mm), (1, .int jj)]) hx hb dX11_beat_98 rfl hl (by decide) rfl (fun ls hl => ?_)
                  refine lv_iload_n hx hb dX11_beat_99 rfl (lv_at hl 0 rfl) ?_
                  refine a_if_eq (u := r_14.toInt) (tgt := 105) hx hb dX11_beat_100 (by decide) (rfl) (fun c_15 => ?_) (fun c_15 => ?_)
                  · have hCx := hC_14 (by omega)
                    refine lv_aload_n hx hb dX11_beat_105 rfl (lv_at hl 1 rfl) ?_
                    refine va_get (D := D) (ci := 11) (v := .int y7_14) (C := RX11) (T := TX11) (N := 47) hx hb hts (by decide +kernel) hown hK.1 hP 0 rfl rfl 11 (by decide) (hts (.fieldLink RX11 131 "JugglingHallModel" "token" "I") (by decide +kernel)) (fun _ h9 => h9) rfl dX11_beat_106 ?_
                    refine lv_iload_n hx hb dX11_beat_109 rfl (lv_at hl 2 rfl) ?_
                    refine lv_aload_n hx hb dX11_beat_110 rfl (lv_at hl 1 rfl) ?_
                    refine va_get (D := D) (ci := 11) (v := .int (nI jn)) (C := RX11) (T := TX11) (N := 47) hx hb hts (by decide +kernel) hown hK.1 hP 0 rfl rfl 0 (by decide) (hts (.fieldLink RX11 93 "JugglingHallModel" "jugglers" "I") (by decide +kernel)) (fun _ h9 => h9) rfl dX11_beat_111 ?_
                    refine lv_iconst (v := 1) hx hb dX11_beat_114 (by decide) ?_
                    refine a_isub (u := (jn : Int)) (v := 1) hx hb dX11_beat_115 (nI_toInt (by omega)) (by decide) (by omega) (fun z_16 e_16 => ?_)
                    refine a_icmp_ne (u := jj.toInt) (v := ((jn : Int) - 1)) (tgt := 124) hx hb dX11_beat_116 (by decide) (rfl) (e_16) (fun c_17 => ?_) (fun c_17 => ?_)
                    · refine lv_bipush (v := 124) hx hb dX11_beat_124 (by decide) ?_
                      refine a_icmp_eq (u := y7_14.toInt) (v := 124) (tgt := 139) hx hb dX11_beat_126 (by decide) (rfl) (by decide) (fun c_18 => ?_) (fun c_18 => ?_)
                      · obtain ⟨z_19, q_19, e_19⟩ := i_inc (a := jj.toInt) (1) (rfl) (by decide) (by omega) (by omega)
                        refine lv_iinc (v := z_19) (lv' := [(1, .int z_19), (2, .int r_14), (0, .ref mm)]) hx hb dX11_beat_139 hl (k := 2) rfl q_19 (by decide) rfl (fun ls hl => ?_)
                        refine lv_goto (tgt := 81) hx hb dX11_beat_142 (by decide) ?_
                        exact ih81 z_19 y5_14 y6_14 y7_14 y8_14 y9_14 y13_14 y14_14 g3_14 _ _ _ (by omega) (by first | assumption | omega) (by first | assumption | omega) (by first | assumption | omega) (by first | assumption | omega) (by first | assumption | omega) hP hD hS (lv_sub hl [2, 0] rfl)
                      · refine lv_aload_n hx hb dX11_beat_129 rfl (lv_at hl 1 rfl) ?_
                        refine lv_iconst (v := 1) hx hb dX11_beat_130 (by decide) ?_
                        refine lv_aload_n hx hb dX11_beat_131 rfl (lv_at hl 1 rfl) ?_
                        refine va_get (D := D) (ci := 11) (v := .int y6_14) (C := RX11) (T := TX11) (N := 47) hx hb hts (by decide +kernel) hown hK.1 hP 0 rfl rfl 10 (by decide) (hts (.fieldLink RX11 120 "JugglingHallModel" "place" "I") (by decide +kernel)) (fun _ h9 => h9) rfl dX11_beat_132 ?_
                        have hz_20 : (1 : Int32).toInt = 1 := by decide
                        refine call_g (wr := []) (va_runV (As := [.int 1, .int y6_14]) (rest := []) ⟨hx, hb, hml, hown, hts⟩ (k_fails l D cI cR cM _  ) (cwV 2 hts gX11_beat_X11_fails rfl rfl rfl (by decide +kernel) ⟨Nat.le_of_ble_eq_true rfl, Nat.le_of_ble_eq_true rfl⟩) (pre_V hK hP hD 0 11 rfl rfl) rfl rfl hl.1 rfl (lv_room (Nat.le_of_ble_eq_true rfl)) dX11_beat_135 ⟨Nat.le_of_ble_eq_true rfl, Nat.le_of_ble_eq_true rfl⟩) hP hD hS hA [0, 1, 2, 3, 4, 5, 6, 7, 8, 9, 10, 11, 12, 13, 14, 15, 16, 17, 18, 19, 20, 21, 22, 23, 24, 25] [] (by with_unfolding_all rfl) rfl (by decide) (by decide) (fun u_21 H locs hw hP hD hS => ?_)
                        obtain ⟨r_21, y9_21⟩ := u_21
                        have hP : va_P D vwCl (mX mm q jn cI x0 x1 x2 x3 x4 y5_14 y6_14 y7_14 y8_14 y9_21 x10 x11 x10 y13_14 y14_14 x15 x16 x17 x18 x19 x20 f0 f1 f2 g3_14 f4 f5 f6 f7 f8 f9 f10 f11 f12 f13 f14 f15 f16 f17 f18 f19 f20 f21 f22 f23 f24) H := hP
                        have hD : va_D A (mX mm q jn cI x0 x1 x2 x3 x4 y5_14 y6_14 y7_14 y8_14 y9_21 x10 x11 x10 y13_14 y14_14 x15 x16 x17 x18 x19 x20 f0 f1 f2 g3_14 f4 f5 f6 f7 f8 f9 f10 f11 f12 f13 f14 f15 f16 f17 f18 f19 f20 f21 f22 f23 f24) := hD
                        have hr_21 : (r_21.toInt = (1 : Int32).toInt) := hw
                        exact g_iret (r_21, y5_14, y6_14, y7_14, y8_14, y9_21, x10, x10, y13_14, y14_14, g3_14) hx hb hr hlocks hS rfl (⟨show x5.toInt ≤ y5_14.toInt ∧ y5_14.toInt ≤ x2.toInt from (by first | assumption | omega), show TokOK y7_14 y8_14 from (by first | assumption | omega), show r_21.toInt = 0 → x5.toInt < y5_14.toInt ∨ y7_14.toInt = 0 from (by first | assumption | omega), show r_21.toInt = 0 → x10.toInt = x10.toInt + 1 ∧ x10.toInt = x10.toInt from (by first | assumption | omega), show r_21.toInt = 0 → x10.toInt - (f6 x11.toInt.toNat).toInt ≤ 24 from (by first | assumption | omega), show r_21.toInt = 0 → CellsX jn g3_14 0 (6 * x10.toInt) from (fun q => absurd q (by omega)), show r_21.toInt = 0 → x7.toInt ≠ 0 from (by first | assumption | omega)⟩) hP hD hQ (Nat.le_of_ble_eq_true rfl) (Nat.le_of_ble_eq_true rfl) dX11_beat_138
                    · refine lv_bipush (v := 62) hx hb dX11_beat_119 (by decide) ?_
                      refine lv_goto (tgt := 126) hx hb dX11_beat_121 (by decide) ?_
                      refine a_icmp_eq (u := y7_14.toInt) (v := 62) (tgt := 139) hx hb dX11_beat_126 (by decide) (rfl) (by decide) (fun c_22 => ?_) (fun c_22 => ?_)
                      · obtain ⟨z_23, q_23, e_23⟩ := i_inc (a := jj.toInt) (1) (rfl) (by decide) (by omega) (by omega)
                        refine lv_iinc (v := z_23) (lv' := [(1, .int z_23), (2, .int r_14), (0, .ref mm)]) hx hb dX11_beat_139 hl (k := 2) rfl q_23 (by decide) rfl (fun ls hl => ?_)
                        refine lv_goto (tgt := 81) hx hb dX11_beat_142 (by decide) ?_
                        exact ih81 z_23 y5_14 y6_14 y7_14 y8_14 y9_14 y13_14 y14_14 g3_14 _ _ _ (by omega) (by first | assumption | omega) (by first | assumption | omega) (by first | assumption | omega) (by first | assumption | omega) (by first | assumption | omega) hP hD hS (lv_sub hl [2, 0] rfl)
                      · refine lv_aload_n hx hb dX11_beat_129 rfl (lv_at hl 1 rfl) ?_
                        refine lv_iconst (v := 1) hx hb dX11_beat_130 (by decide) ?_
                        refine lv_aload_n hx hb dX11_beat_131 rfl (lv_at hl 1 rfl) ?_
                        refine va_get (D := D) (ci := 11) (v := .int y6_14) (C := RX11) (T := TX11) (N := 47) hx hb hts (by decide +kernel) hown hK.1 hP 0 rfl rfl 10 (by decide) (hts (.fieldLink RX11 120 "JugglingHallModel" "place" "I") (by decide +kernel)) (fun _ h9 => h9) rfl dX11_beat_132 ?_
                        have hz_24 : (1 : Int32).toInt = 1 := by decide
                        refine call_g (wr := []) (va_runV (As := [.int 1, .int y6_14]) (rest := []) ⟨hx, hb, hml, hown, hts⟩ (k_fails l D cI cR cM _  ) (cwV 2 hts gX11_beat_X11_fails rfl rfl rfl (by decide +kernel) ⟨Nat.le_of_ble_eq_true rfl, Nat.le_of_ble_eq_true rfl⟩) (pre_V hK hP hD 0 11 rfl rfl) rfl rfl hl.1 rfl (lv_room (Nat.le_of_ble_eq_true rfl)) dX11_beat_135 ⟨Nat.le_of_ble_eq_true rfl, Nat.le_of_ble_eq_true rfl⟩) hP hD hS hA [0, 1, 2, 3, 4, 5, 6, 7, 8, 9, 10, 11, 12, 13, 14, 15, 16, 17, 18, 19, 20, 21, 22, 23, 24, 25] [] (by with_unfolding_all rfl) rfl (by decide) (by decide) (fun u_25 H locs hw hP hD hS => ?_)
                        obtain ⟨r_25, y9_25⟩ := u_25
                        have hP : va_P D vwCl (mX mm q jn cI x0 x1 x2 x3 x4 y5_14 y6_14 y7_14 y8_14 y9_25 x10 x11 x10 y13_14 y14_14 x15 x16 x17 x18 x19 x20 f0 f1 f2 g3_14 f4 f5 f6 f7 f8 f9 f10 f11 f12 f13 f14 f15 f16 f17 f18 f19 f20 f21 f22 f23 f24) H := hP
                        have hD : va_D A (mX mm q jn cI x0 x1 x2 x3 x4 y5_14 y6_14 y7_14 y8_14 y9_25 x10 x11 x10 y13_14 y14_14 x15 x16 x17 x18 x19 x20 f0 f1 f2 g3_14 f4 f5 f6 f7 f8 f9 f10 f11 f12 f13 f14 f15 f16 f17 f18 f19 f20 f21 f22 f23 f24) := hD
                        have hr_25 : (r_25.toInt = (1 : Int32).toInt) := hw
                        exact g_iret (r_25, y5_14, y6_14, y7_14, y8_14, y9_25, x10, x10, y13_14, y14_14, g3_14) hx hb hr hlocks hS rfl (⟨show x5.toInt ≤ y5_14.toInt ∧ y5_14.toInt ≤ x2.toInt from (by first | assumption | omega), show TokOK y7_14 y8_14 from (by first | assumption | omega), show r_25.toInt = 0 → x5.toInt < y5_14.toInt ∨ y7_14.toInt = 0 from (by first | assumption | omega), show r_25.toInt = 0 → x10.toInt = x10.toInt + 1 ∧ x10.toInt = x10.toInt from (by first | assumption | omega), show r_25.toInt = 0 → x10.toInt - (f6 x11.toInt.toNat).toInt ≤ 24 from (by first | assumption | omega), show r_25.toInt = 0 → CellsX jn g3_14 0 (6 * x10.toInt) from (fun q => absurd q (by omega)), show r_25.toInt = 0 → x7.toInt ≠ 0 from (by first | assumption | omega)⟩) hP hD hQ (Nat.le_of_ble_eq_true rfl) (Nat.le_of_ble_eq_true rfl) dX11_beat_138
                  · refine lv_iload_n hx hb dX11_beat_103 rfl (lv_at hl 0 rfl) ?_
                    exact g_iret (r_14, y5_14, y6_14, y7_14, y8_14, y9_14, x10, x10, y13_14, y14_14, g3_14) hx hb hr hlocks hS rfl (⟨show x5.toInt ≤ y5_14.toInt ∧ y5_14.toInt ≤ x2.toInt from (by first | assumption | omega), show TokOK y7_14 y8_14 from (by first | assumption | omega), show r_14.toInt = 0 → x5.toInt < y5_14.toInt ∨ y7_14.toInt = 0 from (by first | assumption | omega), show r_14.toInt = 0 → x10.toInt = x10.toInt + 1 ∧ x10.toInt = x10.toInt from (by first | assumption | omega), show r_14.toInt = 0 → x10.toInt - (f6 x11.toInt.toNat).toInt ≤ 24 from (by first | assumption | omega), show r_14.toInt = 0 → CellsX jn g3_14 0 (6 * x10.toInt) from (fun q => absurd q (by omega)), show r_14.toInt = 0 → x7.toInt ≠ 0 from (by first | assumption | omega)⟩) hP hD hQ (Nat.le_of_ble_eq_true rfl) (Nat.le_of_ble_eq_true rfl) dX11_beat_104
            have hz_26 : (0 : Int32).toInt = 0 := by decide
            exact loop81 (((jn : Int) - (0 : Int32).toInt).toNat + 1) (0 : Int32) x5 x6 x7 x8 x9 x13 x14 ga _ _ _ (by omega) (by first | assumption | omega) (by first | assumption | omega) (by first | assumption | omega) (by first | assumption | omega) (by first | assumption | omega) hP hD hS (lv_sub hl [1, 0] rfl)
          · refine lv_aload_n hx hb dX11_beat_69 rfl (lv_at hl 0 rfl) ?_
            refine lv_iconst (v := 1) hx hb dX11_beat_70 (by decide) ?_
            refine lv_aload_n hx hb dX11_beat_71 rfl (lv_at hl 0 rfl) ?_
            refine va_get (D := D) (ci := 11) (v := .int x6) (C := RX11) (T := TX11) (N := 47) hx hb hts (by decide +kernel) hown hK.1 hP 0 rfl rfl 10 (by decide) (hts (.fieldLink RX11 120 "JugglingHallModel" "place" "I") (by decide +kernel)) (fun _ h9 => h9) rfl dX11_beat_72 ?_
            have hz_27 : (1 : Int32).toInt = 1 := by decide
            refine call_g (wr := []) (va_runV (As := [.int 1, .int x6]) (rest := []) ⟨hx, hb, hml, hown, hts⟩ (k_fails l D cI cR cM _  ) (cwV 2 hts gX11_beat_X11_fails rfl rfl rfl (by decide +kernel) ⟨Nat.le_of_ble_eq_true rfl, Nat.le_of_ble_eq_true rfl⟩) (pre_V hK hP hD 0 11 rfl rfl) rfl rfl hl.1 rfl (lv_room (Nat.le_of_ble_eq_true rfl)) dX11_beat_75 ⟨Nat.le_of_ble_eq_true rfl, Nat.le_of_ble_eq_true rfl⟩) hP hD hS hA [0, 1, 2, 3, 4, 5, 6, 7, 8, 9, 10, 11, 12, 13, 14, 15, 16, 17, 18, 19, 20, 21, 22, 23, 24, 25] [] (by with_unfolding_all rfl) rfl (by decide) (by decide) (fun u_28 H locs hw hP hD hS => ?_)
            obtain ⟨r_28, y9_28⟩ := u_28
            have hP : va_P D vwCl (mX mm q jn cI x0 x1 x2 x3 x4 x5 x6 x7 x8 y9_28 x10 x11 x10 x13 x14 x15 x16 x17 x18 x19 x20 f0 f1 f2 ga f4 f5 f6 f7 f8 f9 f10 f11 f12 f13 f14 f15 f16 f17 f18 f19 f20 f21 f22 f23 f24) H := hP
            have hD : va_D A (mX mm q jn cI x0 x1 x2 x3 x4 x5 x6 x7 x8 y9_28 x10 x11 x10 x13 x14 x15 x16 x17 x18 x19 x20 f0 f1 f2 ga f4 f5 f6 f7 f8 f9 f10 f11 f12 f13 f14 f15 f16 f17 f18 f19 f20 f21 f22 f23 f24) := hD
            have hr_28 : (r_28.toInt = (1 : Int32).toInt) := hw
            exact g_iret (r_28, x5, x6, x7, x8, y9_28, x10, x10, x13, x14, ga) hx hb hr hlocks hS rfl (⟨show x5.toInt ≤ x5.toInt ∧ x5.toInt ≤ x2.toInt from (by first | assumption | omega), show TokOK x7 x8 from (by first | assumption | omega), show r_28.toInt = 0 → x5.toInt < x5.toInt ∨ x7.toInt = 0 from (by first | assumption | omega), show r_28.toInt = 0 → x10.toInt = x10.toInt + 1 ∧ x10.toInt = x10.toInt from (by first | assumption | omega), show r_28.toInt = 0 → x10.toInt - (f6 x11.toInt.toNat).toInt ≤ 24 from (by first | assumption | omega), show r_28.toInt = 0 → CellsX jn ga 0 (6 * x10.toInt) from (fun q => absurd q (by omega)), show r_28.toInt = 0 → x7.toInt ≠ 0 from (by first | assumption | omega)⟩) hP hD hQ (Nat.le_of_ble_eq_true rfl) (Nat.le_of_ble_eq_true rfl) dX11_beat_78
        · refine lv_aload_n hx hb dX11_beat_45 rfl (lv_at hl 0 rfl) ?_
          refine lv_iconst (v := 0) hx hb dX11_beat_46 (by decide) ?_
          have hz_29 : (0 : Int32).toInt = 0 := by decide
          refine call_g (wr := []) (va_runV (As := [.int 0]) (rest := []) ⟨hx, hb, hml, hown, hts⟩ (k_hands l D cI cR cM _  (by first | assumption | omega) (by first | assumption | omega) (by first | assumption | omega) (by first | assumption | omega) (by first | assumption | omega) (by first | assumption | omega) (hC0)) (cwV 1 hts gX11_beat_X11_hands rfl rfl rfl (by decide +kernel) ⟨Nat.le_of_ble_eq_true rfl, Nat.le_of_ble_eq_true rfl⟩) (pre_V hK hP hD 0 11 rfl rfl) rfl rfl hl.1 rfl (lv_room (Nat.le_of_ble_eq_true rfl)) dX11_beat_47 ⟨Nat.le_of_ble_eq_true rfl, Nat.le_of_ble_eq_true rfl⟩) hP hD hS hA [0, 1, 2, 3, 4, 5, 6, 7, 8, 9, 10, 11, 12, 13, 14, 15, 16, 17, 18, 19, 20, 21, 22, 23, 24, 25] [] (by with_unfolding_all rfl) rfl (by decide) (by decide) (fun u_30 H locs hw hP hD hS => ?_)
          obtain ⟨r_30, y5_30, y6_30, y7_30, y8_30, y9_30, y13_30, y14_30, g3_30⟩ := u_30
          have hP : va_P D vwCl (mX mm q jn cI x0 x1 x2 x3 x4 y5_30 y6_30 y7_30 y8_30 y9_30 x10 x11 x10 y13_30 y14_30 x15 x16 x17 x18 x19 x20 f0 f1 f2 g3_30 f4 f5 f6 f7 f8 f9 f10 f11 f12 f13 f14 f15 f16 f17 f18 f19 f20 f21 f22 f23 f24) H := hP
          have hD : va_D A (mX mm q jn cI x0 x1 x2 x3 x4 y5_30 y6_30 y7_30 y8_30 y9_30 x10 x11 x10 y13_30 y14_30 x15 x16 x17 x18 x19 x20 f0 f1 f2 g3_30 f4 f5 f6 f7 f8 f9 f10 f11 f12 f13 f14 f15 f16 f17 f18 f19 f20 f21 f22 f23 f24) := hD
          obtain ⟨ha_30, hT_30, hg_30, hC_30, h7_30⟩ : (x5.toInt ≤ y5_30.toInt ∧ y5_30.toInt ≤ x2.toInt) ∧ (TokOK y7_30 y8_30) ∧ (r_30.toInt = 0 → x5.toInt < y5_30.toInt ∨ y7_30.toInt = 0) ∧ (r_30.toInt = 0 → CellsX jn g3_30 0 (6 * x10.toInt + 6)) ∧ (r_30.toInt = 0 → x7.toInt ≠ 0) := hw
          refine lv_istore_n (lv' := [(1, .int r_30), (0, .ref mm)]) hx hb dX11_beat_50 rfl hl (by decide) rfl (fun ls hl => ?_)
          refine lv_iload_n hx hb dX11_beat_51 rfl (lv_at hl 0 rfl) ?_
          refine a_if_eq (u := r_30.toInt) (tgt := 57) hx hb dX11_beat_52 (by decide) (rfl) (fun c_31 => ?_) (fun c_31 => ?_)
          · have hCx := hC_30 (by omega)
            refine lv_goto (tgt := 157) hx hb dX11_beat_57 (by decide) ?_
            exact join2 y5_30 y6_30 y7_30 y8_30 y9_30 y13_30 y14_30 g3_30 _ _ _ (by first | assumption | omega) (by first | assumption | omega) (by first | assumption | omega) (by first | assumption | omega) (by first | assumption | omega) hP hD hS (lv_sub hl [1] rfl)
          · refine lv_iload_n hx hb dX11_beat_55 rfl (lv_at hl 0 rfl) ?_
            exact g_iret (r_30, y5_30, y6_30, y7_30, y8_30, y9_30, x10, x10, y13_30, y14_30, g3_30) hx hb hr hlocks hS rfl (⟨show x5.toInt ≤ y5_30.toInt ∧ y5_30.toInt ≤ x2.toInt from (by first | assumption | omega), show TokOK y7_30 y8_30 from (by first | assumption | omega), show r_30.toInt = 0 → x5.toInt < y5_30.toInt ∨ y7_30.toInt = 0 from (by first | assumption | omega), show r_30.toInt = 0 → x10.toInt = x10.toInt + 1 ∧ x10.toInt = x10.toInt from (by first | assumption | omega), show r_30.toInt = 0 → x10.toInt - (f6 x11.toInt.toNat).toInt ≤ 24 from (by first | assumption | omega), show r_30.toInt = 0 → CellsX jn g3_30 0 (6 * x10.toInt) from (fun q => absurd q (by omega)), show r_30.toInt = 0 → x7.toInt ≠ 0 from (by first | assumption | omega)⟩) hP hD hQ (Nat.le_of_ble_eq_true rfl) (Nat.le_of_ble_eq_true rfl) dX11_beat_56
      · refine lv_aload_n hx hb dX11_beat_8 rfl (lv_at hl 0 rfl) ?_
        refine va_get (D := D) (ci := 11) (v := .ref (q 3)) (C := RX11) (T := TX11) (N := 47) hx hb hts (by decide +kernel) hown hK.1 hP 0 rfl rfl 14 (by decide) (hts (.fieldLink RX11 27 "JugglingHallModel" "work" "[I") (by decide +kernel)) (fun _ h9 => h9) rfl dX11_beat_9 ?_
        refine lv_bipush (v := 6) hx hb dX11_beat_12 (by decide) ?_
        refine lv_aload_n hx hb dX11_beat_14 rfl (lv_at hl 0 rfl) ?_
        refine va_get (D := D) (ci := 11) (v := .int x10) (C := RX11) (T := TX11) (N := 47) hx hb hts (by decide +kernel) hown hK.1 hP 0 rfl rfl 19 (by decide) (hts (.fieldLink RX11 151 "JugglingHallModel" "top" "I") (by decide +kernel)) (fun _ h9 => h9) rfl dX11_beat_15 ?_
        refine a_imul (u := 6) (v := x10.toInt) hx hb dX11_beat_18 (by decide) (rfl) (by omega) (fun z_32 e_32 => ?_)
        refine lv_iload_n hx hb dX11_beat_19 rfl (lv_at hl 1 rfl) ?_
        refine a_iadd (u := (6 * x10.toInt)) (v := k.toInt) hx hb dX11_beat_20 (e_32) (rfl) (by omega) (fun z_33 e_33 => ?_)
        refine lv_iconst (v := 0) hx hb dX11_beat_21 (by decide) ?_
        refine ma_3 (u := ((6 * x10.toInt) + k.toInt)) hx hb hK hP hD hS dX11_beat_22 (e_33) (by omega) (fun g_34 H locs eg_34 hP hD hS => ?_)
        obtain ⟨z_35, q_35, e_35⟩ := i_inc (a := k.toInt) (1) (rfl) (by decide) (by omega) (by omega)
        refine lv_iinc (v := z_35) (lv' := [(1, .int z_35), (0, .ref mm)]) hx hb dX11_beat_23 hl (k := 1) rfl q_35 (by decide) rfl (fun ls hl => ?_)
        refine lv_goto (tgt := 2) hx hb dX11_beat_26 (by decide) ?_
        exact ih2 z_35 g_34 _ _ _ (by omega) (by first | assumption | omega) (fun i i0 i1 => by rw [eg_34, un_i i0 (by omega) (by omega)]; exact hga i i0 i1) (fun i i0 i1 => by
          by_cases q : i = 6 * x10.toInt + k.toInt
          · rw [eg_34, q, pk_us]; decide
          · rw [eg_34, un_i (by omega) (by omega) (by omega)]; exact hgz i i0 (by omega)) hP hD hS (lv_sub hl [1, 0] rfl)
  have hz_36 : (0 : Int32).toInt = 0 := by decide
  exact loop2 ((6 - (0 : Int32).toInt).toNat + 1) (0 : Int32) f3 _ _ _ (by omega) (by first | assumption | omega) (fun _ _ _ => rfl) (fun i i0 i1 => absurd i1 (by omega)) hP hD hS (lv_sub hl [1, 0] rfl)
