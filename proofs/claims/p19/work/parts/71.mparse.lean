theorem dX11_letter_0 : decode cX11_letter 0 = .ok (.aload_n 0, 1) := by decide +kernel
theorem dX11_letter_1 : decode cX11_letter 1 = .ok (.getfield 138, 3) := by decide +kernel
theorem dX11_letter_4 : decode cX11_letter 4 = .ok (.istore_n 1, 1) := by decide +kernel
theorem dX11_letter_5 : decode cX11_letter 5 = .ok (.aload_n 0, 1) := by decide +kernel
theorem dX11_letter_6 : decode cX11_letter 6 = .ok (.getfield 120, 3) := by decide +kernel
theorem dX11_letter_9 : decode cX11_letter 9 = .ok (.istore_n 2, 1) := by decide +kernel
theorem dX11_letter_10 : decode cX11_letter 10 = .ok (.aload_n 0, 1) := by decide +kernel
theorem dX11_letter_11 : decode cX11_letter 11 = .ok (.iload_n 1, 1) := by decide +kernel
theorem dX11_letter_12 : decode cX11_letter 12 = .ok (.aload_n 0, 1) := by decide +kernel
theorem dX11_letter_13 : decode cX11_letter 13 = .ok (.getfield 185, 3) := by decide +kernel
theorem dX11_letter_16 : decode cX11_letter 16 = .ok (.invokevirtual 107, 3) := by decide +kernel
theorem dX11_letter_19 : decode cX11_letter 19 = .ok (.istore_n 3, 1) := by decide +kernel
theorem dX11_letter_20 : decode cX11_letter 20 = .ok (.aload_n 0, 1) := by decide +kernel
theorem dX11_letter_21 : decode cX11_letter 21 = .ok (.getfield 42, 3) := by decide +kernel
theorem dX11_letter_24 : decode cX11_letter 24 = .ok (.iload_n 1, 1) := by decide +kernel
theorem dX11_letter_25 : decode cX11_letter 25 = .ok (.iaload, 1) := by decide +kernel
theorem dX11_letter_26 : decode cX11_letter 26 = .ok (.ifCond .le 12, 3) := by decide +kernel
theorem dX11_letter_29 : decode cX11_letter 29 = .ok (.aload_n 0, 1) := by decide +kernel
theorem dX11_letter_30 : decode cX11_letter 30 = .ok (.getfield 42, 3) := by decide +kernel
theorem dX11_letter_33 : decode cX11_letter 33 = .ok (.iload_n 1, 1) := by decide +kernel
theorem dX11_letter_34 : decode cX11_letter 34 = .ok (.iaload, 1) := by decide +kernel
theorem dX11_letter_35 : decode cX11_letter 35 = .ok (.goto 17, 3) := by decide +kernel
theorem dX11_letter_38 : decode cX11_letter 38 = .ok (.iload_n 3, 1) := by decide +kernel
theorem dX11_letter_39 : decode cX11_letter 39 = .ok (.ifCond .ge 7, 3) := by decide +kernel
theorem dX11_letter_42 : decode cX11_letter 42 = .ok (.iconst 0, 1) := by decide +kernel
theorem dX11_letter_43 : decode cX11_letter 43 = .ok (.goto 9, 3) := by decide +kernel
theorem dX11_letter_46 : decode cX11_letter 46 = .ok (.aload_n 0, 1) := by decide +kernel
theorem dX11_letter_47 : decode cX11_letter 47 = .ok (.getfield 8, 3) := by decide +kernel
theorem dX11_letter_50 : decode cX11_letter 50 = .ok (.iload_n 3, 1) := by decide +kernel
theorem dX11_letter_51 : decode cX11_letter 51 = .ok (.iaload, 1) := by decide +kernel
theorem dX11_letter_52 : decode cX11_letter 52 = .ok (.istore 4, 2) := by decide +kernel
theorem dX11_letter_54 : decode cX11_letter 54 = .ok (.iload 4, 2) := by decide +kernel
theorem dX11_letter_56 : decode cX11_letter 56 = .ok (.ifCond .ne 11, 3) := by decide +kernel
theorem dX11_letter_59 : decode cX11_letter 59 = .ok (.aload_n 0, 1) := by decide +kernel
theorem dX11_letter_60 : decode cX11_letter 60 = .ok (.bipush 6, 2) := by decide +kernel
theorem dX11_letter_62 : decode cX11_letter 62 = .ok (.iload_n 2, 1) := by decide +kernel
theorem dX11_letter_63 : decode cX11_letter 63 = .ok (.invokevirtual 157, 3) := by decide +kernel
theorem dX11_letter_66 : decode cX11_letter 66 = .ok (.ireturn, 1) := by decide +kernel
theorem dX11_letter_67 : decode cX11_letter 67 = .ok (.aload_n 0, 1) := by decide +kernel
theorem dX11_letter_68 : decode cX11_letter 68 = .ok (.invokevirtual 163, 3) := by decide +kernel
theorem dX11_letter_71 : decode cX11_letter 71 = .ok (.aload_n 0, 1) := by decide +kernel
theorem dX11_letter_72 : decode cX11_letter 72 = .ok (.aload_n 0, 1) := by decide +kernel
theorem dX11_letter_73 : decode cX11_letter 73 = .ok (.getfield 151, 3) := by decide +kernel
theorem dX11_letter_76 : decode cX11_letter 76 = .ok (.putfield 176, 3) := by decide +kernel
theorem dX11_letter_79 : decode cX11_letter 79 = .ok (.aload_n 0, 1) := by decide +kernel
theorem dX11_letter_80 : decode cX11_letter 80 = .ok (.invokevirtual 182, 3) := by decide +kernel
theorem dX11_letter_83 : decode cX11_letter 83 = .ok (.iload 4, 2) := by decide +kernel
theorem dX11_letter_85 : decode cX11_letter 85 = .ok (.iadd, 1) := by decide +kernel
theorem dX11_letter_86 : decode cX11_letter 86 = .ok (.bipush 24, 2) := by decide +kernel
theorem dX11_letter_88 : decode cX11_letter 88 = .ok (.if_icmp .le 10, 3) := by decide +kernel
theorem dX11_letter_91 : decode cX11_letter 91 = .ok (.aload_n 0, 1) := by decide +kernel
theorem dX11_letter_92 : decode cX11_letter 92 = .ok (.iconst 4, 1) := by decide +kernel
theorem dX11_letter_93 : decode cX11_letter 93 = .ok (.iload_n 2, 1) := by decide +kernel
theorem dX11_letter_94 : decode cX11_letter 94 = .ok (.invokevirtual 157, 3) := by decide +kernel
theorem dX11_letter_97 : decode cX11_letter 97 = .ok (.ireturn, 1) := by decide +kernel
theorem dX11_letter_98 : decode cX11_letter 98 = .ok (.iconst 0, 1) := by decide +kernel
theorem dX11_letter_99 : decode cX11_letter 99 = .ok (.istore 5, 2) := by decide +kernel
theorem dX11_letter_101 : decode cX11_letter 101 = .ok (.iload 5, 2) := by decide +kernel
theorem dX11_letter_103 : decode cX11_letter 103 = .ok (.bipush 6, 2) := by decide +kernel
theorem dX11_letter_105 : decode cX11_letter 105 = .ok (.iload 4, 2) := by decide +kernel
theorem dX11_letter_107 : decode cX11_letter 107 = .ok (.imul, 1) := by decide +kernel
theorem dX11_letter_108 : decode cX11_letter 108 = .ok (.if_icmp .ge 60, 3) := by decide +kernel
theorem dX11_letter_111 : decode cX11_letter 111 = .ok (.aload_n 0, 1) := by decide +kernel
theorem dX11_letter_112 : decode cX11_letter 112 = .ok (.getfield 27, 3) := by decide +kernel
theorem dX11_letter_115 : decode cX11_letter 115 = .ok (.bipush 6, 2) := by decide +kernel
theorem dX11_letter_117 : decode cX11_letter 117 = .ok (.aload_n 0, 1) := by decide +kernel
theorem dX11_letter_118 : decode cX11_letter 118 = .ok (.getfield 151, 3) := by decide +kernel
theorem dX11_letter_121 : decode cX11_letter 121 = .ok (.imul, 1) := by decide +kernel
theorem dX11_letter_122 : decode cX11_letter 122 = .ok (.iload 5, 2) := by decide +kernel
theorem dX11_letter_124 : decode cX11_letter 124 = .ok (.iadd, 1) := by decide +kernel
theorem dX11_letter_125 : decode cX11_letter 125 = .ok (.aload_n 0, 1) := by decide +kernel
theorem dX11_letter_126 : decode cX11_letter 126 = .ok (.getfield 42, 3) := by decide +kernel
theorem dX11_letter_129 : decode cX11_letter 129 = .ok (.iload_n 1, 1) := by decide +kernel
theorem dX11_letter_130 : decode cX11_letter 130 = .ok (.iaload, 1) := by decide +kernel
theorem dX11_letter_131 : decode cX11_letter 131 = .ok (.ifCond .le 19, 3) := by decide +kernel
theorem dX11_letter_134 : decode cX11_letter 134 = .ok (.aload_n 0, 1) := by decide +kernel
theorem dX11_letter_135 : decode cX11_letter 135 = .ok (.getfield 45, 3) := by decide +kernel
theorem dX11_letter_138 : decode cX11_letter 138 = .ok (.sipush 144, 3) := by decide +kernel
theorem dX11_letter_141 : decode cX11_letter 141 = .ok (.iload_n 1, 1) := by decide +kernel
theorem dX11_letter_142 : decode cX11_letter 142 = .ok (.imul, 1) := by decide +kernel
theorem dX11_letter_143 : decode cX11_letter 143 = .ok (.iload 5, 2) := by decide +kernel
theorem dX11_letter_145 : decode cX11_letter 145 = .ok (.iadd, 1) := by decide +kernel
theorem dX11_letter_146 : decode cX11_letter 146 = .ok (.iaload, 1) := by decide +kernel
theorem dX11_letter_147 : decode cX11_letter 147 = .ok (.goto 14, 3) := by decide +kernel
theorem dX11_letter_150 : decode cX11_letter 150 = .ok (.aload_n 0, 1) := by decide +kernel
theorem dX11_letter_151 : decode cX11_letter 151 = .ok (.getfield 8, 3) := by decide +kernel
theorem dX11_letter_154 : decode cX11_letter 154 = .ok (.iload_n 3, 1) := by decide +kernel
theorem dX11_letter_155 : decode cX11_letter 155 = .ok (.iconst 1, 1) := by decide +kernel
theorem dX11_letter_156 : decode cX11_letter 156 = .ok (.iadd, 1) := by decide +kernel
theorem dX11_letter_157 : decode cX11_letter 157 = .ok (.iload 5, 2) := by decide +kernel
theorem dX11_letter_159 : decode cX11_letter 159 = .ok (.iadd, 1) := by decide +kernel
theorem dX11_letter_160 : decode cX11_letter 160 = .ok (.iaload, 1) := by decide +kernel
theorem dX11_letter_161 : decode cX11_letter 161 = .ok (.iastore, 1) := by decide +kernel
theorem dX11_letter_162 : decode cX11_letter 162 = .ok (.iinc 5 1, 3) := by decide +kernel
theorem dX11_letter_165 : decode cX11_letter 165 = .ok (.goto (-64), 3) := by decide +kernel
theorem dX11_letter_168 : decode cX11_letter 168 = .ok (.aload_n 0, 1) := by decide +kernel
theorem dX11_letter_169 : decode cX11_letter 169 = .ok (.dup, 1) := by decide +kernel
theorem dX11_letter_170 : decode cX11_letter 170 = .ok (.getfield 151, 3) := by decide +kernel
theorem dX11_letter_173 : decode cX11_letter 173 = .ok (.iload 4, 2) := by decide +kernel
theorem dX11_letter_175 : decode cX11_letter 175 = .ok (.iadd, 1) := by decide +kernel
theorem dX11_letter_176 : decode cX11_letter 176 = .ok (.putfield 151, 3) := by decide +kernel
theorem dX11_letter_179 : decode cX11_letter 179 = .ok (.iconst 0, 1) := by decide +kernel
theorem dX11_letter_180 : decode cX11_letter 180 = .ok (.ireturn, 1) := by decide +kernel
theorem dX11_comes_0 : decode cX11_comes 0 = .ok (.bipush 6, 2) := by decide +kernel
theorem dX11_comes_2 : decode cX11_comes 2 = .ok (.iload_n 1, 1) := by decide +kernel
theorem dX11_comes_3 : decode cX11_comes 3 = .ok (.imul, 1) := by decide +kernel
theorem dX11_comes_4 : decode cX11_comes 4 = .ok (.iconst 2, 1) := by decide +kernel
theorem dX11_comes_5 : decode cX11_comes 5 = .ok (.iload_n 2, 1) := by decide +kernel
theorem dX11_comes_6 : decode cX11_comes 6 = .ok (.imul, 1) := by decide +kernel
theorem dX11_comes_7 : decode cX11_comes 7 = .ok (.iadd, 1) := by decide +kernel
theorem dX11_comes_8 : decode cX11_comes 8 = .ok (.istore 4, 2) := by decide +kernel
theorem dX11_comes_10 : decode cX11_comes 10 = .ok (.aload_n 0, 1) := by decide +kernel
theorem dX11_comes_11 : decode cX11_comes 11 = .ok (.getfield 39, 3) := by decide +kernel
theorem dX11_comes_14 : decode cX11_comes 14 = .ok (.iload 4, 2) := by decide +kernel
theorem dX11_comes_16 : decode cX11_comes 16 = .ok (.iaload, 1) := by decide +kernel
theorem dX11_comes_17 : decode cX11_comes 17 = .ok (.ifCond .ne 14, 3) := by decide +kernel
theorem dX11_comes_20 : decode cX11_comes 20 = .ok (.aload_n 0, 1) := by decide +kernel
theorem dX11_comes_21 : decode cX11_comes 21 = .ok (.getfield 39, 3) := by decide +kernel
theorem dX11_comes_24 : decode cX11_comes 24 = .ok (.iload 4, 2) := by decide +kernel
theorem dX11_comes_26 : decode cX11_comes 26 = .ok (.iload_n 3, 1) := by decide +kernel
theorem dX11_comes_27 : decode cX11_comes 27 = .ok (.iastore, 1) := by decide +kernel
theorem dX11_comes_28 : decode cX11_comes 28 = .ok (.goto 30, 3) := by decide +kernel
theorem dX11_comes_31 : decode cX11_comes 31 = .ok (.aload_n 0, 1) := by decide +kernel
theorem dX11_comes_32 : decode cX11_comes 32 = .ok (.getfield 39, 3) := by decide +kernel
theorem dX11_comes_35 : decode cX11_comes 35 = .ok (.iload 4, 2) := by decide +kernel
theorem dX11_comes_37 : decode cX11_comes 37 = .ok (.iconst 1, 1) := by decide +kernel
theorem dX11_comes_38 : decode cX11_comes 38 = .ok (.iadd, 1) := by decide +kernel
theorem dX11_comes_39 : decode cX11_comes 39 = .ok (.iaload, 1) := by decide +kernel
theorem dX11_comes_40 : decode cX11_comes 40 = .ok (.ifCond .ne 16, 3) := by decide +kernel
theorem dX11_comes_43 : decode cX11_comes 43 = .ok (.aload_n 0, 1) := by decide +kernel
theorem dX11_comes_44 : decode cX11_comes 44 = .ok (.getfield 39, 3) := by decide +kernel
theorem dX11_comes_47 : decode cX11_comes 47 = .ok (.iload 4, 2) := by decide +kernel
theorem dX11_comes_49 : decode cX11_comes 49 = .ok (.iconst 1, 1) := by decide +kernel
theorem dX11_comes_50 : decode cX11_comes 50 = .ok (.iadd, 1) := by decide +kernel
theorem dX11_comes_51 : decode cX11_comes 51 = .ok (.iload_n 3, 1) := by decide +kernel
theorem dX11_comes_52 : decode cX11_comes 52 = .ok (.iastore, 1) := by decide +kernel
theorem dX11_comes_53 : decode cX11_comes 53 = .ok (.goto 5, 3) := by decide +kernel
theorem dX11_comes_56 : decode cX11_comes 56 = .ok (.iconst 0, 1) := by decide +kernel
theorem dX11_comes_57 : decode cX11_comes 57 = .ok (.ireturn, 1) := by decide +kernel
theorem dX11_comes_58 : decode cX11_comes 58 = .ok (.aload_n 0, 1) := by decide +kernel
theorem dX11_comes_59 : decode cX11_comes 59 = .ok (.getfield 39, 3) := by decide +kernel
theorem dX11_comes_62 : decode cX11_comes 62 = .ok (.iload 4, 2) := by decide +kernel
theorem dX11_comes_64 : decode cX11_comes 64 = .ok (.invokestatic 172, 3) := by decide +kernel
theorem dX11_comes_67 : decode cX11_comes 67 = .ok (.iconst 1, 1) := by decide +kernel
theorem dX11_comes_68 : decode cX11_comes 68 = .ok (.ireturn, 1) := by decide +kernel
set_option maxRecDepth 20000 in
theorem ggX11_letter_X11_latest : GoodIn wsX11_letter wsX11_latest := goodIn_r _ [14, 5, 15, 16, 13, 17, 58, 59, 60, 61, 62, 63, 64, 65, 66, 67, 68, 69, 70, 71, 72, 73, 74, 75, 76, 77, 78, 79, 80, 81, 82, 83, 84, 85, 86, 87, 88, 89, 90, 91, 92, 93, 94, 95, 96, 97, 98, 99, 100, 101, 102, 103, 104] (by decide +kernel) (by decide +kernel)
set_option maxRecDepth 20000 in
theorem gX11_letter_X11_latest : GoodIn wsX11_letter (wsV RX11 107 RX11 yX11_latest wsX11_latest) := goodIn_app (goodIn_of _ (by decide +kernel)) ggX11_letter_X11_latest
set_option maxRecDepth 20000 in
theorem ggX11_letter_X11_fails : GoodIn wsX11_letter wsX11_fails := goodIn_r _ [21, 22, 58, 59, 60, 61, 62, 63, 64, 65, 66, 67, 68, 69, 70, 71, 72, 73, 74, 75, 76, 77, 78, 79, 80, 81, 82, 83, 84, 85, 86, 87, 88, 89, 90, 91, 92, 93, 94, 95, 96, 97, 98, 99, 100, 101, 102, 103, 104] (by decide +kernel) (by decide +kernel)
set_option maxRecDepth 20000 in
theorem gX11_letter_X11_fails : GoodIn wsX11_letter (wsV RX11 157 RX11 yX11_fails wsX11_fails) := goodIn_app (goodIn_of _ (by decide +kernel)) ggX11_letter_X11_fails
set_option maxRecDepth 100000 in
set_option maxHeartbeats 4000000 in
theorem ggX11_letter_X11_nextToken : GoodIn wsX11_letter wsX11_nextToken := goodIn_r _ [26, 27, 2, 28, 1, 29, 30, 31, 13, 32, 33, 34, 35, 36, 37, 38, 39, 40, 41, 42, 43, 44, 45, 46, 47, 48, 49, 50, 51, 58, 59, 60, 61, 62, 63, 64, 65, 66, 67, 68, 69, 70, 71, 72, 73, 74, 75, 76, 77, 78, 79, 80, 81, 82, 83, 84, 85, 86, 87, 88, 89, 90, 91, 92, 93, 94, 95, 96, 97, 98, 99, 100, 101, 102, 103, 104] (by with_unfolding_all rfl) (by decide +kernel)
set_option maxRecDepth 20000 in
theorem gX11_letter_X11_nextToken : GoodIn wsX11_letter (wsV RX11 163 RX11 yX11_nextToken wsX11_nextToken) := goodIn_app (goodIn_of _ (by decide +kernel)) ggX11_letter_X11_nextToken
set_option maxRecDepth 20000 in
theorem ggX11_letter_X11_many : GoodIn wsX11_letter wsX11_many := goodIn_r _ [55, 6, 56, 57, 58, 59, 60, 61, 62, 63, 64, 65, 66, 67, 68, 69, 70, 71, 72, 73, 74, 75, 76, 77, 78, 79, 80, 81, 82, 83, 84, 85, 86, 87, 88, 89, 90, 91, 92, 93, 94, 95, 96, 97, 98, 99, 100, 101, 102, 103, 104] (by decide +kernel) (by decide +kernel)
set_option maxRecDepth 20000 in
theorem gX11_letter_X11_many : GoodIn wsX11_letter (wsV RX11 182 RX11 yX11_many wsX11_many) := goodIn_app (goodIn_of _ (by decide +kernel)) ggX11_letter_X11_many
set_option maxRecDepth 20000 in
theorem ggX11_comes_X11_order : GoodIn wsX11_comes wsX11_order := goodIn_r _ [5] (by decide +kernel) (by decide +kernel)
set_option maxRecDepth 20000 in
theorem gX11_comes_X11_order : GoodIn wsX11_comes (va_wsS RX11 172 yX11_order wsX11_order) := goodIn_app (goodIn_of _ (by decide +kernel)) ggX11_comes_X11_order
/-- the rows that this text has told -/
def FreshX (jn : Nat) (m c : Nat → Int32) : Prop := ∀ k : Int, 0 ≤ k → k < 8 → 0 ≤ (m k.toNat).toInt ∧ (m k.toNat).toInt ≤ 24 ∧ CellsX jn c (144 * k) (144 * k + 6 * (m k.toNat).toInt)
theorem cx_app {jn : Nat} {f g src : Nat → Int32} {a lo n : Int} (h : CellsX jn f 0 (6 * a)) (hs : CellsX jn src lo (lo + 6 * n)) (ha : 0 ≤ a) (hn : 0 ≤ n) (h1 : ∀ i : Int, 0 ≤ i → i < 6 * a → g i.toNat = f i.toNat) (h2 : ∀ i : Int, 0 ≤ i → i < 6 * n → g (6 * a + i).toNat = src (lo + i).toNat) : CellsX jn g 0 (6 * (a + n)) := by
  refine ⟨fun i i0 i1 => ?_, fun k k0 k1 => ?_⟩
  · by_cases e : i < 6 * a
    · rw [h1 i i0 e]; exact h.1 i i0 e
    · have := h2 (i - 6 * a) (by omega) (by omega)
      rw [show 6 * a + (i - 6 * a) = i by omega] at this
      rw [this]; exact hs.1 _ (by omega) (by omega)
  · by_cases e : 0 + 2 * k + 1 < 6 * a
    · rw [h1 (0 + 2 * k) (by omega) (by omega), h1 (0 + 2 * k + 1) (by omega) e]; exact h.2 k k0 e
    · have q1 := h2 (0 + 2 * k - 6 * a) (by omega) (by omega)
      have q2 := h2 (0 + 2 * k + 1 - 6 * a) (by omega) (by omega)
      rw [show 6 * a + (0 + 2 * k - 6 * a) = 0 + 2 * k by omega] at q1
      rw [show 6 * a + (0 + 2 * k + 1 - 6 * a) = 0 + 2 * k + 1 by omega] at q2
      rw [q1, q2]
      have q3 := hs.2 (k - 3 * a) (by omega) (by omega)
      rw [show lo + 2 * (k - 3 * a) = lo + (0 + 2 * k - 6 * a) by omega, show lo + (0 + 2 * k - 6 * a) + 1 = lo + (0 + 2 * k + 1 - 6 * a) by omega] at q3
      exact q3
theorem cx_per {jn : Nat} {f g : Nat → Int32} {a o m : Int} (h : CellsX jn f 0 (6 * a)) (ho : 0 ≤ o) (hoa : o < a) (h1 : ∀ i : Int, 0 ≤ i → i < 6 * a → g i.toNat = f i.toNat) (h2 : ∀ i : Int, 0 ≤ i → i < 6 * m → g (6 * a + i).toNat = g (6 * o + i).toNat) : CellsX jn g 0 (6 * (a + m)) := by
  have key : ∀ N : Nat, ∀ i : Int, 0 ≤ i → i < 6 * (a + m) → i.toNat < N → CellX jn (g i.toNat) ∧ ∀ k : Int, 0 ≤ k → i = 2 * k → 2 * k + 1 < 6 * (a + m) → (g (2 * k).toNat).toInt = 0 → (g (2 * k + 1).toNat).toInt = 0 := by
    intro N
    induction N with
    | zero => intro i _ _ h9; omega
    | succ N ih =>
      intro i i0 i1 i2
      by_cases e : i < 6 * a
      · refine ⟨by rw [h1 i i0 e]; exact h.1 i i0 e, fun k k0 ek k1 q => ?_⟩
        have h9 := h.2 k k0 (by omega)
        rw [show (0 : Int) + 2 * k = 2 * k by omega] at h9
        rw [h1 (2 * k) (by omega) (by omega)] at q
        rw [h1 (2 * k + 1) (by omega) (by omega)]
        exact h9 q
      · obtain ⟨p1, p2⟩ := ih (6 * o + (i - 6 * a)) (by omega) (by omega) (by omega)
        have q0 := h2 (i - 6 * a) (by omega) (by omega)
        rw [show 6 * a + (i - 6 * a) = i by omega] at q0
        refine ⟨by rw [q0]; exact p1, fun k k0 ek k1 q => ?_⟩
        have q1 := h2 (i - 6 * a + 1) (by omega) (by omega)
        rw [show 6 * a + (i - 6 * a + 1) = 2 * k + 1 by omega] at q1
        rw [ek] at q0
        rw [q0] at q
        rw [q1]
        have p3 := p2 (3 * o + (k - 3 * a)) (by omega) (by omega) (by omega)
        rw [show 2 * (3 * o + (k - 3 * a)) = 6 * o + (2 * k - 6 * a) by omega, show 6 * o + (2 * k - 6 * a) + 1 = 6 * o + (i - 6 * a + 1) by omega] at p3
        exact p3 q
  refine ⟨fun i i0 i1 => (key (i.toNat + 1) i i0 i1 (by omega)).1, fun k k0 k1 => ?_⟩
  have := (key ((2 * k).toNat + 1) (2 * k) (by omega) (by omega) (by omega)).2 k k0 rfl (by omega)
  rw [show (0 : Int) + 2 * k = 2 * k by omega]
  exact this
set_option maxRecDepth 100000 in
set_option maxHeartbeats 4000000 in
theorem k_comes (l : Launch) (D : va_G) (cI cR cM : ClassId) (sz : Nat) {jn mm : Nat} {q : Nat → Nat} {x0 x1 x2 x3 x4 x5 x6 x7 x8 x9 x10 x11 x12 x13 x14 x15 x16 x17 x18 x19 x20 : Int32} {f0 f1 f2 f3 f4 f5 f6 f7 f8 f9 f10 f11 f12 f13 f14 f15 f16 f17 f18 f19 f20 f21 f22 f23 f24 : Nat → Int32} {a b d : Int32} {hi : Int} (hj : 1 ≤ jn ∧ jn ≤ 3) (ha0 : 0 ≤ a.toInt ∧ 6 * a.toInt + 6 ≤ hi) (hb0 : 0 ≤ b.toInt ∧ b.toInt < (jn : Int)) (hv : CellX jn d) (hC : CellsX jn f7 0 hi) (hh2 : hi ≤ 144) : Met l yX11_comes wsX11_comes ({ frames := 1, cells := 0, slots := 0, locals := 23 }) (P0 D cI cR cM [.ref mm, .int a, .int b, .int d] sz (mX mm q jn cI x0 x1 x2 x3 x4 x5 x6 x7 x8 x9 x10 x11 x12 x13 x14 x15 x16 x17 x18 x19 x20 f0 f1 f2 f3 f4 f5 f6 f7 f8 f9 f10 f11 f12 f13 f14 f15 f16 f17 f18 f19 f20 f21 f22 f23 f24)) (QG (S := Int32 × (Nat → Int32)) (fun u => some (.int u.1)) (fun u => mX mm q jn cI x0 x1 x2 x3 x4 x5 x6 x7 x8 x9 x10 x11 x12 x13 x14 x15 x16 x17 x18 x19 x20 f0 f1 f2 f3 f4 f5 f6 (u.2) f8 f9 f10 f11 f12 f13 f14 f15 f16 f17 f18 f19 f20 f21 f22 f23 f24) (fun u => (u.1.toInt = 0 ∨ u.1.toInt = 1) ∧ (CellsX jn u.2 0 hi)) D (va_A (mX mm q jn cI x0 x1 x2 x3 x4 x5 x6 x7 x8 x9 x10 x11 x12 x13 x14 x15 x16 x17 x18 x19 x20 f0 f1 f2 f3 f4 f5 f6 f7 f8 f9 f10 f11 f12 f13 f14 f15 f16 f17 f18 f19 f20 f21 f22 f23 f24) sz)) 0 0 (va_A (mX mm q jn cI x0 x1 x2 x3 x4 x5 x6 x7 x8 x9 x10 x11 x12 x13 x14 x15 x16 x17 x18 x19 x20 f0 f1 f2 f3 f4 f5 f6 f7 f8 f9 f10 f11 f12 f13 f14 f15 f16 f17 f18 f19 f20 f21 f22 f23 f24) sz) := by
  refine go (cc := cX11_comes) (maxL := 5) (ret := (some .boolean)) (by decide) rfl (Nat.le_of_ble_eq_true rfl) ?_
  intro p e s m below meth c ls args Q hQ hsz hx hb hr hml hts hown hlocks hnm hP hK hD hl
  subst hsz
  have hD := hD.self (sz := s.heap.size)
  generalize hAe : va_A (mX mm q jn cI x0 x1 x2 x3 x4 x5 x6 x7 x8 x9 x10 x11 x12 x13 x14 x15 x16 x17 x18 x19 x20 f0 f1 f2 f3 f4 f5 f6 f7 f8 f9 f10 f11 f12 f13 f14 f15 f16 f17 f18 f19 f20 f21 f22 f23 f24) s.heap.size = A at hD hQ
  have hA : ∀ q, s.heap.size ≤ q → A q := fun q h => by rw [← hAe]; exact Or.inr h
  have hS : va_S A s.heap s.heap [] := va_S.rf
  have hl : lv_has ls 5 [(0, .ref mm), (1, .int a), (2, .int b), (3, .int d)] := hl
  refine lv_bipush (v := 6) hx hb dX11_comes_0 (by decide) ?_
  refine lv_iload_n hx hb dX11_comes_2 rfl (lv_at hl 1 rfl) ?_
  refine a_imul (u := 6) (v := a.toInt) hx hb dX11_comes_3 (by decide) (rfl) (by omega) (fun z_1 e_1 => ?_)
  refine lv_iconst (v := 2) hx hb dX11_comes_4 (by decide) ?_
  refine lv_iload_n hx hb dX11_comes_5 rfl (lv_at hl 2 rfl) ?_
  refine a_imul (u := 2) (v := b.toInt) hx hb dX11_comes_6 (by decide) (rfl) (by omega) (fun z_2 e_2 => ?_)
  refine a_iadd (u := (6 * a.toInt)) (v := (2 * b.toInt)) hx hb dX11_comes_7 (e_1) (e_2) (by omega) (fun z_3 e_3 => ?_)
  refine lv_istore (lv' := [(4, .int z_3), (0, .ref mm), (1, .int a), (2, .int b), (3, .int d)]) hx hb dX11_comes_8 hl (by decide) rfl (fun ls hl => ?_)
  refine lv_aload_n hx hb dX11_comes_10 rfl (lv_at hl 1 rfl) ?_
  refine va_get (D := D) (ci := 11) (v := .ref (q 7)) (C := RX11) (T := TX11) (N := 47) hx hb hts (by decide +kernel) hown hK.1 hP 0 rfl rfl 18 (by decide) (hts (.fieldLink RX11 39 "JugglingHallModel" "spare" "[I") (by decide +kernel)) (fun _ h9 => h9) rfl dX11_comes_11 ?_
  refine lv_iload hx hb dX11_comes_14 (lv_at hl 0 rfl) ?_
  refine a_iald (f := f7) (u := ((6 * a.toInt) + (2 * b.toInt))) hx hb hK.1 hP 8 0 rfl rfl dX11_comes_16 (e_3) (by omega) (fun z_4 q_4 e_4 => ?_)
  refine a_if_ne (u := z_4.toInt) (tgt := 31) hx hb dX11_comes_17 (by decide) (rfl) (fun c_5 => ?_) (fun c_5 => ?_)
  · refine lv_aload_n hx hb dX11_comes_31 rfl (lv_at hl 1 rfl) ?_
    refine va_get (D := D) (ci := 11) (v := .ref (q 7)) (C := RX11) (T := TX11) (N := 47) hx hb hts (by decide +kernel) hown hK.1 hP 0 rfl rfl 18 (by decide) (hts (.fieldLink RX11 39 "JugglingHallModel" "spare" "[I") (by decide +kernel)) (fun _ h9 => h9) rfl dX11_comes_32 ?_
    refine lv_iload hx hb dX11_comes_35 (lv_at hl 0 rfl) ?_
    refine lv_iconst (v := 1) hx hb dX11_comes_37 (by decide) ?_
    refine a_iadd (u := ((6 * a.toInt) + (2 * b.toInt))) (v := 1) hx hb dX11_comes_38 (e_3) (by decide) (by omega) (fun z_6 e_6 => ?_)
    refine a_iald (f := f7) (u := (((6 * a.toInt) + (2 * b.toInt)) + 1)) hx hb hK.1 hP 8 0 rfl rfl dX11_comes_39 (e_6) (by omega) (fun z_7 q_7 e_7 => ?_)
    refine a_if_ne (u := z_7.toInt) (tgt := 56) hx hb dX11_comes_40 (by decide) (rfl) (fun c_8 => ?_) (fun c_8 => ?_)
    · refine lv_iconst (v := 0) hx hb dX11_comes_56 (by decide) ?_
      have hz_9 : (0 : Int32).toInt = 0 := by decide
      exact g_zret ((0 : Int32), f7) hx hb hr hlocks hS (by first | exact Or.inl rfl | exact Or.inr rfl) rfl (⟨show (0 : Int32).toInt = 0 ∨ (0 : Int32).toInt = 1 from (by first | assumption | omega), show CellsX jn f7 0 hi from (hC)⟩) hP hD hQ (Nat.le_of_ble_eq_true rfl) (Nat.le_of_ble_eq_true rfl) dX11_comes_57
    · refine lv_aload_n hx hb dX11_comes_43 rfl (lv_at hl 1 rfl) ?_
      refine va_get (D := D) (ci := 11) (v := .ref (q 7)) (C := RX11) (T := TX11) (N := 47) hx hb hts (by decide +kernel) hown hK.1 hP 0 rfl rfl 18 (by decide) (hts (.fieldLink RX11 39 "JugglingHallModel" "spare" "[I") (by decide +kernel)) (fun _ h9 => h9) rfl dX11_comes_44 ?_
      refine lv_iload hx hb dX11_comes_47 (lv_at hl 0 rfl) ?_
      refine lv_iconst (v := 1) hx hb dX11_comes_49 (by decide) ?_
      refine a_iadd (u := ((6 * a.toInt) + (2 * b.toInt))) (v := 1) hx hb dX11_comes_50 (e_3) (by decide) (by omega) (fun z_10 e_10 => ?_)
      refine lv_iload_n hx hb dX11_comes_51 rfl (lv_at hl 4 rfl) ?_
      refine ma_7 (u := (((6 * a.toInt) + (2 * b.toInt)) + 1)) hx hb hK hP hD hS dX11_comes_52 (e_10) (by omega) (fun g_11 H locs eg_11 hP hD hS => ?_)
      have hX : (6 * a.toInt + 2 * b.toInt) + 1 = (((6 * a.toInt) + (2 * b.toInt)) + 1) := by omega
      have hB0 : g_11 (6 * a.toInt + 2 * b.toInt).toNat = f7 (6 * a.toInt + 2 * b.toInt).toNat := by rw [eg_11, un_i (by omega) (by omega) (by omega)]
      have hB1 : g_11 ((6 * a.toInt + 2 * b.toInt) + 1).toNat = d := by rw [eg_11, ← hX, pk_us]
      have hBu : ∀ i : Int, 0 ≤ i → i ≠ (6 * a.toInt + 2 * b.toInt) → i ≠ (6 * a.toInt + 2 * b.toInt) + 1 → g_11 i.toNat = f7 i.toNat := fun i i0 i1 i2 => by rw [eg_11, un_i i0 (by omega) (by omega)]
      have hc0 : CellX jn (g_11 (6 * a.toInt + 2 * b.toInt).toNat) := by rw [hB0]; exact hC.1 _ (by omega) (by omega)
      have hc1 : CellX jn (g_11 ((6 * a.toInt + 2 * b.toInt) + 1).toNat) := by rw [hB1]; exact hv
      refine lv_goto (tgt := 58) hx hb dX11_comes_53 (by decide) ?_
      refine lv_aload_n hx hb dX11_comes_58 rfl (lv_at hl 1 rfl) ?_
      refine va_get (D := D) (ci := 11) (v := .ref (q 7)) (C := RX11) (T := TX11) (N := 47) hx hb hts (by decide +kernel) hown hK.1 hP 0 rfl rfl 18 (by decide) (hts (.fieldLink RX11 39 "JugglingHallModel" "spare" "[I") (by decide +kernel)) (fun _ h9 => h9) rfl dX11_comes_59 ?_
      refine lv_iload hx hb dX11_comes_62 (lv_at hl 0 rfl) ?_
      have hxe0 : z_3.toInt = (6 * a.toInt + 2 * b.toInt) := by omega
      have hPc := hP.sub (ws' := [(q 7, .inl (cI, 144, .inl g_11))]) [8] (by with_unfolding_all rfl)
      have hDc := hD.sub (ws' := [(q 7, .inl (cI, 144, .inl g_11))]) [8] (by decide) (by with_unfolding_all rfl)
      refine call_g (wr := [(mm, .inr (11, mXF q jn x0 x1 x2 x3 x4 x5 x6 x7 x8 x9 x10 x11 x12 x13 x14 x15 x16 x17 x18 x19 x20)), (q 0, .inl (cI, 73200, .inl f0)), (q 1, .inl (cI, 488, .inl f1)), (q 2, .inl (cI, 300, .inl f2)), (q 3, .inl (cI, 2400, .inl f3)), (q 4, .inl (cI, 6, .inl f4)), (q 5, .inl (cI, 6, .inl f5)), (q 6, .inl (cI, 7, .inl f6)), (q 8, .inl (cI, 8, .inl f8)), (q 9, .inl (cI, 1152, .inl f9)), (q 10, .inl (cI, 8, .inl f10)), (q 11, .inl (cI, 8, .inl f11)), (q 12, .inl (cI, 72, .inl f12)), (q 13, .inl (cI, 144, .inl f13)), (q 14, .inl (cI, 144, .inl f14)), (q 15, .inl (cI, 144, .inl f15)), (q 16, .inl (cI, 6, .inl f16)), (q 17, .inl (cI, 512, .inl f17)), (q 18, .inl (cI, 512, .inl f18)), (q 19, .inl (cI, 11, .inl f19)), (q 20, .inl (cI, 11, .inl f20)), (q 21, .inl (cI, 300, .inl f21)), (q 22, .inl (cI, 300, .inl f22)), (q 23, .inl (cI, 8, .inl f23)), (q 24, .inl (cI, 8, .inl f24))]) (va_runS (As := [.ref (q 7), .int z_3]) (rest := []) ⟨hx, hb, hml, hown, hts⟩ (k_order l D cI cR cM _  (by first | assumption | omega) (by rw [hxe0]; exact ⟨hc0.1, hc0.2.2.2⟩) (by rw [hxe0]; exact ⟨hc1.1, hc1.2.2.2⟩) (by decide)) (va_cwS 2 hts gX11_comes_X11_order rfl rfl rfl (by decide +kernel) ⟨Nat.le_of_ble_eq_true rfl, Nat.le_of_ble_eq_true rfl⟩) (pre_S hK hPc hDc) rfl rfl hl.1 rfl (lv_room (Nat.le_of_ble_eq_true rfl)) dX11_comes_64 ⟨Nat.le_of_ble_eq_true rfl, Nat.le_of_ble_eq_true rfl⟩) hP hD hS hA [8] [0, 1, 2, 3, 4, 5, 6, 7, 9, 10, 11, 12, 13, 14, 15, 16, 17, 18, 19, 20, 21, 22, 23, 24, 25] (by with_unfolding_all rfl) (by with_unfolding_all rfl) (by decide) (by decide) (fun g_12 H locs hw hP hD hS => ?_)
      have hP : va_P D vwCl (mX mm q jn cI x0 x1 x2 x3 x4 x5 x6 x7 x8 x9 x10 x11 x12 x13 x14 x15 x16 x17 x18 x19 x20 f0 f1 f2 f3 f4 f5 f6 g_12 f8 f9 f10 f11 f12 f13 f14 f15 f16 f17 f18 f19 f20 f21 f22 f23 f24) H := hP.sub [0, 1, 2, 3, 4, 5, 6, 7, 25, 8, 9, 10, 11, 12, 13, 14, 15, 16, 17, 18, 19, 20, 21, 22, 23, 24] (by with_unfolding_all rfl)
      have hD : va_D A (mX mm q jn cI x0 x1 x2 x3 x4 x5 x6 x7 x8 x9 x10 x11 x12 x13 x14 x15 x16 x17 x18 x19 x20 f0 f1 f2 f3 f4 f5 f6 g_12 f8 f9 f10 f11 f12 f13 f14 f15 f16 f17 f18 f19 f20 f21 f22 f23 f24) := hD.sub [0, 1, 2, 3, 4, 5, 6, 7, 25, 8, 9, 10, 11, 12, 13, 14, 15, 16, 17, 18, 19, 20, 21, 22, 23, 24] (by decide) (by with_unfolding_all rfl)
      obtain ⟨hu_12, hs_12, hz_12⟩ : (∀ i : Int, 0 ≤ i → i ≠ z_3.toInt → i ≠ z_3.toInt + 1 → g_12 i.toNat = g_11 i.toNat) ∧ ((g_12 z_3.toInt.toNat = g_11 z_3.toInt.toNat ∧ g_12 (z_3.toInt + 1).toNat = g_11 (z_3.toInt + 1).toNat) ∨ (g_12 z_3.toInt.toNat = g_11 (z_3.toInt + 1).toNat ∧ g_12 (z_3.toInt + 1).toNat = g_11 z_3.toInt.toNat)) ∧ ((g_12 z_3.toInt.toNat).toInt = 0 → (g_12 (z_3.toInt + 1).toNat).toInt = 0) := hw
      rw [hxe0] at hu_12 hs_12 hz_12
      have hp1 : CellX jn (g_12 (6 * a.toInt + 2 * b.toInt).toNat) := by
        rcases hs_12 with q | q
        · rw [q.1]; exact hc0
        · rw [q.1]; exact hc1
      have hp2 : CellX jn (g_12 ((6 * a.toInt + 2 * b.toInt) + 1).toNat) := by
        rcases hs_12 with q | q
        · rw [q.2]; exact hc1
        · rw [q.2]; exact hc0
      have hCC : CellsX jn g_12 0 hi := cx_set2 (k := 3 * a.toInt + b.toInt) hC (by omega) (by omega) (fun i i0 i1 i2 => by rw [hu_12 i i0 i1 i2]; exact hBu i i0 i1 i2) hp1 hp2 hz_12
      refine lv_iconst (v := 1) hx hb dX11_comes_67 (by decide) ?_
      have hz_13 : (1 : Int32).toInt = 1 := by decide
      exact g_zret ((1 : Int32), g_12) hx hb hr hlocks hS (by first | exact Or.inl rfl | exact Or.inr rfl) rfl (⟨show (1 : Int32).toInt = 0 ∨ (1 : Int32).toInt = 1 from (by first | assumption | omega), show CellsX jn g_12 0 hi from (hCC)⟩) hP hD hQ (Nat.le_of_ble_eq_true rfl) (Nat.le_of_ble_eq_true rfl) dX11_comes_68
  · refine lv_aload_n hx hb dX11_comes_20 rfl (lv_at hl 1 rfl) ?_
    refine va_get (D := D) (ci := 11) (v := .ref (q 7)) (C := RX11) (T := TX11) (N := 47) hx hb hts (by decide +kernel) hown hK.1 hP 0 rfl rfl 18 (by decide) (hts (.fieldLink RX11 39 "JugglingHallModel" "spare" "[I") (by decide +kernel)) (fun _ h9 => h9) rfl dX11_comes_21 ?_
    refine lv_iload hx hb dX11_comes_24 (lv_at hl 0 rfl) ?_
    refine lv_iload_n hx hb dX11_comes_26 rfl (lv_at hl 4 rfl) ?_
    refine ma_7 (u := ((6 * a.toInt) + (2 * b.toInt))) hx hb hK hP hD hS dX11_comes_27 (e_3) (by omega) (fun g_14 H locs eg_14 hP hD hS => ?_)
    have hX : (6 * a.toInt + 2 * b.toInt) = ((6 * a.toInt) + (2 * b.toInt)) := by omega
    have hz9 : (f7 (6 * a.toInt + 2 * b.toInt).toNat).toInt = 0 := by rw [hX]; omega
    have hB0 : g_14 (6 * a.toInt + 2 * b.toInt).toNat = d := by rw [eg_14, ← hX, pk_us]
    have hB1 : g_14 ((6 * a.toInt + 2 * b.toInt) + 1).toNat = f7 ((6 * a.toInt + 2 * b.toInt) + 1).toNat := by rw [eg_14, un_i (by omega) (by omega) (by omega)]
    have hBu : ∀ i : Int, 0 ≤ i → i ≠ (6 * a.toInt + 2 * b.toInt) → i ≠ (6 * a.toInt + 2 * b.toInt) + 1 → g_14 i.toNat = f7 i.toNat := fun i i0 i1 i2 => by rw [eg_14, un_i i0 (by omega) (by omega)]
    have hc0 : CellX jn (g_14 (6 * a.toInt + 2 * b.toInt).toNat) := by rw [hB0]; exact hv
    have hc1 : CellX jn (g_14 ((6 * a.toInt + 2 * b.toInt) + 1).toNat) := by rw [hB1]; exact hC.1 _ (by omega) (by omega)
    refine lv_goto (tgt := 58) hx hb dX11_comes_28 (by decide) ?_
    refine lv_aload_n hx hb dX11_comes_58 rfl (lv_at hl 1 rfl) ?_
    refine va_get (D := D) (ci := 11) (v := .ref (q 7)) (C := RX11) (T := TX11) (N := 47) hx hb hts (by decide +kernel) hown hK.1 hP 0 rfl rfl 18 (by decide) (hts (.fieldLink RX11 39 "JugglingHallModel" "spare" "[I") (by decide +kernel)) (fun _ h9 => h9) rfl dX11_comes_59 ?_
    refine lv_iload hx hb dX11_comes_62 (lv_at hl 0 rfl) ?_
    have hxe0 : z_3.toInt = (6 * a.toInt + 2 * b.toInt) := by omega
    have hPc := hP.sub (ws' := [(q 7, .inl (cI, 144, .inl g_14))]) [8] (by with_unfolding_all rfl)
    have hDc := hD.sub (ws' := [(q 7, .inl (cI, 144, .inl g_14))]) [8] (by decide) (by with_unfolding_all rfl)
    refine call_g (wr := [(mm, .inr (11, mXF q jn x0 x1 x2 x3 x4 x5 x6 x7 x8 x9 x10 x11 x12 x13 x14 x15 x16 x17 x18 x19 x20)), (q 0, .inl (cI, 73200, .inl f0)), (q 1, .inl (cI, 488, .inl f1)), (q 2, .inl (cI, 300, .inl f2)), (q 3, .inl (cI, 2400, .inl f3)), (q 4, .inl (cI, 6, .inl f4)), (q 5, .inl (cI, 6, .inl f5)), (q 6, .inl (cI, 7, .inl f6)), (q 8, .inl (cI, 8, .inl f8)), (q 9, .inl (cI, 1152, .inl f9)), (q 10, .inl (cI, 8, .inl f10)), (q 11, .inl (cI, 8, .inl f11)), (q 12, .inl (cI, 72, .inl f12)), (q 13, .inl (cI, 144, .inl f13)), (q 14, .inl (cI, 144, .inl f14)), (q 15, .inl (cI, 144, .inl f15)), (q 16, .inl (cI, 6, .inl f16)), (q 17, .inl (cI, 512, .inl f17)), (q 18, .inl (cI, 512, .inl f18)), (q 19, .inl (cI, 11, .inl f19)), (q 20, .inl (cI, 11, .inl f20)), (q 21, .inl (cI, 300, .inl f21)), (q 22, .inl (cI, 300, .inl f22)), (q 23, .inl (cI, 8, .inl f23)), (q 24, .inl (cI, 8, .inl f24))]) (va_runS (As := [.ref (q 7), .int z_3]) (rest := []) ⟨hx, hb, hml, hown, hts⟩ (k_order l D cI cR cM _  (by first | assumption | omega) (by rw [hxe0]; exact ⟨hc0.1, hc0.2.2.2⟩) (by rw [hxe0]; exact ⟨hc1.1, hc1.2.2.2⟩) (by decide)) (va_cwS 2 hts gX11_comes_X11_order rfl rfl rfl (by decide +kernel) ⟨Nat.le_of_ble_eq_true rfl, Nat.le_of_ble_eq_true rfl⟩) (pre_S hK hPc hDc) rfl rfl hl.1 rfl (lv_room (Nat.le_of_ble_eq_true rfl)) dX11_comes_64 ⟨Nat.le_of_ble_eq_true rfl, Nat.le_of_ble_eq_true rfl⟩) hP hD hS hA [8] [0, 1, 2, 3, 4, 5, 6, 7, 9, 10, 11, 12, 13, 14, 15, 16, 17, 18, 19, 20, 21, 22, 23, 24, 25] (by with_unfolding_all rfl) (by with_unfolding_all rfl) (by decide) (by decide) (fun g_15 H locs hw hP hD hS => ?_)
    have hP : va_P D vwCl (mX mm q jn cI x0 x1 x2 x3 x4 x5 x6 x7 x8 x9 x10 x11 x12 x13 x14 x15 x16 x17 x18 x19 x20 f0 f1 f2 f3 f4 f5 f6 g_15 f8 f9 f10 f11 f12 f13 f14 f15 f16 f17 f18 f19 f20 f21 f22 f23 f24) H := hP.sub [0, 1, 2, 3, 4, 5, 6, 7, 25, 8, 9, 10, 11, 12, 13, 14, 15, 16, 17, 18, 19, 20, 21, 22, 23, 24] (by with_unfolding_all rfl)
    have hD : va_D A (mX mm q jn cI x0 x1 x2 x3 x4 x5 x6 x7 x8 x9 x10 x11 x12 x13 x14 x15 x16 x17 x18 x19 x20 f0 f1 f2 f3 f4 f5 f6 g_15 f8 f9 f10 f11 f12 f13 f14 f15 f16 f17 f18 f19 f20 f21 f22 f23 f24) := hD.sub [0, 1, 2, 3, 4, 5, 6, 7, 25, 8, 9, 10, 11, 12, 13, 14, 15, 16, 17, 18, 19, 20, 21, 22, 23, 24] (by decide) (by with_unfolding_all rfl)
    obtain ⟨hu_15, hs_15, hz_15⟩ : (∀ i : Int, 0 ≤ i → i ≠ z_3.toInt → i ≠ z_3.toInt + 1 → g_15 i.toNat = g_14 i.toNat) ∧ ((g_15 z_3.toInt.toNat = g_14 z_3.toInt.toNat ∧ g_15 (z_3.toInt + 1).toNat = g_14 (z_3.toInt + 1).toNat) ∨ (g_15 z_3.toInt.toNat = g_14 (z_3.toInt + 1).toNat ∧ g_15 (z_3.toInt + 1).toNat = g_14 z_3.toInt.toNat)) ∧ ((g_15 z_3.toInt.toNat).toInt = 0 → (g_15 (z_3.toInt + 1).toNat).toInt = 0) := hw
    rw [hxe0] at hu_15 hs_15 hz_15
    have hp1 : CellX jn (g_15 (6 * a.toInt + 2 * b.toInt).toNat) := by
      rcases hs_15 with q | q
      · rw [q.1]; exact hc0
      · rw [q.1]; exact hc1
    have hp2 : CellX jn (g_15 ((6 * a.toInt + 2 * b.toInt) + 1).toNat) := by
      rcases hs_15 with q | q
      · rw [q.2]; exact hc1
      · rw [q.2]; exact hc0
    have hCC : CellsX jn g_15 0 hi := cx_set2 (k := 3 * a.toInt + b.toInt) hC (by omega) (by omega) (fun i i0 i1 i2 => by rw [hu_15 i i0 i1 i2]; exact hBu i i0 i1 i2) hp1 hp2 hz_15
    refine lv_iconst (v := 1) hx hb dX11_comes_67 (by decide) ?_
    have hz_16 : (1 : Int32).toInt = 1 := by decide
    exact g_zret ((1 : Int32), g_15) hx hb hr hlocks hS (by first | exact Or.inl rfl | exact Or.inr rfl) rfl (⟨show (1 : Int32).toInt = 0 ∨ (1 : Int32).toInt = 1 from (by first | assumption | omega), show CellsX jn g_15 0 hi from (hCC)⟩) hP hD hQ (Nat.le_of_ble_eq_true rfl) (Nat.le_of_ble_eq_true rfl) dX11_comes_68
set_option maxRecDepth 100000 in
set_option maxHeartbeats 4000000 in
theorem k_letter (l : Launch) (D : va_G) (cI cR cM : ClassId) (sz : Nat) {jn mm : Nat} {q : Nat → Nat} {x0 x1 x2 x3 x4 x5 x6 x7 x8 x9 x10 x11 x12 x13 x14 x15 x16 x17 x18 x19 x20 : Int32} {f0 f1 f2 f3 f4 f5 f6 f7 f8 f9 f10 f11 f12 f13 f14 f15 f16 f17 f18 f19 f20 f21 f22 f23 f24 : Nat → Int32}  (ht : 0 ≤ x2.toInt ∧ x2.toInt ≤ 300) (h5 : 0 ≤ x5.toInt ∧ x5.toInt ≤ x2.toInt) (hT : TokOK x7 x8) (hj : 1 ≤ jn ∧ jn ≤ 3) (h11 : 0 ≤ x11.toInt ∧ x11.toInt ≤ 5) (hs : 0 ≤ (f6 x11.toInt.toNat).toInt ∧ (f6 x11.toInt.toNat).toInt ≤ x10.toInt) (h10 : 0 ≤ x10.toInt ∧ x10.toInt ≤ 150) (hC : CellsX jn f3 0 (6 * x10.toInt)) (h0 : 0 ≤ x0.toInt ∧ x0.toInt ≤ 60) (hv : 0 ≤ x8.toInt ∧ x8.toInt ≤ 7) (hR : RowsX jn f0) (hFr : FreshX jn f8 f9) : Met l yX11_letter wsX11_letter ({ frames := 4, cells := 0, slots := 0, locals := 88 }) (P0 D cI cR cM [.ref mm] sz (mX mm q jn cI x0 x1 x2 x3 x4 x5 x6 x7 x8 x9 x10 x11 x12 x13 x14 x15 x16 x17 x18 x19 x20 f0 f1 f2 f3 f4 f5 f6 f7 f8 f9 f10 f11 f12 f13 f14 f15 f16 f17 f18 f19 f20 f21 f22 f23 f24)) (QG (S := Int32 × Int32 × Int32 × Int32 × Int32 × Int32 × Int32 × Int32 × (Nat → Int32)) (fun u => some (.int u.1)) (fun u => mX mm q jn cI x0 x1 x2 x3 x4 (u.2.1) (u.2.2.1) (u.2.2.2.1) (u.2.2.2.2.1) (u.2.2.2.2.2.1) (u.2.2.2.2.2.2.1) x11 (u.2.2.2.2.2.2.2.1) x13 x14 x15 x16 x17 x18 x19 x20 f0 f1 f2 (u.2.2.2.2.2.2.2.2) f4 f5 f6 f7 f8 f9 f10 f11 f12 f13 f14 f15 f16 f17 f18 f19 f20 f21 f22 f23 f24) (fun u => (x5.toInt ≤ u.2.1.toInt ∧ u.2.1.toInt ≤ x2.toInt) ∧ (TokOK u.2.2.2.1 u.2.2.2.2.1) ∧ (u.1.toInt = 0 → x5.toInt < u.2.1.toInt ∨ u.2.2.2.1.toInt = 0) ∧ (u.1.toInt = 0 → x10.toInt ≤ u.2.2.2.2.2.2.1.toInt ∧ u.2.2.2.2.2.2.2.1.toInt = x10.toInt) ∧ (u.1.toInt = 0 → u.2.2.2.2.2.2.1.toInt - (f6 x11.toInt.toNat).toInt ≤ 24) ∧ (u.1.toInt = 0 → CellsX jn u.2.2.2.2.2.2.2.2 0 (6 * u.2.2.2.2.2.2.1.toInt))) D (va_A (mX mm q jn cI x0 x1 x2 x3 x4 x5 x6 x7 x8 x9 x10 x11 x12 x13 x14 x15 x16 x17 x18 x19 x20 f0 f1 f2 f3 f4 f5 f6 f7 f8 f9 f10 f11 f12 f13 f14 f15 f16 f17 f18 f19 f20 f21 f22 f23 f24) sz)) 0 0 (va_A (mX mm q jn cI x0 x1 x2 x3 x4 x5 x6 x7 x8 x9 x10 x11 x12 x13 x14 x15 x16 x17 x18 x19 x20 f0 f1 f2 f3 f4 f5 f6 f7 f8 f9 f10 f11 f12 f13 f14 f15 f16 f17 f18 f19 f20 f21 f22 f23 f24) sz) := by
  refine go (cc := cX11_letter) (maxL := 6) (ret := (some .int)) (by decide) rfl (Nat.le_of_ble_eq_true rfl) ?_
  intro p e s m below meth c ls args Q hQ hsz hx hb hr hml hts hown hlocks hnm hP hK hD hl
  subst hsz
  have hD := hD.self (sz := s.heap.size)
  generalize hAe : va_A (mX mm q jn cI x0 x1 x2 x3 x4 x5 x6 x7 x8 x9 x10 x11 x12 x13 x14 x15 x16 x17 x18 x19 x20 f0 f1 f2 f3 f4 f5 f6 f7 f8 f9 f10 f11 f12 f13 f14 f15 f16 f17 f18 f19 f20 f21 f22 f23 f24) s.heap.size = A at hD hQ
  have hA : ∀ q, s.heap.size ≤ q → A q := fun q h => by rw [← hAe]; exact Or.inr h
  have hS : va_S A s.heap s.heap [] := va_S.rf
  have hl : lv_has ls 6 [(0, .ref mm)] := hl
  refine lv_aload_n hx hb dX11_letter_0 rfl (lv_at hl 0 rfl) ?_
  refine va_get (D := D) (ci := 11) (v := .int x8) (C := RX11) (T := TX11) (N := 47) hx hb hts (by decide +kernel) hown hK.1 hP 0 rfl rfl 12 (by decide) (hts (.fieldLink RX11 138 "JugglingHallModel" "value" "I") (by decide +kernel)) (fun _ h9 => h9) rfl dX11_letter_1 ?_
  refine lv_istore_n (lv' := [(1, .int x8), (0, .ref mm)]) hx hb dX11_letter_4 rfl hl (by decide) rfl (fun ls hl => ?_)
  refine lv_aload_n hx hb dX11_letter_5 rfl (lv_at hl 1 rfl) ?_
  refine va_get (D := D) (ci := 11) (v := .int x6) (C := RX11) (T := TX11) (N := 47) hx hb hts (by decide +kernel) hown hK.1 hP 0 rfl rfl 10 (by decide) (hts (.fieldLink RX11 120 "JugglingHallModel" "place" "I") (by decide +kernel)) (fun _ h9 => h9) rfl dX11_letter_6 ?_
  refine lv_istore_n (lv' := [(2, .int x6), (1, .int x8), (0, .ref mm)]) hx hb dX11_letter_9 rfl hl (by decide) rfl (fun ls hl => ?_)
  refine lv_aload_n hx hb dX11_letter_10 rfl (lv_at hl 2 rfl) ?_
  refine lv_iload_n hx hb dX11_letter_11 rfl (lv_at hl 1 rfl) ?_
  refine lv_aload_n hx hb dX11_letter_12 rfl (lv_at hl 2 rfl) ?_
  refine va_get (D := D) (ci := 11) (v := .int x0) (C := RX11) (T := TX11) (N := 47) hx hb hts (by decide +kernel) hown hK.1 hP 0 rfl rfl 3 (by decide) (hts (.fieldLink RX11 185 "JugglingHallModel" "time" "I") (by decide +kernel)) (fun _ h9 => h9) rfl dX11_letter_13 ?_
  refine roP (va_runV (As := [.int x8, .int x0]) (rest := []) ⟨hx, hb, hml, hown, hts⟩ (k_latest l D cI cR cM _  (by first | assumption | omega) (by first | assumption | omega) (by first | assumption | omega)) (cwV 2 hts gX11_letter_X11_latest rfl rfl rfl (by decide +kernel) ⟨Nat.le_of_ble_eq_true rfl, Nat.le_of_ble_eq_true rfl⟩) (pre_V hK hP hD 0 11 rfl rfl) rfl rfl hl.1 rfl (lv_room (Nat.le_of_ble_eq_true rfl)) dX11_letter_16 ⟨Nat.le_of_ble_eq_true rfl, Nat.le_of_ble_eq_true rfl⟩) hS hA hP (fun r_1 H locs hw hP hS => ?_)
  have h_1 : (r_1.toInt = -1 ∨ IsRow jn f0 r_1.toInt) := hw
  refine lv_istore_n (lv' := [(3, .int r_1), (2, .int x6), (1, .int x8), (0, .ref mm)]) hx hb dX11_letter_19 rfl hl (by decide) rfl (fun ls hl => ?_)
  obtain ⟨hfr1, hfr2, hfr3⟩ := hFr x8.toInt (by omega) (by omega)
  refine lv_aload_n hx hb dX11_letter_20 rfl (lv_at hl 3 rfl) ?_
  refine va_get (D := D) (ci := 11) (v := .ref (q 8)) (C := RX11) (T := TX11) (N := 47) hx hb hts (by decide +kernel) hown hK.1 hP 0 rfl rfl 22 (by decide) (hts (.fieldLink RX11 42 "JugglingHallModel" "freshMany" "[I") (by decide +kernel)) (fun _ h9 => h9) rfl dX11_letter_21 ?_
  refine lv_iload_n hx hb dX11_letter_24 rfl (lv_at hl 2 rfl) ?_
  refine a_iald (f := f8) (u := x8.toInt) hx hb hK.1 hP 9 0 rfl rfl dX11_letter_25 (rfl) (by omega) (fun z_2 q_2 e_2 => ?_)
  refine a_if_le (u := z_2.toInt) (tgt := 38) hx hb dX11_letter_26 (by decide) (rfl) (fun c_3 => ?_) (fun c_3 => ?_)
  · refine lv_iload_n hx hb dX11_letter_38 rfl (lv_at hl 0 rfl) ?_
    refine a_if_ge (u := r_1.toInt) (tgt := 46) hx hb dX11_letter_39 (by decide) (rfl) (fun c_4 => ?_) (fun c_4 => ?_)
    · have hrow : IsRow jn f0 r_1.toInt := h_1.resolve_left (by omega)
      have hrow1 := hrow.1
      have hrow2 := hrow.2.1
      have hrow3 := hrow.2.2.1
      have hrow4 := hrow.2.2.2.1
      have hrow5 := hrow.2.2.2.2.1
      have hrow6 := hrow.2.2.2.2.2
      refine lv_aload_n hx hb dX11_letter_46 rfl (lv_at hl 3 rfl) ?_
      refine va_get (D := D) (ci := 11) (v := .ref (q 0)) (C := RX11) (T := TX11) (N := 47) hx hb hts (by decide +kernel) hown hK.1 hP 0 rfl rfl 1 (by decide) (hts (.fieldLink RX11 8 "JugglingHallModel" "rows" "[I") (by decide +kernel)) (fun _ h9 => h9) rfl dX11_letter_47 ?_
      refine lv_iload_n hx hb dX11_letter_50 rfl (lv_at hl 0 rfl) ?_
      refine a_iald (f := f0) (u := r_1.toInt) hx hb hK.1 hP 1 0 rfl rfl dX11_letter_51 (rfl) (by omega) (fun z_5 q_5 e_5 => ?_)
      refine lv_istore (lv' := [(4, .int z_5), (3, .int r_1), (2, .int x6), (1, .int x8), (0, .ref mm)]) hx hb dX11_letter_52 hl (by decide) rfl (fun ls hl => ?_)
      refine lv_iload hx hb dX11_letter_54 (lv_at hl 0 rfl) ?_
      refine a_if_ne (u := z_5.toInt) (tgt := 67) hx hb dX11_letter_56 (by decide) (rfl) (fun c_6 => ?_) (fun c_6 => ?_)
      · refine lv_aload_n hx hb dX11_letter_67 rfl (lv_at hl 4 rfl) ?_
        refine call_g (wr := []) (va_runV (As := []) (rest := []) ⟨hx, hb, hml, hown, hts⟩ (k_next l D cI cR cM _  (by first | assumption | omega) (by first | assumption | omega)) (cwV 0 hts gX11_letter_X11_nextToken rfl rfl rfl (by decide +kernel) ⟨Nat.le_of_ble_eq_true rfl, Nat.le_of_ble_eq_true rfl⟩) (pre_V hK hP hD 0 11 rfl rfl) rfl rfl hl.1 rfl (lv_room (Nat.le_of_ble_eq_true rfl)) dX11_letter_68 ⟨Nat.le_of_ble_eq_true rfl, Nat.le_of_ble_eq_true rfl⟩) hP hD hS hA [0, 1, 2, 3, 4, 5, 6, 7, 8, 9, 10, 11, 12, 13, 14, 15, 16, 17, 18, 19, 20, 21, 22, 23, 24, 25] [] (by with_unfolding_all rfl) rfl (by decide) (by decide) (fun u_7 H locs hw hP hD hS => ?_)
        obtain ⟨y5_7, y6_7, y7_7, y8_7⟩ := u_7
        have hP : va_P D vwCl (mX mm q jn cI x0 x1 x2 x3 x4 y5_7 y6_7 y7_7 y8_7 x9 x10 x11 x12 x13 x14 x15 x16 x17 x18 x19 x20 f0 f1 f2 f3 f4 f5 f6 f7 f8 f9 f10 f11 f12 f13 f14 f15 f16 f17 f18 f19 f20 f21 f22 f23 f24) H := hP
        have hD : va_D A (mX mm q jn cI x0 x1 x2 x3 x4 y5_7 y6_7 y7_7 y8_7 x9 x10 x11 x12 x13 x14 x15 x16 x17 x18 x19 x20 f0 f1 f2 f3 f4 f5 f6 f7 f8 f9 f10 f11 f12 f13 f14 f15 f16 f17 f18 f19 f20 f21 f22 f23 f24) := hD
        obtain ⟨ha_7, hp_7, hk_7, hT_7⟩ : (x5.toInt ≤ y5_7.toInt ∧ y5_7.toInt ≤ x2.toInt) ∧ (0 ≤ y6_7.toInt ∧ y6_7.toInt ≤ 300) ∧ (y7_7.toInt = 0 ∨ x5.toInt < y5_7.toInt) ∧ (TokOK y7_7 y8_7) := hw
        refine lv_aload_n hx hb dX11_letter_71 rfl (lv_at hl 4 rfl) ?_
        refine lv_aload_n hx hb dX11_letter_72 rfl (lv_at hl 4 rfl) ?_
        refine va_get (D := D) (ci := 11) (v := .int x10) (C := RX11) (T := TX11) (N := 47) hx hb hts (by decide +kernel) hown hK.1 hP 0 rfl rfl 19 (by decide) (hts (.fieldLink RX11 151 "JugglingHallModel" "top" "I") (by decide +kernel)) (fun _ h9 => h9) rfl dX11_letter_73 ?_
        refine mp_12 hx hb hts (by decide +kernel) hown hK hP hD hS (hts (.fieldLink RX11 176 "JugglingHallModel" "oneStart" "I") (by decide +kernel)) dX11_letter_76 (fun H locs hP hD hS => ?_)
        refine lv_aload_n hx hb dX11_letter_79 rfl (lv_at hl 4 rfl) ?_
        refine roP (va_runV (As := []) (rest := []) ⟨hx, hb, hml, hown, hts⟩ (k_many l D cI cR cM _  (by first | assumption | omega) (by first | assumption | omega) (by first | assumption | omega)) (cwV 0 hts gX11_letter_X11_many rfl rfl rfl (by decide +kernel) ⟨Nat.le_of_ble_eq_true rfl, Nat.le_of_ble_eq_true rfl⟩) (pre_V hK hP hD 0 11 rfl rfl) rfl rfl hl.1 rfl (lv_room (Nat.le_of_ble_eq_true rfl)) dX11_letter_80 ⟨Nat.le_of_ble_eq_true rfl, Nat.le_of_ble_eq_true rfl⟩) hS hA hP (fun r_8 H locs hw hP hS => ?_)
        have h_8 : (r_8.toInt = x10.toInt - (f6 x11.toInt.toNat).toInt) := hw
        refine lv_iload hx hb dX11_letter_83 (lv_at hl 0 rfl) ?_
        refine a_iadd (u := r_8.toInt) (v := z_5.toInt) hx hb dX11_letter_85 (rfl) (rfl) (by omega) (fun z_9 e_9 => ?_)
        refine lv_bipush (v := 24) hx hb dX11_letter_86 (by decide) ?_
        refine a_icmp_le (u := (r_8.toInt + z_5.toInt)) (v := 24) (tgt := 98) hx hb dX11_letter_88 (by decide) (e_9) (by decide) (fun c_10 => ?_) (fun c_10 => ?_)
        · refine lv_iconst (v := 0) hx hb dX11_letter_98 (by decide) ?_
          refine lv_istore (lv' := [(5, .int 0), (4, .int z_5), (3, .int r_1), (2, .int x6), (1, .int x8), (0, .ref mm)]) hx hb dX11_letter_99 hl (by decide) rfl (fun ls hl => ?_)
          have loop101 : ∀ (ddloop101 : Nat) (k : Int32) (ga : (Nat → Int32)) (H : Heap) (locs : List Loc) (ls : Array Slot), (6 * z_5.toInt - k.toInt).toNat < ddloop101 → (0 ≤ k.toInt ∧ k.toInt ≤ 6 * z_5.toInt) → (∀ i : Int, 0 ≤ i → i < 6 * x10.toInt → ga i.toNat = f3 i.toNat) → (∀ i : Int, 0 ≤ i → i < k.toInt → ga (6 * x10.toInt + i).toNat = f0 ((r_1.toInt + 1) + i).toNat) → va_P D vwCl (mX mm q jn cI x0 x1 x2 x3 x4 y5_7 y6_7 y7_7 y8_7 x9 x10 x11 x10 x13 x14 x15 x16 x17 x18 x19 x20 f0 f1 f2 ga f4 f5 f6 f7 f8 f9 f10 f11 f12 f13 f14 f15 f16 f17 f18 f19 f20 f21 f22 f23 f24) H → va_D A (mX mm q jn cI x0 x1 x2 x3 x4 y5_7 y6_7 y7_7 y8_7 x9 x10 x11 x10 x13 x14 x15 x16 x17 x18 x19 x20 f0 f1 f2 ga f4 f5 f6 f7 f8 f9 f10 f11 f12 f13 f14 f15 f16 f17 f18 f19 f20 f21 f22 f23 f24) → va_S A s.heap H locs → lv_has ls 6 [(0, .ref mm), (1, .int x8), (2, .int x6), (3, .int r_1), (4, .int z_5), (5, .int k)] → W p l e ({ frames := 4, cells := 0, slots := 0, locals := 88 }) s m args below meth c H locs 0 0 Q (F0 m 101 ls []) := by
            intro ddloop101
            induction ddloop101 with
            | zero =>
              intro k ga H locs ls hdd
              exact absurd hdd (Nat.not_lt_zero _)
            | succ ddloop101 ih101 =>
              intro k ga H locs ls hdd hk hga hgs hP hD hS hl
              refine lv_iload hx hb dX11_letter_101 (lv_at hl 5 rfl) ?_
              refine lv_bipush (v := 6) hx hb dX11_letter_103 (by decide) ?_
              refine lv_iload hx hb dX11_letter_105 (lv_at hl 4 rfl) ?_
              refine a_imul (u := 6) (v := z_5.toInt) hx hb dX11_letter_107 (by decide) (rfl) (by omega) (fun z_11 e_11 => ?_)
              refine a_icmp_ge (u := k.toInt) (v := (6 * z_5.toInt)) (tgt := 168) hx hb dX11_letter_108 (by decide) (rfl) (e_11) (fun c_12 => ?_) (fun c_12 => ?_)
              · have hCn : CellsX jn ga 0 (6 * (x10.toInt + z_5.toInt)) := cx_app (src := f0) (lo := (r_1.toInt + 1)) hC (by have hq9 := hrow6; first | exact hq9 | (rw [show (r_1.toInt + 1) + 6 * z_5.toInt = r_1.toInt + 1 + 6 * (f0 r_1.toInt.toNat).toInt by omega]; exact hq9)) (by omega) (by omega) hga (fun i i0 i1 => hgs i i0 (by omega))
                refine lv_aload_n hx hb dX11_letter_168 rfl (lv_at hl 0 rfl) ?_
                refine lv_dup hx hb dX11_letter_169 rfl ?_
                refine va_get (D := D) (ci := 11) (v := .int x10) (C := RX11) (T := TX11) (N := 47) hx hb hts (by decide +kernel) hown hK.1 hP 0 rfl rfl 19 (by decide) (hts (.fieldLink RX11 151 "JugglingHallModel" "top" "I") (by decide +kernel)) (fun _ h9 => h9) rfl dX11_letter_170 ?_
                refine lv_iload hx hb dX11_letter_173 (lv_at hl 4 rfl) ?_
                refine a_iadd (u := x10.toInt) (v := z_5.toInt) hx hb dX11_letter_175 (rfl) (rfl) (by omega) (fun z_13 e_13 => ?_)
                refine mp_10 hx hb hts (by decide +kernel) hown hK hP hD hS (hts (.fieldLink RX11 151 "JugglingHallModel" "top" "I") (by decide +kernel)) dX11_letter_176 (fun H locs hP hD hS => ?_)
                refine lv_iconst (v := 0) hx hb dX11_letter_179 (by decide) ?_
                have hz_14 : (0 : Int32).toInt = 0 := by decide
                exact g_iret ((0 : Int32), y5_7, y6_7, y7_7, y8_7, x9, z_13, x10, ga) hx hb hr hlocks hS rfl (⟨show x5.toInt ≤ y5_7.toInt ∧ y5_7.toInt ≤ x2.toInt from (by first | assumption | omega), show TokOK y7_7 y8_7 from (by first | assumption | omega), show (0 : Int32).toInt = 0 → x5.toInt < y5_7.toInt ∨ y7_7.toInt = 0 from (by first | assumption | omega), show (0 : Int32).toInt = 0 → x10.toInt ≤ z_13.toInt ∧ x10.toInt = x10.toInt from (by first | assumption | omega), show (0 : Int32).toInt = 0 → z_13.toInt - (f6 x11.toInt.toNat).toInt ≤ 24 from (by first | assumption | omega), show (0 : Int32).toInt = 0 → CellsX jn ga 0 (6 * z_13.toInt) from (fun _ => by rw [show 6 * z_13.toInt = 6 * (x10.toInt + z_5.toInt) by omega]; exact hCn)⟩) hP hD hQ (Nat.le_of_ble_eq_true rfl) (Nat.le_of_ble_eq_true rfl) dX11_letter_180
              · refine lv_aload_n hx hb dX11_letter_111 rfl (lv_at hl 0 rfl) ?_
                refine va_get (D := D) (ci := 11) (v := .ref (q 3)) (C := RX11) (T := TX11) (N := 47) hx hb hts (by decide +kernel) hown hK.1 hP 0 rfl rfl 14 (by decide) (hts (.fieldLink RX11 27 "JugglingHallModel" "work" "[I") (by decide +kernel)) (fun _ h9 => h9) rfl dX11_letter_112 ?_
                refine lv_bipush (v := 6) hx hb dX11_letter_115 (by decide) ?_
                refine lv_aload_n hx hb dX11_letter_117 rfl (lv_at hl 0 rfl) ?_
                refine va_get (D := D) (ci := 11) (v := .int x10) (C := RX11) (T := TX11) (N := 47) hx hb hts (by decide +kernel) hown hK.1 hP 0 rfl rfl 19 (by decide) (hts (.fieldLink RX11 151 "JugglingHallModel" "top" "I") (by decide +kernel)) (fun _ h9 => h9) rfl dX11_letter_118 ?_
                refine a_imul (u := 6) (v := x10.toInt) hx hb dX11_letter_121 (by decide) (rfl) (by omega) (fun z_15 e_15 => ?_)
                refine lv_iload hx hb dX11_letter_122 (lv_at hl 5 rfl) ?_
                refine a_iadd (u := (6 * x10.toInt)) (v := k.toInt) hx hb dX11_letter_124 (e_15) (rfl) (by omega) (fun z_16 e_16 => ?_)
                refine lv_aload_n hx hb dX11_letter_125 rfl (lv_at hl 0 rfl) ?_
                refine va_get (D := D) (ci := 11) (v := .ref (q 8)) (C := RX11) (T := TX11) (N := 47) hx hb hts (by decide +kernel) hown hK.1 hP 0 rfl rfl 22 (by decide) (hts (.fieldLink RX11 42 "JugglingHallModel" "freshMany" "[I") (by decide +kernel)) (fun _ h9 => h9) rfl dX11_letter_126 ?_
                refine lv_iload_n hx hb dX11_letter_129 rfl (lv_at hl 1 rfl) ?_
                refine a_iald (f := f8) (u := x8.toInt) hx hb hK.1 hP 9 0 rfl rfl dX11_letter_130 (rfl) (by omega) (fun z_17 q_17 e_17 => ?_)
                refine a_if_le (u := z_17.toInt) (tgt := 150) hx hb dX11_letter_131 (by decide) (rfl) (fun c_18 => ?_) (fun c_18 => absurd c_18 (by omega))
                refine lv_aload_n hx hb dX11_letter_150 rfl (lv_at hl 0 rfl) ?_
                refine va_get (D := D) (ci := 11) (v := .ref (q 0)) (C := RX11) (T := TX11) (N := 47) hx hb hts (by decide +kernel) hown hK.1 hP 0 rfl rfl 1 (by decide) (hts (.fieldLink RX11 8 "JugglingHallModel" "rows" "[I") (by decide +kernel)) (fun _ h9 => h9) rfl dX11_letter_151 ?_
                refine lv_iload_n hx hb dX11_letter_154 rfl (lv_at hl 3 rfl) ?_
                refine lv_iconst (v := 1) hx hb dX11_letter_155 (by decide) ?_
                refine a_iadd (u := r_1.toInt) (v := 1) hx hb dX11_letter_156 (rfl) (by decide) (by omega) (fun z_19 e_19 => ?_)
                refine lv_iload hx hb dX11_letter_157 (lv_at hl 5 rfl) ?_
                refine a_iadd (u := (r_1.toInt + 1)) (v := k.toInt) hx hb dX11_letter_159 (e_19) (rfl) (by omega) (fun z_20 e_20 => ?_)
                refine a_iald (f := f0) (u := ((r_1.toInt + 1) + k.toInt)) hx hb hK.1 hP 1 0 rfl rfl dX11_letter_160 (e_20) (by omega) (fun z_21 q_21 e_21 => ?_)
                refine ma_3 (u := ((6 * x10.toInt) + k.toInt)) hx hb hK hP hD hS dX11_letter_161 (e_16) (by omega) (fun g_22 H locs eg_22 hP hD hS => ?_)
                obtain ⟨z_23, q_23, e_23⟩ := i_inc (a := k.toInt) (1) (rfl) (by decide) (by omega) (by omega)
                refine lv_iinc (v := z_23) (lv' := [(5, .int z_23), (0, .ref mm), (1, .int x8), (2, .int x6), (3, .int r_1), (4, .int z_5)]) hx hb dX11_letter_162 hl (k := 5) rfl q_23 (by decide) rfl (fun ls hl => ?_)
                refine lv_goto (tgt := 101) hx hb dX11_letter_165 (by decide) ?_
                exact ih101 z_23 g_22 _ _ _ (by omega) (by first | assumption | omega) (fun i i0 i1 => by rw [eg_22, un_i i0 (by omega) (by omega)]; exact hga i i0 i1) (fun i i0 i1 => by
                  by_cases q : i = k.toInt
                  · rw [eg_22, q, show 6 * x10.toInt + k.toInt = ((6 * x10.toInt) + k.toInt) by omega, pk_us, q_21, show ((r_1.toInt + 1) + k.toInt) = (r_1.toInt + 1) + k.toInt by omega]
                  · rw [eg_22, un_i (by omega) (by omega) (by omega)]; exact hgs i i0 (by omega)) hP hD hS (lv_sub hl [1, 2, 3, 4, 5, 0] rfl)
          have hz_24 : (0 : Int32).toInt = 0 := by decide
          exact loop101 ((6 * z_5.toInt - (0 : Int32).toInt).toNat + 1) (0 : Int32) f3 _ _ _ (by omega) (by first | assumption | omega) (fun _ _ _ => rfl) (fun i i0 i1 => absurd i1 (by omega)) hP hD hS (lv_sub hl [5, 4, 3, 2, 1, 0] rfl)
        · refine lv_aload_n hx hb dX11_letter_91 rfl (lv_at hl 4 rfl) ?_
          refine lv_iconst (v := 4) hx hb dX11_letter_92 (by decide) ?_
          refine lv_iload_n hx hb dX11_letter_93 rfl (lv_at hl 2 rfl) ?_
          have hz_25 : (4 : Int32).toInt = 4 := by decide
          refine call_g (wr := []) (va_runV (As := [.int 4, .int x6]) (rest := []) ⟨hx, hb, hml, hown, hts⟩ (k_fails l D cI cR cM _  ) (cwV 2 hts gX11_letter_X11_fails rfl rfl rfl (by decide +kernel) ⟨Nat.le_of_ble_eq_true rfl, Nat.le_of_ble_eq_true rfl⟩) (pre_V hK hP hD 0 11 rfl rfl) rfl rfl hl.1 rfl (lv_room (Nat.le_of_ble_eq_true rfl)) dX11_letter_94 ⟨Nat.le_of_ble_eq_true rfl, Nat.le_of_ble_eq_true rfl⟩) hP hD hS hA [0, 1, 2, 3, 4, 5, 6, 7, 8, 9, 10, 11, 12, 13, 14, 15, 16, 17, 18, 19, 20, 21, 22, 23, 24, 25] [] (by with_unfolding_all rfl) rfl (by decide) (by decide) (fun u_26 H locs hw hP hD hS => ?_)
          obtain ⟨r_26, y9_26⟩ := u_26
          have hP : va_P D vwCl (mX mm q jn cI x0 x1 x2 x3 x4 y5_7 y6_7 y7_7 y8_7 y9_26 x10 x11 x10 x13 x14 x15 x16 x17 x18 x19 x20 f0 f1 f2 f3 f4 f5 f6 f7 f8 f9 f10 f11 f12 f13 f14 f15 f16 f17 f18 f19 f20 f21 f22 f23 f24) H := hP
          have hD : va_D A (mX mm q jn cI x0 x1 x2 x3 x4 y5_7 y6_7 y7_7 y8_7 y9_26 x10 x11 x10 x13 x14 x15 x16 x17 x18 x19 x20 f0 f1 f2 f3 f4 f5 f6 f7 f8 f9 f10 f11 f12 f13 f14 f15 f16 f17 f18 f19 f20 f21 f22 f23 f24) := hD
          have hr_26 : (r_26.toInt = (4 : Int32).toInt) := hw
          exact g_iret (r_26, y5_7, y6_7, y7_7, y8_7, y9_26, x10, x10, f3) hx hb hr hlocks hS rfl (⟨show x5.toInt ≤ y5_7.toInt ∧ y5_7.toInt ≤ x2.toInt from (by first | assumption | omega), show TokOK y7_7 y8_7 from (by first | assumption | omega), show r_26.toInt = 0 → x5.toInt < y5_7.toInt ∨ y7_7.toInt = 0 from (by first | assumption | omega), show r_26.toInt = 0 → x10.toInt ≤ x10.toInt ∧ x10.toInt = x10.toInt from (by first | assumption | omega), show r_26.toInt = 0 → x10.toInt - (f6 x11.toInt.toNat).toInt ≤ 24 from (by first | assumption | omega), show r_26.toInt = 0 → CellsX jn f3 0 (6 * x10.toInt) from (fun q => absurd q (by omega))⟩) hP hD hQ (Nat.le_of_ble_eq_true rfl) (Nat.le_of_ble_eq_true rfl) dX11_letter_97
      · refine lv_aload_n hx hb dX11_letter_59 rfl (lv_at hl 4 rfl) ?_
        refine lv_bipush (v := 6) hx hb dX11_letter_60 (by decide) ?_
        refine lv_iload_n hx hb dX11_letter_62 rfl (lv_at hl 2 rfl) ?_
        have hz_27 : (6 : Int32).toInt = 6 := by decide
        refine call_g (wr := []) (va_runV (As := [.int 6, .int x6]) (rest := []) ⟨hx, hb, hml, hown, hts⟩ (k_fails l D cI cR cM _  ) (cwV 2 hts gX11_letter_X11_fails rfl rfl rfl (by decide +kernel) ⟨Nat.le_of_ble_eq_true rfl, Nat.le_of_ble_eq_true rfl⟩) (pre_V hK hP hD 0 11 rfl rfl) rfl rfl hl.1 rfl (lv_room (Nat.le_of_ble_eq_true rfl)) dX11_letter_63 ⟨Nat.le_of_ble_eq_true rfl, Nat.le_of_ble_eq_true rfl⟩) hP hD hS hA [0, 1, 2, 3, 4, 5, 6, 7, 8, 9, 10, 11, 12, 13, 14, 15, 16, 17, 18, 19, 20, 21, 22, 23, 24, 25] [] (by with_unfolding_all rfl) rfl (by decide) (by decide) (fun u_28 H locs hw hP hD hS => ?_)
        obtain ⟨r_28, y9_28⟩ := u_28
        have hP : va_P D vwCl (mX mm q jn cI x0 x1 x2 x3 x4 x5 x6 x7 x8 y9_28 x10 x11 x12 x13 x14 x15 x16 x17 x18 x19 x20 f0 f1 f2 f3 f4 f5 f6 f7 f8 f9 f10 f11 f12 f13 f14 f15 f16 f17 f18 f19 f20 f21 f22 f23 f24) H := hP
        have hD : va_D A (mX mm q jn cI x0 x1 x2 x3 x4 x5 x6 x7 x8 y9_28 x10 x11 x12 x13 x14 x15 x16 x17 x18 x19 x20 f0 f1 f2 f3 f4 f5 f6 f7 f8 f9 f10 f11 f12 f13 f14 f15 f16 f17 f18 f19 f20 f21 f22 f23 f24) := hD
        have hr_28 : (r_28.toInt = (6 : Int32).toInt) := hw
        exact g_iret (r_28, x5, x6, x7, x8, y9_28, x10, x12, f3) hx hb hr hlocks hS rfl (⟨show x5.toInt ≤ x5.toInt ∧ x5.toInt ≤ x2.toInt from (by first | assumption | omega), show TokOK x7 x8 from (by first | assumption | omega), show r_28.toInt = 0 → x5.toInt < x5.toInt ∨ x7.toInt = 0 from (by first | assumption | omega), show r_28.toInt = 0 → x10.toInt ≤ x10.toInt ∧ x12.toInt = x10.toInt from (by first | assumption | omega), show r_28.toInt = 0 → x10.toInt - (f6 x11.toInt.toNat).toInt ≤ 24 from (by first | assumption | omega), show r_28.toInt = 0 → CellsX jn f3 0 (6 * x10.toInt) from (fun q => absurd q (by omega))⟩) hP hD hQ (Nat.le_of_ble_eq_true rfl) (Nat.le_of_ble_eq_true rfl) dX11_letter_66
    · refine lv_iconst (v := 0) hx hb dX11_letter_42 (by decide) ?_
      refine lv_goto (tgt := 52) hx hb dX11_letter_43 (by decide) ?_
      refine lv_istore (lv' := [(4, .int 0), (3, .int r_1), (2, .int x6), (1, .int x8), (0, .ref mm)]) hx hb dX11_letter_52 hl (by decide) rfl (fun ls hl => ?_)
      refine lv_iload hx hb dX11_letter_54 (lv_at hl 0 rfl) ?_
      refine a_if_ne (u := 0) (tgt := 67) hx hb dX11_letter_56 (by decide) (by decide) (fun c_29 => absurd c_29 (by omega)) (fun c_29 => ?_)
      refine lv_aload_n hx hb dX11_letter_59 rfl (lv_at hl 4 rfl) ?_
      refine lv_bipush (v := 6) hx hb dX11_letter_60 (by decide) ?_
      refine lv_iload_n hx hb dX11_letter_62 rfl (lv_at hl 2 rfl) ?_
      have hz_30 : (6 : Int32).toInt = 6 := by decide
      refine call_g (wr := []) (va_runV (As := [.int 6, .int x6]) (rest := []) ⟨hx, hb, hml, hown, hts⟩ (k_fails l D cI cR cM _  ) (cwV 2 hts gX11_letter_X11_fails rfl rfl rfl (by decide +kernel) ⟨Nat.le_of_ble_eq_true rfl, Nat.le_of_ble_eq_true rfl⟩) (pre_V hK hP hD 0 11 rfl rfl) rfl rfl hl.1 rfl (lv_room (Nat.le_of_ble_eq_true rfl)) dX11_letter_63 ⟨Nat.le_of_ble_eq_true rfl, Nat.le_of_ble_eq_true rfl⟩) hP hD hS hA [0, 1, 2, 3, 4, 5, 6, 7, 8, 9, 10, 11, 12, 13, 14, 15, 16, 17, 18, 19, 20, 21, 22, 23, 24, 25] [] (by with_unfolding_all rfl) rfl (by decide) (by decide) (fun u_31 H locs hw hP hD hS => ?_)
      obtain ⟨r_31, y9_31⟩ := u_31
      have hP : va_P D vwCl (mX mm q jn cI x0 x1 x2 x3 x4 x5 x6 x7 x8 y9_31 x10 x11 x12 x13 x14 x15 x16 x17 x18 x19 x20 f0 f1 f2 f3 f4 f5 f6 f7 f8 f9 f10 f11 f12 f13 f14 f15 f16 f17 f18 f19 f20 f21 f22 f23 f24) H := hP
      have hD : va_D A (mX mm q jn cI x0 x1 x2 x3 x4 x5 x6 x7 x8 y9_31 x10 x11 x12 x13 x14 x15 x16 x17 x18 x19 x20 f0 f1 f2 f3 f4 f5 f6 f7 f8 f9 f10 f11 f12 f13 f14 f15 f16 f17 f18 f19 f20 f21 f22 f23 f24) := hD
      have hr_31 : (r_31.toInt = (6 : Int32).toInt) := hw
      exact g_iret (r_31, x5, x6, x7, x8, y9_31, x10, x12, f3) hx hb hr hlocks hS rfl (⟨show x5.toInt ≤ x5.toInt ∧ x5.toInt ≤ x2.toInt from (by first | assumption | omega), show TokOK x7 x8 from (by first | assumption | omega), show r_31.toInt = 0 → x5.toInt < x5.toInt ∨ x7.toInt = 0 from (by first | assumption | omega), show r_31.toInt = 0 → x10.toInt ≤ x10.toInt ∧ x12.toInt = x10.toInt from (by first | assumption | omega), show r_31.toInt = 0 → x10.toInt - (f6 x11.toInt.toNat).toInt ≤ 24 from (by first | assumption | omega), show r_31.toInt = 0 → CellsX jn f3 0 (6 * x10.toInt) from (fun q => absurd q (by omega))⟩) hP hD hQ (Nat.le_of_ble_eq_true rfl) (Nat.le_of_ble_eq_true rfl) dX11_letter_66
  · refine lv_aload_n hx hb dX11_letter_29 rfl (lv_at hl 3 rfl) ?_
    refine va_get (D := D) (ci := 11) (v := .ref (q 8)) (C := RX11) (T := TX11) (N := 47) hx hb hts (by decide +kernel) hown hK.1 hP 0 rfl rfl 22 (by decide) (hts (.fieldLink RX11 42 "JugglingHallModel" "freshMany" "[I") (by decide +kernel)) (fun _ h9 => h9) rfl dX11_letter_30 ?_
    refine lv_iload_n hx hb dX11_letter_33 rfl (lv_at hl 2 rfl) ?_
    refine a_iald (f := f8) (u := x8.toInt) hx hb hK.1 hP 9 0 rfl rfl dX11_letter_34 (rfl) (by omega) (fun z_32 q_32 e_32 => ?_)
    refine lv_goto (tgt := 52) hx hb dX11_letter_35 (by decide) ?_
    refine lv_istore (lv' := [(4, .int z_32), (3, .int r_1), (2, .int x6), (1, .int x8), (0, .ref mm)]) hx hb dX11_letter_52 hl (by decide) rfl (fun ls hl => ?_)
    refine lv_iload hx hb dX11_letter_54 (lv_at hl 0 rfl) ?_
    refine a_if_ne (u := z_32.toInt) (tgt := 67) hx hb dX11_letter_56 (by decide) (rfl) (fun c_33 => ?_) (fun c_33 => ?_)
    · refine lv_aload_n hx hb dX11_letter_67 rfl (lv_at hl 4 rfl) ?_
      refine call_g (wr := []) (va_runV (As := []) (rest := []) ⟨hx, hb, hml, hown, hts⟩ (k_next l D cI cR cM _  (by first | assumption | omega) (by first | assumption | omega)) (cwV 0 hts gX11_letter_X11_nextToken rfl rfl rfl (by decide +kernel) ⟨Nat.le_of_ble_eq_true rfl, Nat.le_of_ble_eq_true rfl⟩) (pre_V hK hP hD 0 11 rfl rfl) rfl rfl hl.1 rfl (lv_room (Nat.le_of_ble_eq_true rfl)) dX11_letter_68 ⟨Nat.le_of_ble_eq_true rfl, Nat.le_of_ble_eq_true rfl⟩) hP hD hS hA [0, 1, 2, 3, 4, 5, 6, 7, 8, 9, 10, 11, 12, 13, 14, 15, 16, 17, 18, 19, 20, 21, 22, 23, 24, 25] [] (by with_unfolding_all rfl) rfl (by decide) (by decide) (fun u_34 H locs hw hP hD hS => ?_)
      obtain ⟨y5_34, y6_34, y7_34, y8_34⟩ := u_34
      have hP : va_P D vwCl (mX mm q jn cI x0 x1 x2 x3 x4 y5_34 y6_34 y7_34 y8_34 x9 x10 x11 x12 x13 x14 x15 x16 x17 x18 x19 x20 f0 f1 f2 f3 f4 f5 f6 f7 f8 f9 f10 f11 f12 f13 f14 f15 f16 f17 f18 f19 f20 f21 f22 f23 f24) H := hP
      have hD : va_D A (mX mm q jn cI x0 x1 x2 x3 x4 y5_34 y6_34 y7_34 y8_34 x9 x10 x11 x12 x13 x14 x15 x16 x17 x18 x19 x20 f0 f1 f2 f3 f4 f5 f6 f7 f8 f9 f10 f11 f12 f13 f14 f15 f16 f17 f18 f19 f20 f21 f22 f23 f24) := hD
      obtain ⟨ha_34, hp_34, hk_34, hT_34⟩ : (x5.toInt ≤ y5_34.toInt ∧ y5_34.toInt ≤ x2.toInt) ∧ (0 ≤ y6_34.toInt ∧ y6_34.toInt ≤ 300) ∧ (y7_34.toInt = 0 ∨ x5.toInt < y5_34.toInt) ∧ (TokOK y7_34 y8_34) := hw
      refine lv_aload_n hx hb dX11_letter_71 rfl (lv_at hl 4 rfl) ?_
      refine lv_aload_n hx hb dX11_letter_72 rfl (lv_at hl 4 rfl) ?_
      refine va_get (D := D) (ci := 11) (v := .int x10) (C := RX11) (T := TX11) (N := 47) hx hb hts (by decide +kernel) hown hK.1 hP 0 rfl rfl 19 (by decide) (hts (.fieldLink RX11 151 "JugglingHallModel" "top" "I") (by decide +kernel)) (fun _ h9 => h9) rfl dX11_letter_73 ?_
      refine mp_12 hx hb hts (by decide +kernel) hown hK hP hD hS (hts (.fieldLink RX11 176 "JugglingHallModel" "oneStart" "I") (by decide +kernel)) dX11_letter_76 (fun H locs hP hD hS => ?_)
      refine lv_aload_n hx hb dX11_letter_79 rfl (lv_at hl 4 rfl) ?_
      refine roP (va_runV (As := []) (rest := []) ⟨hx, hb, hml, hown, hts⟩ (k_many l D cI cR cM _  (by first | assumption | omega) (by first | assumption | omega) (by first | assumption | omega)) (cwV 0 hts gX11_letter_X11_many rfl rfl rfl (by decide +kernel) ⟨Nat.le_of_ble_eq_true rfl, Nat.le_of_ble_eq_true rfl⟩) (pre_V hK hP hD 0 11 rfl rfl) rfl rfl hl.1 rfl (lv_room (Nat.le_of_ble_eq_true rfl)) dX11_letter_80 ⟨Nat.le_of_ble_eq_true rfl, Nat.le_of_ble_eq_true rfl⟩) hS hA hP (fun r_35 H locs hw hP hS => ?_)
      have h_35 : (r_35.toInt = x10.toInt - (f6 x11.toInt.toNat).toInt) := hw
      refine lv_iload hx hb dX11_letter_83 (lv_at hl 0 rfl) ?_
      refine a_iadd (u := r_35.toInt) (v := z_32.toInt) hx hb dX11_letter_85 (rfl) (rfl) (by omega) (fun z_36 e_36 => ?_)
      refine lv_bipush (v := 24) hx hb dX11_letter_86 (by decide) ?_
      refine a_icmp_le (u := (r_35.toInt + z_32.toInt)) (v := 24) (tgt := 98) hx hb dX11_letter_88 (by decide) (e_36) (by decide) (fun c_37 => ?_) (fun c_37 => ?_)
      · refine lv_iconst (v := 0) hx hb dX11_letter_98 (by decide) ?_
        refine lv_istore (lv' := [(5, .int 0), (4, .int z_32), (3, .int r_1), (2, .int x6), (1, .int x8), (0, .ref mm)]) hx hb dX11_letter_99 hl (by decide) rfl (fun ls hl => ?_)
        have loop101 : ∀ (ddloop101 : Nat) (k : Int32) (ga : (Nat → Int32)) (H : Heap) (locs : List Loc) (ls : Array Slot), (6 * z_32.toInt - k.toInt).toNat < ddloop101 → (0 ≤ k.toInt ∧ k.toInt ≤ 6 * z_32.toInt) → (∀ i : Int, 0 ≤ i → i < 6 * x10.toInt → ga i.toNat = f3 i.toNat) → (∀ i : Int, 0 ≤ i → i < k.toInt → ga (6 * x10.toInt + i).toNat = f9 ((144 * x8.toInt) + i).toNat) → va_P D vwCl (mX mm q jn cI x0 x1 x2 x3 x4 y5_34 y6_34 y7_34 y8_34 x9 x10 x11 x10 x13 x14 x15 x16 x17 x18 x19 x20 f0 f1 f2 ga f4 f5 f6 f7 f8 f9 f10 f11 f12 f13 f14 f15 f16 f17 f18 f19 f20 f21 f22 f23 f24) H → va_D A (mX mm q jn cI x0 x1 x2 x3 x4 y5_34 y6_34 y7_34 y8_34 x9 x10 x11 x10 x13 x14 x15 x16 x17 x18 x19 x20 f0 f1 f2 ga f4 f5 f6 f7 f8 f9 f10 f11 f12 f13 f14 f15 f16 f17 f18 f19 f20 f21 f22 f23 f24) → va_S A s.heap H locs → lv_has ls 6 [(0, .ref mm), (1, .int x8), (2, .int x6), (3, .int r_1), (4, .int z_32), (5, .int k)] → W p l e ({ frames := 4, cells := 0, slots := 0, locals := 88 }) s m args below meth c H locs 0 0 Q (F0 m 101 ls []) := by
          intro ddloop101
          induction ddloop101 with
          | zero =>
            intro k ga H locs ls hdd
            exact absurd hdd (Nat.not_lt_zero _)
          | succ ddloop101 ih101 =>
            intro k ga H locs ls hdd hk hga hgs hP hD hS hl
            refine lv_iload hx hb dX11_letter_101 (lv_at hl 5 rfl) ?_
            refine lv_bipush (v := 6) hx hb dX11_letter_103 (by decide) ?_
            refine lv_iload hx hb dX11_letter_105 (lv_at hl 4 rfl) ?_
            refine a_imul (u := 6) (v := z_32.toInt) hx hb dX11_letter_107 (by decide) (rfl) (by omega) (fun z_38 e_38 => ?_)
            refine a_icmp_ge (u := k.toInt) (v := (6 * z_32.toInt)) (tgt := 168) hx hb dX11_letter_108 (by decide) (rfl) (e_38) (fun c_39 => ?_) (fun c_39 => ?_)
            · have hCn : CellsX jn ga 0 (6 * (x10.toInt + z_32.toInt)) := cx_app (src := f9) (lo := (144 * x8.toInt)) hC (by have hq9 := hfr3; first | exact hq9 | (rw [show (144 * x8.toInt) + 6 * z_32.toInt = 144 * x8.toInt + 6 * (f8 x8.toInt.toNat).toInt by omega]; exact hq9)) (by omega) (by omega) hga (fun i i0 i1 => hgs i i0 (by omega))
              refine lv_aload_n hx hb dX11_letter_168 rfl (lv_at hl 0 rfl) ?_
              refine lv_dup hx hb dX11_letter_169 rfl ?_
              refine va_get (D := D) (ci := 11) (v := .int x10) (C := RX11) (T := TX11) (N := 47) hx hb hts (by decide +kernel) hown hK.1 hP 0 rfl rfl 19 (by decide) (hts (.fieldLink RX11 151 "JugglingHallModel" "top" "I") (by decide +kernel)) (fun _ h9 => h9) rfl dX11_letter_170 ?_
              refine lv_iload hx hb dX11_letter_173 (lv_at hl 4 rfl) ?_
              refine a_iadd (u := x10.toInt) (v := z_32.toInt) hx hb dX11_letter_175 (rfl) (rfl) (by omega) (fun z_40 e_40 => ?_)
              refine mp_10 hx hb hts (by decide +kernel) hown hK hP hD hS (hts (.fieldLink RX11 151 "JugglingHallModel" "top" "I") (by decide +kernel)) dX11_letter_176 (fun H locs hP hD hS => ?_)
              refine lv_iconst (v := 0) hx hb dX11_letter_179 (by decide) ?_
              have hz_41 : (0 : Int32).toInt = 0 := by decide
              exact g_iret ((0 : Int32), y5_34, y6_34, y7_34, y8_34, x9, z_40, x10, ga) hx hb hr hlocks hS rfl (⟨show x5.toInt ≤ y5_34.toInt ∧ y5_34.toInt ≤ x2.toInt from (by first | assumption | omega), show TokOK y7_34 y8_34 from (by first | assumption | omega), show (0 : Int32).toInt = 0 → x5.toInt < y5_34.toInt ∨ y7_34.toInt = 0 from (by first | assumption | omega), show (0 : Int32).toInt = 0 → x10.toInt ≤ z_40.toInt ∧ x10.toInt = x10.toInt from (by first | assumption | omega), show (0 : Int32).toInt = 0 → z_40.toInt - (f6 x11.toInt.toNat).toInt ≤ 24 from (by first | assumption | omega), show (0 : Int32).toInt = 0 → CellsX jn ga 0 (6 * z_40.toInt) from (fun _ => by rw [show 6 * z_40.toInt = 6 * (x10.toInt + z_32.toInt) by omega]; exact hCn)⟩) hP hD hQ (Nat.le_of_ble_eq_true rfl) (Nat.le_of_ble_eq_true rfl) dX11_letter_180
            · refine lv_aload_n hx hb dX11_letter_111 rfl (lv_at hl 0 rfl) ?_
              refine va_get (D := D) (ci := 11) (v := .ref (q 3)) (C := RX11) (T := TX11) (N := 47) hx hb hts (by decide +kernel) hown hK.1 hP 0 rfl rfl 14 (by decide) (hts (.fieldLink RX11 27 "JugglingHallModel" "work" "[I") (by decide +kernel)) (fun _ h9 => h9) rfl dX11_letter_112 ?_
              refine lv_bipush (v := 6) hx hb dX11_letter_115 (by decide) ?_
              refine lv_aload_n hx hb dX11_letter_117 rfl (lv_at hl 0 rfl) ?_
              refine va_get (D := D) (ci := 11) (v := .int x10) (C := RX11) (T := TX11) (N := 47) hx hb hts (by decide +kernel) hown hK.1 hP 0 rfl rfl 19 (by decide) (hts (.fieldLink RX11 151 "JugglingHallModel" "top" "I") (by decide +kernel)) (fun _ h9 => h9) rfl dX11_letter_118 ?_
              refine a_imul (u := 6) (v := x10.toInt) hx hb dX11_letter_121 (by decide) (rfl) (by omega) (fun z_42 e_42 => ?_)
              refine lv_iload hx hb dX11_letter_122 (lv_at hl 5 rfl) ?_
              refine a_iadd (u := (6 * x10.toInt)) (v := k.toInt) hx hb dX11_letter_124 (e_42) (rfl) (by omega) (fun z_43 e_43 => ?_)
              refine lv_aload_n hx hb dX11_letter_125 rfl (lv_at hl 0 rfl) ?_
              refine va_get (D := D) (ci := 11) (v := .ref (q 8)) (C := RX11) (T := TX11) (N := 47) hx hb hts (by decide +kernel) hown hK.1 hP 0 rfl rfl 22 (by decide) (hts (.fieldLink RX11 42 "JugglingHallModel" "freshMany" "[I") (by decide +kernel)) (fun _ h9 => h9) rfl dX11_letter_126 ?_
              refine lv_iload_n hx hb dX11_letter_129 rfl (lv_at hl 1 rfl) ?_
              refine a_iald (f := f8) (u := x8.toInt) hx hb hK.1 hP 9 0 rfl rfl dX11_letter_130 (rfl) (by omega) (fun z_44 q_44 e_44 => ?_)
              refine a_if_le (u := z_44.toInt) (tgt := 150) hx hb dX11_letter_131 (by decide) (rfl) (fun c_45 => absurd c_45 (by omega)) (fun c_45 => ?_)
              refine lv_aload_n hx hb dX11_letter_134 rfl (lv_at hl 0 rfl) ?_
              refine va_get (D := D) (ci := 11) (v := .ref (q 9)) (C := RX11) (T := TX11) (N := 47) hx hb hts (by decide +kernel) hown hK.1 hP 0 rfl rfl 23 (by decide) (hts (.fieldLink RX11 45 "JugglingHallModel" "fresh" "[I") (by decide +kernel)) (fun _ h9 => h9) rfl dX11_letter_135 ?_
              refine lv_sipush (v := 144) hx hb dX11_letter_138 (by decide) ?_
              refine lv_iload_n hx hb dX11_letter_141 rfl (lv_at hl 1 rfl) ?_
              refine a_imul (u := 144) (v := x8.toInt) hx hb dX11_letter_142 (by decide) (rfl) (by omega) (fun z_46 e_46 => ?_)
              refine lv_iload hx hb dX11_letter_143 (lv_at hl 5 rfl) ?_
              refine a_iadd (u := (144 * x8.toInt)) (v := k.toInt) hx hb dX11_letter_145 (e_46) (rfl) (by omega) (fun z_47 e_47 => ?_)
              refine a_iald (f := f9) (u := ((144 * x8.toInt) + k.toInt)) hx hb hK.1 hP 10 0 rfl rfl dX11_letter_146 (e_47) (by omega) (fun z_48 q_48 e_48 => ?_)
              refine lv_goto (tgt := 161) hx hb dX11_letter_147 (by decide) ?_
              refine ma_3 (u := ((6 * x10.toInt) + k.toInt)) hx hb hK hP hD hS dX11_letter_161 (e_43) (by omega) (fun g_49 H locs eg_49 hP hD hS => ?_)
              obtain ⟨z_50, q_50, e_50⟩ := i_inc (a := k.toInt) (1) (rfl) (by decide) (by omega) (by omega)
              refine lv_iinc (v := z_50) (lv' := [(5, .int z_50), (0, .ref mm), (1, .int x8), (2, .int x6), (3, .int r_1), (4, .int z_32)]) hx hb dX11_letter_162 hl (k := 5) rfl q_50 (by decide) rfl (fun ls hl => ?_)
              refine lv_goto (tgt := 101) hx hb dX11_letter_165 (by decide) ?_
              exact ih101 z_50 g_49 _ _ _ (by omega) (by first | assumption | omega) (fun i i0 i1 => by rw [eg_49, un_i i0 (by omega) (by omega)]; exact hga i i0 i1) (fun i i0 i1 => by
                by_cases q : i = k.toInt
                · rw [eg_49, q, show 6 * x10.toInt + k.toInt = ((6 * x10.toInt) + k.toInt) by omega, pk_us, q_48, show ((144 * x8.toInt) + k.toInt) = (144 * x8.toInt) + k.toInt by omega]
                · rw [eg_49, un_i (by omega) (by omega) (by omega)]; exact hgs i i0 (by omega)) hP hD hS (lv_sub hl [1, 2, 3, 4, 5, 0] rfl)
        have hz_51 : (0 : Int32).toInt = 0 := by decide
        exact loop101 ((6 * z_32.toInt - (0 : Int32).toInt).toNat + 1) (0 : Int32) f3 _ _ _ (by omega) (by first | assumption | omega) (fun _ _ _ => rfl) (fun i i0 i1 => absurd i1 (by omega)) hP hD hS (lv_sub hl [5, 4, 3, 2, 1, 0] rfl)
      · refine lv_aload_n hx hb dX11_letter_91 rfl (lv_at hl 4 rfl) ?_
        refine lv_iconst (v := 4) hx hb dX11_letter_92 (by decide) ?_
        refine lv_iload_n hx hb dX11_letter_93 rfl (lv_at hl 2 rfl) ?_
        have hz_52 : (4 : Int32).toInt = 4 := by decide
        refine call_g (wr := []) (va_runV (As := [.int 4, .int x6]) (rest := []) ⟨hx, hb, hml, hown, hts⟩ (k_fails l D cI cR cM _  ) (cwV 2 hts gX11_letter_X11_fails rfl rfl rfl (by decide +kernel) ⟨Nat.le_of_ble_eq_true rfl, Nat.le_of_ble_eq_true rfl⟩) (pre_V hK hP hD 0 11 rfl rfl) rfl rfl hl.1 rfl (lv_room (Nat.le_of_ble_eq_true rfl)) dX11_letter_94 ⟨Nat.le_of_ble_eq_true rfl, Nat.le_of_ble_eq_true rfl⟩) hP hD hS hA [0, 1, 2, 3, 4, 5, 6, 7, 8, 9, 10, 11, 12, 13, 14, 15, 16, 17, 18, 19, 20, 21, 22, 23, 24, 25] [] (by with_unfolding_all rfl) rfl (by decide) (by decide) (fun u_53 H locs hw hP hD hS => ?_)
        obtain ⟨r_53, y9_53⟩ := u_53
        have hP : va_P D vwCl (mX mm q jn cI x0 x1 x2 x3 x4 y5_34 y6_34 y7_34 y8_34 y9_53 x10 x11 x10 x13 x14 x15 x16 x17 x18 x19 x20 f0 f1 f2 f3 f4 f5 f6 f7 f8 f9 f10 f11 f12 f13 f14 f15 f16 f17 f18 f19 f20 f21 f22 f23 f24) H := hP
        have hD : va_D A (mX mm q jn cI x0 x1 x2 x3 x4 y5_34 y6_34 y7_34 y8_34 y9_53 x10 x11 x10 x13 x14 x15 x16 x17 x18 x19 x20 f0 f1 f2 f3 f4 f5 f6 f7 f8 f9 f10 f11 f12 f13 f14 f15 f16 f17 f18 f19 f20 f21 f22 f23 f24) := hD
        have hr_53 : (r_53.toInt = (4 : Int32).toInt) := hw
        exact g_iret (r_53, y5_34, y6_34, y7_34, y8_34, y9_53, x10, x10, f3) hx hb hr hlocks hS rfl (⟨show x5.toInt ≤ y5_34.toInt ∧ y5_34.toInt ≤ x2.toInt from (by first | assumption | omega), show TokOK y7_34 y8_34 from (by first | assumption | omega), show r_53.toInt = 0 → x5.toInt < y5_34.toInt ∨ y7_34.toInt = 0 from (by first | assumption | omega), show r_53.toInt = 0 → x10.toInt ≤ x10.toInt ∧ x10.toInt = x10.toInt from (by first | assumption | omega), show r_53.toInt = 0 → x10.toInt - (f6 x11.toInt.toNat).toInt ≤ 24 from (by first | assumption | omega), show r_53.toInt = 0 → CellsX jn f3 0 (6 * x10.toInt) from (fun q => absurd q (by omega))⟩) hP hD hQ (Nat.le_of_ble_eq_true rfl) (Nat.le_of_ble_eq_true rfl) dX11_letter_97
    · refine lv_aload_n hx hb dX11_letter_59 rfl (lv_at hl 4 rfl) ?_
      refine lv_bipush (v := 6) hx hb dX11_letter_60 (by decide) ?_
      refine lv_iload_n hx hb dX11_letter_62 rfl (lv_at hl 2 rfl) ?_
      have hz_54 : (6 : Int32).toInt = 6 := by decide
      refine call_g (wr := []) (va_runV (As := [.int 6, .int x6]) (rest := []) ⟨hx, hb, hml, hown, hts⟩ (k_fails l D cI cR cM _  ) (cwV 2 hts gX11_letter_X11_fails rfl rfl rfl (by decide +kernel) ⟨Nat.le_of_ble_eq_true rfl, Nat.le_of_ble_eq_true rfl⟩) (pre_V hK hP hD 0 11 rfl rfl) rfl rfl hl.1 rfl (lv_room (Nat.le_of_ble_eq_true rfl)) dX11_letter_63 ⟨Nat.le_of_ble_eq_true rfl, Nat.le_of_ble_eq_true rfl⟩) hP hD hS hA [0, 1, 2, 3, 4, 5, 6, 7, 8, 9, 10, 11, 12, 13, 14, 15, 16, 17, 18, 19, 20, 21, 22, 23, 24, 25] [] (by with_unfolding_all rfl) rfl (by decide) (by decide) (fun u_55 H locs hw hP hD hS => ?_)
      obtain ⟨r_55, y9_55⟩ := u_55
      have hP : va_P D vwCl (mX mm q jn cI x0 x1 x2 x3 x4 x5 x6 x7 x8 y9_55 x10 x11 x12 x13 x14 x15 x16 x17 x18 x19 x20 f0 f1 f2 f3 f4 f5 f6 f7 f8 f9 f10 f11 f12 f13 f14 f15 f16 f17 f18 f19 f20 f21 f22 f23 f24) H := hP
      have hD : va_D A (mX mm q jn cI x0 x1 x2 x3 x4 x5 x6 x7 x8 y9_55 x10 x11 x12 x13 x14 x15 x16 x17 x18 x19 x20 f0 f1 f2 f3 f4 f5 f6 f7 f8 f9 f10 f11 f12 f13 f14 f15 f16 f17 f18 f19 f20 f21 f22 f23 f24) := hD
      have hr_55 : (r_55.toInt = (6 : Int32).toInt) := hw
      exact g_iret (r_55, x5, x6, x7, x8, y9_55, x10, x12, f3) hx hb hr hlocks hS rfl (⟨show x5.toInt ≤ x5.toInt ∧ x5.toInt ≤ x2.toInt from (by first | assumption | omega), show TokOK x7 x8 from (by first | assumption | omega), show r_55.toInt = 0 → x5.toInt < x5.toInt ∨ x7.toInt = 0 from (by first | assumption | omega), show r_55.toInt = 0 → x10.toInt ≤ x10.toInt ∧ x12.toInt = x10.toInt from (by first | assumption | omega), show r_55.toInt = 0 → x10.toInt - (f6 x11.toInt.toNat).toInt ≤ 24 from (by first | assumption | omega), show r_55.toInt = 0 → CellsX jn f3 0 (6 * x10.toInt) from (fun q => absurd q (by omega))⟩) hP hD hQ (Nat.le_of_ble_eq_true rfl) (Nat.le_of_ble_eq_true rfl) dX11_letter_66
