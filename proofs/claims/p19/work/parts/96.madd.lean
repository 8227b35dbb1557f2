theorem dX11_add_0 : decode cX11_add 0 = .ok (.aload_n 0, 1) := by decide +kernel
theorem dX11_add_1 : decode cX11_add 1 = .ok (.iload_n 1, 1) := by decide +kernel
theorem dX11_add_2 : decode cX11_add 2 = .ok (.invokevirtual 233, 3) := by decide +kernel
theorem dX11_add_5 : decode cX11_add 5 = .ok (.istore_n 3, 1) := by decide +kernel
theorem dX11_add_6 : decode cX11_add 6 = .ok (.iload_n 2, 1) := by decide +kernel
theorem dX11_add_7 : decode cX11_add 7 = .ok (.iconst 1, 1) := by decide +kernel
theorem dX11_add_8 : decode cX11_add 8 = .ok (.bipush 50, 2) := by decide +kernel
theorem dX11_add_10 : decode cX11_add 10 = .ok (.invokestatic 100, 3) := by decide +kernel
theorem dX11_add_13 : decode cX11_add 13 = .ok (.ifCond .eq 11, 3) := by decide +kernel
theorem dX11_add_16 : decode cX11_add 16 = .ok (.aload_n 0, 1) := by decide +kernel
theorem dX11_add_17 : decode cX11_add 17 = .ok (.iload_n 3, 1) := by decide +kernel
theorem dX11_add_18 : decode cX11_add 18 = .ok (.invokevirtual 286, 3) := by decide +kernel
theorem dX11_add_21 : decode cX11_add 21 = .ok (.ifCond .ne 5, 3) := by decide +kernel
theorem dX11_add_24 : decode cX11_add 24 = .ok (.iconst (-1), 1) := by decide +kernel
theorem dX11_add_25 : decode cX11_add 25 = .ok (.ireturn, 1) := by decide +kernel
theorem dX11_add_26 : decode cX11_add 26 = .ok (.aload_n 0, 1) := by decide +kernel
theorem dX11_add_27 : decode cX11_add 27 = .ok (.getfield 246, 3) := by decide +kernel
theorem dX11_add_30 : decode cX11_add 30 = .ok (.aload_n 0, 1) := by decide +kernel
theorem dX11_add_31 : decode cX11_add 31 = .ok (.getfield 8, 3) := by decide +kernel
theorem dX11_add_34 : decode cX11_add 34 = .ok (.iload_n 3, 1) := by decide +kernel
theorem dX11_add_35 : decode cX11_add 35 = .ok (.iaload, 1) := by decide +kernel
theorem dX11_add_36 : decode cX11_add 36 = .ok (.idiv, 1) := by decide +kernel
theorem dX11_add_37 : decode cX11_add 37 = .ok (.istore 4, 2) := by decide +kernel
theorem dX11_add_39 : decode cX11_add 39 = .ok (.aload_n 0, 1) := by decide +kernel
theorem dX11_add_40 : decode cX11_add 40 = .ok (.iload_n 3, 1) := by decide +kernel
theorem dX11_add_41 : decode cX11_add 41 = .ok (.iconst 0, 1) := by decide +kernel
theorem dX11_add_42 : decode cX11_add 42 = .ok (.invokevirtual 289, 3) := by decide +kernel
theorem dX11_add_45 : decode cX11_add 45 = .ok (.istore 5, 2) := by decide +kernel
theorem dX11_add_47 : decode cX11_add 47 = .ok (.iconst 0, 1) := by decide +kernel
theorem dX11_add_48 : decode cX11_add 48 = .ok (.istore 6, 2) := by decide +kernel
theorem dX11_add_50 : decode cX11_add 50 = .ok (.aload_n 0, 1) := by decide +kernel
theorem dX11_add_51 : decode cX11_add 51 = .ok (.getfield 310, 3) := by decide +kernel
theorem dX11_add_54 : decode cX11_add 54 = .ok (.ifCond .le 31, 3) := by decide +kernel
theorem dX11_add_57 : decode cX11_add 57 = .ok (.iload 4, 2) := by decide +kernel
theorem dX11_add_59 : decode cX11_add 59 = .ok (.aload_n 0, 1) := by decide +kernel
theorem dX11_add_60 : decode cX11_add 60 = .ok (.getfield 313, 3) := by decide +kernel
theorem dX11_add_63 : decode cX11_add 63 = .ok (.if_icmp .eq 5, 3) := by decide +kernel
theorem dX11_add_66 : decode cX11_add 66 = .ok (.iconst (-1), 1) := by decide +kernel
theorem dX11_add_67 : decode cX11_add 67 = .ok (.ireturn, 1) := by decide +kernel
theorem dX11_add_68 : decode cX11_add 68 = .ok (.aload_n 0, 1) := by decide +kernel
theorem dX11_add_69 : decode cX11_add 69 = .ok (.iload 5, 2) := by decide +kernel
theorem dX11_add_71 : decode cX11_add 71 = .ok (.invokevirtual 295, 3) := by decide +kernel
theorem dX11_add_74 : decode cX11_add 74 = .ok (.aload_n 0, 1) := by decide +kernel
theorem dX11_add_75 : decode cX11_add 75 = .ok (.getfield 69, 3) := by decide +kernel
theorem dX11_add_78 : decode cX11_add 78 = .ok (.aload_n 0, 1) := by decide +kernel
theorem dX11_add_79 : decode cX11_add 79 = .ok (.getfield 316, 3) := by decide +kernel
theorem dX11_add_82 : decode cX11_add 82 = .ok (.iaload, 1) := by decide +kernel
theorem dX11_add_83 : decode cX11_add 83 = .ok (.istore 6, 2) := by decide +kernel
theorem dX11_add_85 : decode cX11_add 85 = .ok (.aload_n 0, 1) := by decide +kernel
theorem dX11_add_86 : decode cX11_add 86 = .ok (.getfield 310, 3) := by decide +kernel
theorem dX11_add_89 : decode cX11_add 89 = .ok (.iload 6, 2) := by decide +kernel
theorem dX11_add_91 : decode cX11_add 91 = .ok (.iadd, 1) := by decide +kernel
theorem dX11_add_92 : decode cX11_add 92 = .ok (.iload_n 2, 1) := by decide +kernel
theorem dX11_add_93 : decode cX11_add 93 = .ok (.aload_n 0, 1) := by decide +kernel
theorem dX11_add_94 : decode cX11_add 94 = .ok (.getfield 8, 3) := by decide +kernel
theorem dX11_add_97 : decode cX11_add 97 = .ok (.iload_n 3, 1) := by decide +kernel
theorem dX11_add_98 : decode cX11_add 98 = .ok (.iaload, 1) := by decide +kernel
theorem dX11_add_99 : decode cX11_add 99 = .ok (.imul, 1) := by decide +kernel
theorem dX11_add_100 : decode cX11_add 100 = .ok (.iadd, 1) := by decide +kernel
theorem dX11_add_101 : decode cX11_add 101 = .ok (.sipush 300, 3) := by decide +kernel
theorem dX11_add_104 : decode cX11_add 104 = .ok (.if_icmp .le 5, 3) := by decide +kernel
theorem dX11_add_107 : decode cX11_add 107 = .ok (.iconst (-1), 1) := by decide +kernel
theorem dX11_add_108 : decode cX11_add 108 = .ok (.ireturn, 1) := by decide +kernel
theorem dX11_add_109 : decode cX11_add 109 = .ok (.aload_n 0, 1) := by decide +kernel
theorem dX11_add_110 : decode cX11_add 110 = .ok (.getfield 316, 3) := by decide +kernel
theorem dX11_add_113 : decode cX11_add 113 = .ok (.istore 7, 2) := by decide +kernel
theorem dX11_add_115 : decode cX11_add 115 = .ok (.iconst 0, 1) := by decide +kernel
theorem dX11_add_116 : decode cX11_add 116 = .ok (.istore 8, 2) := by decide +kernel
theorem dX11_add_118 : decode cX11_add 118 = .ok (.iload 8, 2) := by decide +kernel
theorem dX11_add_120 : decode cX11_add 120 = .ok (.iload 6, 2) := by decide +kernel
theorem dX11_add_122 : decode cX11_add 122 = .ok (.if_icmp .ge 33, 3) := by decide +kernel
theorem dX11_add_125 : decode cX11_add 125 = .ok (.aload_n 0, 1) := by decide +kernel
theorem dX11_add_126 : decode cX11_add 126 = .ok (.iload 7, 2) := by decide +kernel
theorem dX11_add_128 : decode cX11_add 128 = .ok (.invokevirtual 298, 3) := by decide +kernel
theorem dX11_add_131 : decode cX11_add 131 = .ok (.istore 9, 2) := by decide +kernel
theorem dX11_add_133 : decode cX11_add 133 = .ok (.aload_n 0, 1) := by decide +kernel
theorem dX11_add_134 : decode cX11_add 134 = .ok (.iload 9, 2) := by decide +kernel
theorem dX11_add_136 : decode cX11_add 136 = .ok (.iconst (-1), 1) := by decide +kernel
theorem dX11_add_137 : decode cX11_add 137 = .ok (.invokevirtual 319, 3) := by decide +kernel
theorem dX11_add_140 : decode cX11_add 140 = .ok (.iload 7, 2) := by decide +kernel
theorem dX11_add_142 : decode cX11_add 142 = .ok (.iload 9, 2) := by decide +kernel
theorem dX11_add_144 : decode cX11_add 144 = .ok (.invokestatic 292, 3) := by decide +kernel
theorem dX11_add_147 : decode cX11_add 147 = .ok (.istore 7, 2) := by decide +kernel
theorem dX11_add_149 : decode cX11_add 149 = .ok (.iinc 8 1, 3) := by decide +kernel
theorem dX11_add_152 : decode cX11_add 152 = .ok (.goto (-34), 3) := by decide +kernel
theorem dX11_add_155 : decode cX11_add 155 = .ok (.iconst 0, 1) := by decide +kernel
theorem dX11_add_156 : decode cX11_add 156 = .ok (.istore 8, 2) := by decide +kernel
theorem dX11_add_158 : decode cX11_add 158 = .ok (.iload 8, 2) := by decide +kernel
theorem dX11_add_160 : decode cX11_add 160 = .ok (.iload_n 2, 1) := by decide +kernel
theorem dX11_add_161 : decode cX11_add 161 = .ok (.aload_n 0, 1) := by decide +kernel
theorem dX11_add_162 : decode cX11_add 162 = .ok (.getfield 8, 3) := by decide +kernel
theorem dX11_add_165 : decode cX11_add 165 = .ok (.iload_n 3, 1) := by decide +kernel
theorem dX11_add_166 : decode cX11_add 166 = .ok (.iaload, 1) := by decide +kernel
theorem dX11_add_167 : decode cX11_add 167 = .ok (.imul, 1) := by decide +kernel
theorem dX11_add_168 : decode cX11_add 168 = .ok (.if_icmp .ge 30, 3) := by decide +kernel
theorem dX11_add_171 : decode cX11_add 171 = .ok (.aload_n 0, 1) := by decide +kernel
theorem dX11_add_172 : decode cX11_add 172 = .ok (.aload_n 0, 1) := by decide +kernel
theorem dX11_add_173 : decode cX11_add 173 = .ok (.iload_n 3, 1) := by decide +kernel
theorem dX11_add_174 : decode cX11_add 174 = .ok (.iload 8, 2) := by decide +kernel
theorem dX11_add_176 : decode cX11_add 176 = .ok (.aload_n 0, 1) := by decide +kernel
theorem dX11_add_177 : decode cX11_add 177 = .ok (.getfield 8, 3) := by decide +kernel
theorem dX11_add_180 : decode cX11_add 180 = .ok (.iload_n 3, 1) := by decide +kernel
theorem dX11_add_181 : decode cX11_add 181 = .ok (.iaload, 1) := by decide +kernel
theorem dX11_add_182 : decode cX11_add 182 = .ok (.irem, 1) := by decide +kernel
theorem dX11_add_183 : decode cX11_add 183 = .ok (.iconst 0, 1) := by decide +kernel
theorem dX11_add_184 : decode cX11_add 184 = .ok (.iconst 0, 1) := by decide +kernel
theorem dX11_add_185 : decode cX11_add 185 = .ok (.invokevirtual 239, 3) := by decide +kernel
theorem dX11_add_188 : decode cX11_add 188 = .ok (.iload_n 1, 1) := by decide +kernel
theorem dX11_add_189 : decode cX11_add 189 = .ok (.invokevirtual 319, 3) := by decide +kernel
theorem dX11_add_192 : decode cX11_add 192 = .ok (.iinc 8 1, 3) := by decide +kernel
theorem dX11_add_195 : decode cX11_add 195 = .ok (.goto (-37), 3) := by decide +kernel
theorem dX11_add_198 : decode cX11_add 198 = .ok (.aload_n 0, 1) := by decide +kernel
theorem dX11_add_199 : decode cX11_add 199 = .ok (.iload 4, 2) := by decide +kernel
theorem dX11_add_201 : decode cX11_add 201 = .ok (.putfield 313, 3) := by decide +kernel
theorem dX11_add_204 : decode cX11_add 204 = .ok (.aload_n 0, 1) := by decide +kernel
theorem dX11_add_205 : decode cX11_add 205 = .ok (.iload 5, 2) := by decide +kernel
theorem dX11_add_207 : decode cX11_add 207 = .ok (.putfield 316, 3) := by decide +kernel
theorem dX11_add_210 : decode cX11_add 210 = .ok (.aload_n 0, 1) := by decide +kernel
theorem dX11_add_211 : decode cX11_add 211 = .ok (.getfield 310, 3) := by decide +kernel
theorem dX11_add_214 : decode cX11_add 214 = .ok (.ireturn, 1) := by decide +kernel
set_option maxRecDepth 20000 in
theorem ggX11_add_X11_rowOf : GoodIn wsX11_add wsX11_rowOf := goodIn_r _ [11, 12, 13, 14, 10, 15, 16, 17, 18, 19, 2, 20, 21, 22, 75, 76, 77, 78, 79, 80, 81, 82, 83, 84, 85, 86, 87, 88, 89, 90, 91, 92, 93, 94, 95, 96, 97, 98, 99, 100, 101, 102, 103, 104, 105, 106, 107, 108, 109, 110, 111, 112, 113, 114, 115, 116, 117, 118, 119, 120, 121] (by decide +kernel) (by decide +kernel)
set_option maxRecDepth 20000 in
theorem gX11_add_X11_rowOf : GoodIn wsX11_add (wsV RX11 233 RX11 yX11_rowOf wsX11_rowOf) := goodIn_app (goodIn_of _ (by decide +kernel)) ggX11_add_X11_rowOf
set_option maxRecDepth 20000 in
theorem ggX11_add_X11_isIn : GoodIn wsX11_add wsX11_isIn := goodIn_r _ [15] (by decide +kernel) (by decide +kernel)
set_option maxRecDepth 20000 in
theorem gX11_add_X11_isIn : GoodIn wsX11_add (va_wsS RX11 100 yX11_isIn wsX11_isIn) := goodIn_app (goodIn_of _ (by decide +kernel)) ggX11_add_X11_isIn
set_option maxRecDepth 100000 in
set_option maxHeartbeats 4000000 in
theorem ggX11_add_X11_isPlainGood : GoodIn wsX11_add wsX11_isPlainGood := goodIn_r _ [26, 27, 28, 29, 10, 30, 31, 32, 33, 34, 35, 2, 36, 1, 37, 38, 39, 40, 41, 42, 43, 44, 45, 46, 47, 48, 49, 75, 76, 77, 78, 79, 80, 81, 82, 83, 84, 85, 86, 87, 88, 89, 90, 91, 92, 93, 94, 95, 96, 97, 98, 99, 100, 101, 102, 103, 104, 105, 106, 107, 108, 109, 110, 111, 112, 113, 114, 115, 116, 117, 118, 119, 120, 121] (by with_unfolding_all rfl) (by decide +kernel)
set_option maxRecDepth 20000 in
theorem gX11_add_X11_isPlainGood : GoodIn wsX11_add (wsV RX11 286 RX11 yX11_isPlainGood wsX11_isPlainGood) := goodIn_app (goodIn_of _ (by decide +kernel)) ggX11_add_X11_isPlainGood
set_option maxRecDepth 20000 in
theorem ggX11_add_X11_stateOf : GoodIn wsX11_add wsX11_stateOf := goodIn_r _ [53, 2, 54, 55, 10, 56, 37, 38, 39, 40, 75, 76, 77, 78, 79, 80, 81, 82, 83, 84, 85, 86, 87, 88, 89, 90, 91, 92, 93, 94, 95, 96, 97, 98, 99, 100, 101, 102, 103, 104, 105, 106, 107, 108, 109, 110, 111, 112, 113, 114, 115, 116, 117, 118, 119, 120, 121] (by decide +kernel) (by decide +kernel)
set_option maxRecDepth 20000 in
theorem gX11_add_X11_stateOf : GoodIn wsX11_add (wsV RX11 289 RX11 yX11_stateOf wsX11_stateOf) := goodIn_app (goodIn_of _ (by decide +kernel)) ggX11_add_X11_stateOf
set_option maxRecDepth 20000 in
theorem ggX11_add_X11_reach : GoodIn wsX11_add wsX11_reach := goodIn_r _ [60, 5, 61, 62, 63, 10, 64, 75, 76, 77, 78, 79, 80, 81, 82, 83, 84, 85, 86, 87, 88, 89, 90, 91, 92, 93, 94, 95, 96, 97, 98, 99, 100, 101, 102, 103, 104, 105, 106, 107, 108, 109, 110, 111, 112, 113, 114, 115, 116, 117, 118, 119, 120, 121] (by decide +kernel) (by decide +kernel)
set_option maxRecDepth 20000 in
theorem gX11_add_X11_reach : GoodIn wsX11_add (wsV RX11 295 RX11 yX11_reach wsX11_reach) := goodIn_app (goodIn_of _ (by decide +kernel)) ggX11_add_X11_reach
set_option maxRecDepth 20000 in
theorem ggX11_add_X11_firstStep : GoodIn wsX11_add wsX11_firstStep := goodIn_r _ [68, 5, 62, 63, 10, 64, 75, 76, 77, 78, 79, 80, 81, 82, 83, 84, 85, 86, 87, 88, 89, 90, 91, 92, 93, 94, 95, 96, 97, 98, 99, 100, 101, 102, 103, 104, 105, 106, 107, 108, 109, 110, 111, 112, 113, 114, 115, 116, 117, 118, 119, 120, 121] (by decide +kernel) (by decide +kernel)
set_option maxRecDepth 20000 in
theorem gX11_add_X11_firstStep : GoodIn wsX11_add (wsV RX11 298 RX11 yX11_firstStep wsX11_firstStep) := goodIn_app (goodIn_of _ (by decide +kernel)) ggX11_add_X11_firstStep
set_option maxRecDepth 20000 in
theorem ggX11_add_X11_note : GoodIn wsX11_add wsX11_note := goodIn_r _ [72, 73, 3, 74, 75, 76, 77, 78, 79, 80, 81, 82, 83, 84, 85, 86, 87, 88, 89, 90, 91, 92, 93, 94, 95, 96, 97, 98, 99, 100, 101, 102, 103, 104, 105, 106, 107, 108, 109, 110, 111, 112, 113, 114, 115, 116, 117, 118, 119, 120, 121] (by decide +kernel) (by decide +kernel)
set_option maxRecDepth 20000 in
theorem gX11_add_X11_note : GoodIn wsX11_add (wsV RX11 319 RX11 yX11_note wsX11_note) := goodIn_app (goodIn_of _ (by decide +kernel)) ggX11_add_X11_note
set_option maxRecDepth 20000 in
theorem ggX11_add_X11_step : GoodIn wsX11_add wsX11_step := goodIn_r _ [64] (by decide +kernel) (by decide +kernel)
set_option maxRecDepth 20000 in
theorem gX11_add_X11_step : GoodIn wsX11_add (va_wsS RX11 292 yX11_step wsX11_step) := goodIn_app (goodIn_of _ (by decide +kernel)) ggX11_add_X11_step
set_option maxRecDepth 20000 in
theorem ggX11_add_X11_heightAt : GoodIn wsX11_add wsX11_heightAt := goodIn_r _ [40, 2, 75, 76, 77, 78, 79, 80, 81, 82, 83, 84, 85, 86, 87, 88, 89, 90, 91, 92, 93, 94, 95, 96, 97, 98, 99, 100, 101, 102, 103, 104, 105, 106, 107, 108, 109, 110, 111, 112, 113, 114, 115, 116, 117, 118, 119, 120, 121] (by decide +kernel) (by decide +kernel)
set_option maxRecDepth 20000 in
theorem gX11_add_X11_heightAt : GoodIn wsX11_add (wsV RX11 239 RX11 yX11_heightAt wsX11_heightAt) := goodIn_app (goodIn_of _ (by decide +kernel)) ggX11_add_X11_heightAt
theorem so_or : ∀ k, k < 9 → ∀ M, M < 2 ^ k → nI M ||| ((1 : Int32) <<< (nI k &&& 31)) = nI (M + 2 ^ k) := by decide +kernel
theorem so_bc : ∀ k, k < 9 → ∀ M, M < 2 ^ k → bc (M + 2 ^ k) = bc M + 1 := by decide +kernel
theorem mod_e {a b : Int} (hb : 0 < b) : (a.tmod b + b) % b = a % b := by
  have e : a.tmod b = a - b * a.tdiv b := Int.tmod_def a b
  have q1 := Int.emod_nonneg a (show b ≠ 0 by omega)
  have q2 := Int.emod_lt_of_pos a hb
  have q3 := Int.emod_add_mul_ediv a b
  refine md_u (k := a / b - a.tdiv b + 1) q1 q2 ?_
  rw [Int.mul_add, Int.mul_sub]
  omega
theorem nI_ofT {x : Int32} (h : 0 ≤ x.toInt) : x = nI x.toInt.toNat := Int32.toInt_inj.mp (by
  have := i_lt x
  rw [nI_toInt (by omega)]; omega)
theorem mulB {a b : Int} (ha : 0 ≤ a ∧ a ≤ 50) (hb : 0 ≤ b ∧ b ≤ 24) : 0 ≤ a * b ∧ a * b ≤ 1200 := by
  have h1 := Int.mul_nonneg ha.1 hb.1
  have h2 : a * b ≤ 50 * b := Int.mul_le_mul_of_nonneg_right ha.2 hb.1
  exact ⟨h1, by omega⟩
theorem cy_PP {R : Nat → Int32} {r n : Int} (hC : CellsX 1 R (r + 1) (r + 1 + 6 * n)) (hZ : ZX 1 R (r + 1) n) (h : ∀ i : Int, 0 ≤ i → i < n → cy_h R r (6 * i + 1) = 0) : cy_P R r n := by
  refine ⟨fun t t0 t1 t2 => ?_, fun t t0 t1 => ?_⟩
  · by_cases e : t % 6 = 1
    · have := h (t / 6) (by omega) (by omega)
      rw [show 6 * (t / 6) + 1 = t by omega] at this
      exact this
    · have z := hZ (t / 6) (t % 6) (by omega) (by omega) (by omega) (by omega)
      rw [show r + 1 + 6 * (t / 6) + t % 6 = r + 1 + t by omega] at z
      unfold cy_h
      omega
  · obtain ⟨a1, a2, a3, a4⟩ := cy_c hC t0 t1
    omega
set_option maxRecDepth 100000 in
set_option maxHeartbeats 4000000 in
theorem k_mod2 (l : Launch) (D : va_G) (cI cR cM : ClassId) (sz : Nat) {a b : Int32}  (h1 : -100000 ≤ a.toInt ∧ a.toInt ≤ 100000) (h2 : 1 ≤ b.toInt ∧ b.toInt ≤ 100000) : Met l yX11_mod wsX11_mod ({ frames := 0, cells := 0, slots := 0, locals := 0 }) (P0 D cI cR cM [.int a, .int b] sz []) (QP (fun r => (r.toInt = a.toInt % b.toInt) ∧ (0 ≤ r.toInt ∧ r.toInt < b.toInt)) sz) 0 0 (va_A [] sz) := by
  refine go (cc := cX11_mod) (maxL := 2) (ret := (some .int)) (by decide) rfl (Nat.le_of_ble_eq_true rfl) ?_
  intro p e s m below meth c ls args Q hQ hsz hx hb hr hml hts hown hlocks hnm hP hK hD hl
  subst hsz
  have hS : va_S (va_A [] s.heap.size) s.heap s.heap [] := va_S.rf
  have hA : ∀ q, s.heap.size ≤ q → va_A [] s.heap.size q := fun q h => Or.inr h
  have hl : lv_has ls 2 [(0, .int a), (1, .int b)] := hl
  refine lv_iload_n hx hb dX11_mod_0 rfl (lv_at hl 0 rfl) ?_
  refine lv_iload_n hx hb dX11_mod_1 rfl (lv_at hl 1 rfl) ?_
  refine a_iremS (u := a.toInt) (v := b.toInt) hx hb dX11_mod_2 (rfl) (rfl) (by omega) (fun z_1 e_1 h_1 k_1 => ?_)
  refine lv_iload_n hx hb dX11_mod_3 rfl (lv_at hl 1 rfl) ?_
  refine a_iadd (u := z_1.toInt) (v := b.toInt) hx hb dX11_mod_4 (rfl) (rfl) (by omega) (fun z_2 e_2 => ?_)
  refine lv_iload_n hx hb dX11_mod_5 rfl (lv_at hl 1 rfl) ?_
  refine a_irem (u := (z_1.toInt + b.toInt)) (v := b.toInt) hx hb dX11_mod_6 (e_2) (rfl) (by omega) (fun z_3 e_3 h_3 k_3 => ?_)
  exact rp_iret hx hb hr hlocks hS (⟨show z_3.toInt = a.toInt % b.toInt from (by
    have q9 := mod_e (a := a.toInt) (b := b.toInt) (by omega)
    rw [← e_1] at q9
    omega), show 0 ≤ z_3.toInt ∧ z_3.toInt < b.toInt from (by first | assumption | omega)⟩) hQ dX11_mod_7
set_option maxRecDepth 100000 in
set_option maxHeartbeats 4000000 in
theorem k_stateOf2 (l : Launch) (D : va_G) (cI cR cM : ClassId) (sz : Nat) {jn mm : Nat} {q : Nat → Nat} {x0 x1 x2 x3 x4 x5 x6 x7 x8 x9 x10 x11 x12 x13 x14 x15 x16 x17 x18 x19 x20 : Int32} {f0 f1 f2 f3 f4 f5 f6 f7 f8 f9 f10 f11 f12 f13 f14 f15 f16 f17 f18 f19 f20 f21 f22 f23 f24 : Nat → Int32} {a b : Int32}  (hj : 1 ≤ jn ∧ jn ≤ 3) (hrow9 : IsRow jn f0 a.toInt) (hb0 : b.toInt = 0) (hzs : ∀ k9 : Nat, k9 < 9 → zs (fun d9 => cy_a f0 a.toInt (f0 a.toInt.toNat).toInt (0 - d9)) k9 (9 - k9) ≤ 1) : Met l yX11_stateOf wsX11_stateOf ({ frames := 1, cells := 0, slots := 0, locals := 24 }) (P0 D cI cR cM [.ref mm, .int a, .int b] sz (mX mm q jn cI x0 x1 x2 x3 x4 x5 x6 x7 x8 x9 x10 x11 x12 x13 x14 x15 x16 x17 x18 x19 x20 f0 f1 f2 f3 f4 f5 f6 f7 f8 f9 f10 f11 f12 f13 f14 f15 f16 f17 f18 f19 f20 f21 f22 f23 f24)) (QP (fun r => (∃ M : Nat, M < 512 ∧ r = nI M ∧ (bc M : Int) = zt (fun d9 => cy_a f0 a.toInt (f0 a.toInt.toNat).toInt (0 - d9)) 9)) sz) 0 0 (va_A [] sz) := by
  refine go (cc := cX11_stateOf) (maxL := 6) (ret := (some .int)) (by decide) rfl (Nat.le_of_ble_eq_true rfl) ?_
  intro p e s m below meth c ls args Q hQ hsz hx hb hr hml hts hown hlocks hnm hP hK hD hl
  subst hsz
  have hS : va_S (va_A [] s.heap.size) s.heap s.heap [] := va_S.rf
  have hA : ∀ q, s.heap.size ≤ q → va_A [] s.heap.size q := fun q h => Or.inr h
  have hl : lv_has ls 6 [(0, .ref mm), (1, .int a), (2, .int b)] := hl
  have hr0 := hrow9
  obtain ⟨hr1, hr2, hr3, hr4, hr5, hr6⟩ := hrow9
  refine lv_iconst (v := 0) hx hb dX11_stateOf_0 (by decide) ?_
  refine lv_istore_n (lv' := [(3, .int 0), (0, .ref mm), (1, .int a), (2, .int b)]) hx hb dX11_stateOf_1 rfl hl (by decide) rfl (fun ls hl => ?_)
  refine lv_iconst (v := 0) hx hb dX11_stateOf_2 (by decide) ?_
  refine lv_istore (lv' := [(4, .int 0), (3, .int 0), (0, .ref mm), (1, .int a), (2, .int b)]) hx hb dX11_stateOf_3 hl (by decide) rfl (fun ls hl => ?_)
  have loop5 : ∀ (ddloop5 : Nat) (se : Int32) (k : Int32) (H : Heap) (locs : List Loc) (ls : Array Slot), (10 - k.toInt).toNat < ddloop5 → (0 ≤ k.toInt ∧ k.toInt ≤ 9) → (∃ M : Nat, M < 2 ^ k.toInt.toNat ∧ se = nI M ∧ (bc M : Int) = zt (fun d9 => cy_a f0 a.toInt (f0 a.toInt.toNat).toInt (0 - d9)) k.toInt.toNat) → va_P D vwCl (mX mm q jn cI x0 x1 x2 x3 x4 x5 x6 x7 x8 x9 x10 x11 x12 x13 x14 x15 x16 x17 x18 x19 x20 f0 f1 f2 f3 f4 f5 f6 f7 f8 f9 f10 f11 f12 f13 f14 f15 f16 f17 f18 f19 f20 f21 f22 f23 f24) H → va_S (va_A [] s.heap.size) s.heap H locs → lv_has ls 6 [(0, .ref mm), (1, .int a), (2, .int b), (3, .int se), (4, .int k)] → W p l e ({ frames := 1, cells := 0, slots := 0, locals := 24 }) s m args below meth c H locs 0 0 Q (F0 m 5 ls []) := by
    intro ddloop5
    induction ddloop5 with
    | zero =>
      intro se k H locs ls hdd
      exact absurd hdd (Nat.not_lt_zero _)
    | succ ddloop5 ih5 =>
      intro se k H locs ls hdd hk hse hP hS hl
      refine lv_iload hx hb dX11_stateOf_5 (lv_at hl 4 rfl) ?_
      refine lv_bipush (v := 9) hx hb dX11_stateOf_7 (by decide) ?_
      refine a_icmp_ge (u := k.toInt) (v := 9) (tgt := 72) hx hb dX11_stateOf_9 (by decide) (rfl) (by decide) (fun c_1 => ?_) (fun c_1 => ?_)
      · refine lv_iload_n hx hb dX11_stateOf_72 rfl (lv_at hl 3 rfl) ?_
        exact rp_iret hx hb hr hlocks hS (show ∃ M : Nat, M < 512 ∧ se = nI M ∧ (bc M : Int) = zt (fun d9 => cy_a f0 a.toInt (f0 a.toInt.toNat).toInt (0 - d9)) 9 from (by
          obtain ⟨M, g1, g2, g3⟩ := hse
          rw [show k.toInt.toNat = 9 by omega] at g1 g3
          exact ⟨M, g1, g2, g3⟩)) hQ dX11_stateOf_73
      · refine lv_iload hx hb dX11_stateOf_12 (lv_at hl 4 rfl) ?_
        refine lv_iconst (v := 1) hx hb dX11_stateOf_14 (by decide) ?_
        refine a_iadd (u := k.toInt) (v := 1) hx hb dX11_stateOf_15 (rfl) (by decide) (by omega) (fun z_2 e_2 => ?_)
        refine lv_istore (lv' := [(5, .int z_2), (0, .ref mm), (1, .int a), (2, .int b), (3, .int se), (4, .int k)]) hx hb dX11_stateOf_16 hl (by decide) rfl (fun ls hl => ?_)
        have loop18 : ∀ (ddloop18 : Nat) (sf : Int32) (h5 : Int32) (H : Heap) (locs : List Loc) (ls : Array Slot), (20 - h5.toInt).toNat < ddloop18 → (k.toInt < h5.toInt ∧ h5.toInt ≤ 10) → (∃ M : Nat, M < 2 ^ k.toInt.toNat ∧ (bc M : Int) = zt (fun d9 => cy_a f0 a.toInt (f0 a.toInt.toNat).toInt (0 - d9)) k.toInt.toNat ∧ ((sf = nI M ∧ zs (fun d9 => cy_a f0 a.toInt (f0 a.toInt.toNat).toInt (0 - d9)) k.toInt.toNat (h5.toInt - k.toInt - 1).toNat = 0) ∨ (sf = nI (M + 2 ^ k.toInt.toNat) ∧ zs (fun d9 => cy_a f0 a.toInt (f0 a.toInt.toNat).toInt (0 - d9)) k.toInt.toNat (h5.toInt - k.toInt - 1).toNat = 1))) → va_P D vwCl (mX mm q jn cI x0 x1 x2 x3 x4 x5 x6 x7 x8 x9 x10 x11 x12 x13 x14 x15 x16 x17 x18 x19 x20 f0 f1 f2 f3 f4 f5 f6 f7 f8 f9 f10 f11 f12 f13 f14 f15 f16 f17 f18 f19 f20 f21 f22 f23 f24) H → va_S (va_A [] s.heap.size) s.heap H locs → lv_has ls 6 [(0, .ref mm), (1, .int a), (2, .int b), (3, .int sf), (4, .int k), (5, .int h5)] → W p l e ({ frames := 1, cells := 0, slots := 0, locals := 24 }) s m args below meth c H locs 0 0 Q (F0 m 18 ls []) := by
          intro ddloop18
          induction ddloop18 with
          | zero =>
            intro sf h5 H locs ls hdd
            exact absurd hdd (Nat.not_lt_zero _)
          | succ ddloop18 ih18 =>
            intro sf h5 H locs ls hdd hh5 hsf hP hS hl
            refine lv_iload hx hb dX11_stateOf_18 (lv_at hl 5 rfl) ?_
            refine lv_bipush (v := 10) hx hb dX11_stateOf_20 (by decide) ?_
            refine a_icmp_ge (u := h5.toInt) (v := 10) (tgt := 66) hx hb dX11_stateOf_22 (by decide) (rfl) (by decide) (fun c_3 => ?_) (fun c_3 => ?_)
            · obtain ⟨z_4, q_4, e_4⟩ := i_inc (a := k.toInt) (1) (rfl) (by decide) (by omega) (by omega)
              refine lv_iinc (v := z_4) (lv' := [(4, .int z_4), (0, .ref mm), (1, .int a), (2, .int b), (3, .int sf), (5, .int h5)]) hx hb dX11_stateOf_66 hl (k := 4) rfl q_4 (by decide) rfl (fun ls hl => ?_)
              refine lv_goto (tgt := 5) hx hb dX11_stateOf_69 (by decide) ?_
              exact ih5 sf z_4 _ _ _ (by omega) (by first | assumption | omega) (by
                obtain ⟨M, g1, g2, g3⟩ := hsf
                have g4 : zt (fun d9 => cy_a f0 a.toInt (f0 a.toInt.toNat).toInt (0 - d9)) z_4.toInt.toNat = zt (fun d9 => cy_a f0 a.toInt (f0 a.toInt.toNat).toInt (0 - d9)) k.toInt.toNat + zs (fun d9 => cy_a f0 a.toInt (f0 a.toInt.toNat).toInt (0 - d9)) k.toInt.toNat (h5.toInt - k.toInt - 1).toNat := by
                  rw [show z_4.toInt.toNat = k.toInt.toNat + 1 by omega]
                  show zt (fun d9 => cy_a f0 a.toInt (f0 a.toInt.toNat).toInt (0 - d9)) k.toInt.toNat + zs (fun d9 => cy_a f0 a.toInt (f0 a.toInt.toNat).toInt (0 - d9)) k.toInt.toNat (9 - k.toInt.toNat) = _
                  rw [show 9 - k.toInt.toNat = (h5.toInt - k.toInt - 1).toNat by omega]
                rcases g3 with ⟨g5, g6⟩ | ⟨g5, g6⟩
                · refine ⟨M, ?_, g5, by rw [g4, g6]; omega⟩
                  rw [show z_4.toInt.toNat = k.toInt.toNat + 1 by omega, Nat.pow_succ]; omega
                · refine ⟨M + 2 ^ k.toInt.toNat, ?_, g5, by rw [g4, g6, so_bc _ (by omega) _ g1]; omega⟩
                  rw [show z_4.toInt.toNat = k.toInt.toNat + 1 by omega, Nat.pow_succ]; omega) hP hS (lv_sub hl [1, 2, 3, 4, 0] rfl)
            · refine lv_aload_n hx hb dX11_stateOf_25 rfl (lv_at hl 0 rfl) ?_
              refine lv_iload_n hx hb dX11_stateOf_26 rfl (lv_at hl 1 rfl) ?_
              refine lv_iload_n hx hb dX11_stateOf_27 rfl (lv_at hl 2 rfl) ?_
              refine lv_iload hx hb dX11_stateOf_28 (lv_at hl 5 rfl) ?_
              refine lv_iload hx hb dX11_stateOf_30 (lv_at hl 4 rfl) ?_
              refine a_isub (u := h5.toInt) (v := k.toInt) hx hb dX11_stateOf_32 (rfl) (rfl) (by omega) (fun z_5 e_5 => ?_)
              refine a_isub (u := b.toInt) (v := (h5.toInt - k.toInt)) hx hb dX11_stateOf_33 (rfl) (e_5) (by omega) (fun z_6 e_6 => ?_)
              refine lv_aload_n hx hb dX11_stateOf_34 rfl (lv_at hl 0 rfl) ?_
              refine va_get (D := D) (ci := 11) (v := .ref (q 0)) (C := RX11) (T := TX11) (N := 47) hx hb hts (by decide +kernel) hown hK.1 hP 0 rfl rfl 1 (by decide) (hts (.fieldLink RX11 8 "JugglingHallModel" "rows" "[I") (by decide +kernel)) (fun _ h9 => h9) rfl dX11_stateOf_35 ?_
              refine lv_iload_n hx hb dX11_stateOf_38 rfl (lv_at hl 1 rfl) ?_
              refine a_iald (f := f0) (u := a.toInt) hx hb hK.1 hP 1 0 rfl rfl dX11_stateOf_39 (rfl) (by omega) (fun z_7 q_7 e_7 => ?_)
              have hn9 : z_7.toInt = (f0 a.toInt.toNat).toInt := e_7
              refine roP (va_runS (As := [.int z_6, .int z_7]) (rest := [.int a, .ref mm]) ⟨hx, hb, hml, hown, hts⟩ (k_mod2 l D cI cR cM _  (by first | assumption | omega) (by first | assumption | omega)) (va_cwS 2 hts gX11_stateOf_X11_mod rfl rfl rfl (by decide +kernel) ⟨Nat.le_of_ble_eq_true rfl, Nat.le_of_ble_eq_true rfl⟩) (pre_S hK va_P_nil (va_D_nil (A := fun _ => True))) rfl rfl hl.1 rfl (lv_room (Nat.le_of_ble_eq_true rfl)) dX11_stateOf_40 ⟨Nat.le_of_ble_eq_true rfl, Nat.le_of_ble_eq_true rfl⟩) hS hA hP (fun r_8 H locs hw hP hS => ?_)
              obtain ⟨h_8, hb_8⟩ : (r_8.toInt = z_6.toInt % z_7.toInt) ∧ (0 ≤ r_8.toInt ∧ r_8.toInt < z_7.toInt) := hw
              refine lv_iconst (v := 0) hx hb dX11_stateOf_43 (by decide) ?_
              refine lv_iconst (v := 0) hx hb dX11_stateOf_44 (by decide) ?_
              have hz_9 : (0 : Int32).toInt = 0 := by decide
              have hz_10 : (0 : Int32).toInt = 0 := by decide
              refine roP (va_runV (As := [.int a, .int r_8, .int 0, .int 0]) (rest := []) ⟨hx, hb, hml, hown, hts⟩ (k_heightAt2 l D cI cR cM _  (by first | assumption | omega) (hr0) (by first | assumption | omega) (by first | assumption | omega) (by first | assumption | omega)) (cwV 4 hts gX11_stateOf_X11_heightAt rfl rfl rfl (by decide +kernel) ⟨Nat.le_of_ble_eq_true rfl, Nat.le_of_ble_eq_true rfl⟩) (pre_V hK hP hD 0 11 rfl rfl) rfl rfl hl.1 rfl (lv_room (Nat.le_of_ble_eq_true rfl)) dX11_stateOf_45 ⟨Nat.le_of_ble_eq_true rfl, Nat.le_of_ble_eq_true rfl⟩) hS hA hP (fun r_11 H locs hw hP hS => ?_)
              obtain ⟨h_11, hx_11⟩ : (0 ≤ r_11.toInt ∧ r_11.toInt ≤ 9) ∧ (r_11.toInt = (f0 (a.toInt + 1 + 6 * r_8.toInt + 2 * (0 : Int32).toInt + (0 : Int32).toInt).toNat).toInt / 4) := hw
              have hAv : r_11.toInt = cy_a f0 a.toInt (f0 a.toInt.toNat).toInt (0 - (h5.toInt - k.toInt)) := by
                rw [hx_11]
                unfold cy_a cy_h
                rw [← hn9]
                congr 3
                have hq := h_8
                rw [show (0 : Int) - (h5.toInt - k.toInt) = z_6.toInt by omega, ← hq]
                have z9 := z32
                omega
              have hzn : ∀ z : Int32, z.toInt = h5.toInt + 1 → zs (fun d9 => cy_a f0 a.toInt (f0 a.toInt.toNat).toInt (0 - d9)) k.toInt.toNat (z.toInt - k.toInt - 1).toNat = zs (fun d9 => cy_a f0 a.toInt (f0 a.toInt.toNat).toInt (0 - d9)) k.toInt.toNat (h5.toInt - k.toInt - 1).toNat + ce (cy_a f0 a.toInt (f0 a.toInt.toNat).toInt (0 - (h5.toInt - k.toInt))) h5.toInt := fun z hz => by
                rw [show (z.toInt - k.toInt - 1).toNat = (h5.toInt - k.toInt - 1).toNat + 1 by omega]
                show zs (fun d9 => cy_a f0 a.toInt (f0 a.toInt.toNat).toInt (0 - d9)) k.toInt.toNat (h5.toInt - k.toInt - 1).toNat + ce (cy_a f0 a.toInt (f0 a.toInt.toNat).toInt (0 - (((h5.toInt - k.toInt - 1).toNat : Int) + 1))) ((k.toInt.toNat : Int) + ((h5.toInt - k.toInt - 1).toNat : Int) + 1) = _
                rw [show (((h5.toInt - k.toInt - 1).toNat : Int) + 1) = h5.toInt - k.toInt by omega, show ((k.toInt.toNat : Int) + ((h5.toInt - k.toInt - 1).toNat : Int) + 1) = h5.toInt by omega]
              refine lv_iload hx hb dX11_stateOf_48 (lv_at hl 5 rfl) ?_
              refine a_icmp_ne (u := r_11.toInt) (v := h5.toInt) (tgt := 60) hx hb dX11_stateOf_50 (by decide) (rfl) (rfl) (fun c_12 => ?_) (fun c_12 => ?_)
              · have hce : ce (cy_a f0 a.toInt (f0 a.toInt.toNat).toInt (0 - (h5.toInt - k.toInt))) h5.toInt = 0 := by
                  unfold ce
                  rw [if_neg (by omega)]
                obtain ⟨z_13, q_13, e_13⟩ := i_inc (a := h5.toInt) (1) (rfl) (by decide) (by omega) (by omega)
                refine lv_iinc (v := z_13) (lv' := [(5, .int z_13), (0, .ref mm), (1, .int a), (2, .int b), (3, .int sf), (4, .int k)]) hx hb dX11_stateOf_60 hl (k := 5) rfl q_13 (by decide) rfl (fun ls hl => ?_)
                refine lv_goto (tgt := 18) hx hb dX11_stateOf_63 (by decide) ?_
                exact ih18 sf z_13 _ _ _ (by omega) (by first | assumption | omega) (by
                  obtain ⟨M, g1, g2, g3⟩ := hsf
                  refine ⟨M, g1, g2, ?_⟩
                  rw [hzn z_13 (by omega), hce]
                  rcases g3 with g3 | g3
                  · exact Or.inl ⟨g3.1, by omega⟩
                  · exact Or.inr ⟨g3.1, by omega⟩) hP hS (lv_sub hl [1, 2, 3, 4, 5, 0] rfl)
              · have hce : ce (cy_a f0 a.toInt (f0 a.toInt.toNat).toInt (0 - (h5.toInt - k.toInt))) h5.toInt = 1 := by
                  unfold ce
                  rw [if_pos (by omega)]
                refine lv_iload_n hx hb dX11_stateOf_53 rfl (lv_at hl 3 rfl) ?_
                refine lv_iconst (v := 1) hx hb dX11_stateOf_54 (by decide) ?_
                refine lv_iload hx hb dX11_stateOf_55 (lv_at hl 4 rfl) ?_
                refine lv_ishl hx hb dX11_stateOf_57 ?_
                refine lv_topi (fun z_14 q_14 => ?_)
                refine lv_ior hx hb dX11_stateOf_58 ?_
                refine lv_topi (fun z_15 q_15 => ?_)
                refine lv_istore_n (lv' := [(3, .int z_15), (0, .ref mm), (1, .int a), (2, .int b), (4, .int k), (5, .int h5)]) hx hb dX11_stateOf_59 rfl hl (by decide) rfl (fun ls hl => ?_)
                obtain ⟨z_16, q_16, e_16⟩ := i_inc (a := h5.toInt) (1) (rfl) (by decide) (by omega) (by omega)
                refine lv_iinc (v := z_16) (lv' := [(5, .int z_16), (3, .int z_15), (0, .ref mm), (1, .int a), (2, .int b), (4, .int k)]) hx hb dX11_stateOf_60 hl (k := 5) rfl q_16 (by decide) rfl (fun ls hl => ?_)
                refine lv_goto (tgt := 18) hx hb dX11_stateOf_63 (by decide) ?_
                exact ih18 z_15 z_16 _ _ _ (by omega) (by first | assumption | omega) (by
                  obtain ⟨M, g1, g2, g3⟩ := hsf
                  have g4 := hzs k.toInt.toNat (by omega)
                  have g5 := zs_mono (fun d9 => cy_a f0 a.toInt (f0 a.toInt.toNat).toInt (0 - d9)) k.toInt.toNat (z_16.toInt - k.toInt - 1).toNat ((9 - k.toInt.toNat) - (z_16.toInt - k.toInt - 1).toNat)
                  rw [show (z_16.toInt - k.toInt - 1).toNat + ((9 - k.toInt.toNat) - (z_16.toInt - k.toInt - 1).toNat) = 9 - k.toInt.toNat by omega] at g5
                  rw [hzn z_16 (by omega), hce] at g5
                  have g6 := zs_nn (fun d9 => cy_a f0 a.toInt (f0 a.toInt.toNat).toInt (0 - d9)) k.toInt.toNat (h5.toInt - k.toInt - 1).toNat
                  refine ⟨M, g1, g2, ?_⟩
                  rw [hzn z_16 (by omega), hce]
                  rcases g3 with g3 | g3
                  · refine Or.inr ⟨?_, by omega⟩
                    have g7 := so_or k.toInt.toNat (by omega) M g1
                    rw [← nI_ofT (show 0 ≤ k.toInt by omega)] at g7
                    rw [q_15, q_14, g3.1]
                    exact g7
                  · omega) hP hS (lv_sub hl [2, 3, 4, 1, 5, 0] rfl)
        exact loop18 ((20 - z_2.toInt).toNat + 1) se z_2 _ _ _ (by omega) (by first | assumption | omega) (by
          obtain ⟨M, g1, g2, g3⟩ := hse
          exact ⟨M, g1, g3, Or.inl ⟨g2, by rw [show (z_2.toInt - k.toInt - 1).toNat = 0 by omega]; rfl⟩⟩) hP hS (lv_sub hl [1, 2, 3, 4, 5, 0] rfl)
  have hz_17 : (0 : Int32).toInt = 0 := by decide
  have hz_18 : (0 : Int32).toInt = 0 := by decide
  exact loop5 ((10 - (0 : Int32).toInt).toNat + 1) (0 : Int32) (0 : Int32) _ _ _ (by omega) (by first | assumption | omega) (⟨0, by decide, rfl, by rw [show (0 : Int32).toInt.toNat = 0 by decide]; rfl⟩) hP hS (lv_sub hl [2, 3, 4, 1, 0] rfl)
set_option maxRecDepth 100000 in
set_option maxHeartbeats 4000000 in
theorem k_isPlainRow2 (l : Launch) (D : va_G) (cI cR cM : ClassId) (sz : Nat) {jn mm : Nat} {q : Nat → Nat} {x0 x1 x2 x3 x4 x5 x6 x7 x8 x9 x10 x11 x12 x13 x14 x15 x16 x17 x18 x19 x20 : Int32} {f0 f1 f2 f3 f4 f5 f6 f7 f8 f9 f10 f11 f12 f13 f14 f15 f16 f17 f18 f19 f20 f21 f22 f23 f24 : Nat → Int32} {a : Int32}  (hj : 1 ≤ jn ∧ jn ≤ 3) (hrow9 : IsRow jn f0 a.toInt) : Met l yX11_isPlainRow wsX11_isPlainRow ({ frames := 1, cells := 0, slots := 0, locals := 24 }) (P0 D cI cR cM [.ref mm, .int a] sz (mX mm q jn cI x0 x1 x2 x3 x4 x5 x6 x7 x8 x9 x10 x11 x12 x13 x14 x15 x16 x17 x18 x19 x20 f0 f1 f2 f3 f4 f5 f6 f7 f8 f9 f10 f11 f12 f13 f14 f15 f16 f17 f18 f19 f20 f21 f22 f23 f24)) (QP (fun r => (r.toInt = 0 ∨ r.toInt = 1) ∧ (r.toInt = 1 → jn = 1) ∧ (r.toInt = 1 → ∀ i9 : Int, 0 ≤ i9 → i9 < (f0 a.toInt.toNat).toInt → cy_h f0 a.toInt (6 * i9 + 1) = 0)) sz) 0 0 (va_A [] sz) := by
  refine go (cc := cX11_isPlainRow) (maxL := 3) (ret := (some .boolean)) (by decide) rfl (Nat.le_of_ble_eq_true rfl) ?_
  intro p e s m below meth c ls args Q hQ hsz hx hb hr hml hts hown hlocks hnm hP hK hD hl
  subst hsz
  have hS : va_S (va_A [] s.heap.size) s.heap s.heap [] := va_S.rf
  have hA : ∀ q, s.heap.size ≤ q → va_A [] s.heap.size q := fun q h => Or.inr h
  have hl : lv_has ls 3 [(0, .ref mm), (1, .int a)] := hl
  have hr0 := hrow9
  obtain ⟨hr1, hr2, hr3, hr4, hr5, hr6⟩ := hrow9
  refine lv_iconst (v := 0) hx hb dX11_isPlainRow_0 (by decide) ?_
  refine lv_istore_n (lv' := [(2, .int 0), (0, .ref mm), (1, .int a)]) hx hb dX11_isPlainRow_1 rfl hl (by decide) rfl (fun ls hl => ?_)
  have loop2 : ∀ (ddloop2 : Nat) (i : Int32) (H : Heap) (locs : List Loc) (ls : Array Slot), (30 - i.toInt).toNat < ddloop2 → (0 ≤ i.toInt ∧ i.toInt ≤ (f0 a.toInt.toNat).toInt) → (∀ i9 : Int, 0 ≤ i9 → i9 < i.toInt → cy_h f0 a.toInt (6 * i9 + 1) = 0) → va_P D vwCl (mX mm q jn cI x0 x1 x2 x3 x4 x5 x6 x7 x8 x9 x10 x11 x12 x13 x14 x15 x16 x17 x18 x19 x20 f0 f1 f2 f3 f4 f5 f6 f7 f8 f9 f10 f11 f12 f13 f14 f15 f16 f17 f18 f19 f20 f21 f22 f23 f24) H → va_S (va_A [] s.heap.size) s.heap H locs → lv_has ls 3 [(0, .ref mm), (1, .int a), (2, .int i)] → W p l e ({ frames := 1, cells := 0, slots := 0, locals := 24 }) s m args below meth c H locs 0 0 Q (F0 m 2 ls []) := by
    intro ddloop2
    induction ddloop2 with
    | zero =>
      intro i H locs ls hdd
      exact absurd hdd (Nat.not_lt_zero _)
    | succ ddloop2 ih2 =>
      intro i H locs ls hdd hi hpl hP hS hl
      refine lv_iload_n hx hb dX11_isPlainRow_2 rfl (lv_at hl 2 rfl) ?_
      refine lv_aload_n hx hb dX11_isPlainRow_3 rfl (lv_at hl 0 rfl) ?_
      refine va_get (D := D) (ci := 11) (v := .ref (q 0)) (C := RX11) (T := TX11) (N := 47) hx hb hts (by decide +kernel) hown hK.1 hP 0 rfl rfl 1 (by decide) (hts (.fieldLink RX11 8 "JugglingHallModel" "rows" "[I") (by decide +kernel)) (fun _ h9 => h9) rfl dX11_isPlainRow_4 ?_
      refine lv_iload_n hx hb dX11_isPlainRow_7 rfl (lv_at hl 1 rfl) ?_
      refine a_iald (f := f0) (u := a.toInt) hx hb hK.1 hP 1 0 rfl rfl dX11_isPlainRow_8 (rfl) (by omega) (fun z_1 q_1 e_1 => ?_)
      have hn9 : z_1.toInt = (f0 a.toInt.toNat).toInt := e_1
      refine a_icmp_ge (u := i.toInt) (v := z_1.toInt) (tgt := 31) hx hb dX11_isPlainRow_9 (by decide) (rfl) (rfl) (fun c_2 => ?_) (fun c_2 => ?_)
      · refine lv_aload_n hx hb dX11_isPlainRow_31 rfl (lv_at hl 0 rfl) ?_
        refine va_get (D := D) (ci := 11) (v := .int (nI jn)) (C := RX11) (T := TX11) (N := 47) hx hb hts (by decide +kernel) hown hK.1 hP 0 rfl rfl 0 (by decide) (hts (.fieldLink RX11 93 "JugglingHallModel" "jugglers" "I") (by decide +kernel)) (fun _ h9 => h9) rfl dX11_isPlainRow_32 ?_
        refine lv_iconst (v := 1) hx hb dX11_isPlainRow_35 (by decide) ?_
        refine a_icmp_ne (u := (jn : Int)) (v := 1) (tgt := 43) hx hb dX11_isPlainRow_36 (by decide) (nI_toInt (by omega)) (by decide) (fun c_3 => ?_) (fun c_3 => ?_)
        · refine lv_iconst (v := 0) hx hb dX11_isPlainRow_43 (by decide) ?_
          have hz_4 : (0 : Int32).toInt = 0 := by decide
          exact rp_zret hx hb hr hlocks hS (by first | exact Or.inl rfl | exact Or.inr rfl) (⟨show (0 : Int32).toInt = 0 ∨ (0 : Int32).toInt = 1 from (by first | assumption | omega), show (0 : Int32).toInt = 1 → jn = 1 from (by first | assumption | omega), show (0 : Int32).toInt = 1 → ∀ i9 : Int, 0 ≤ i9 → i9 < (f0 a.toInt.toNat).toInt → cy_h f0 a.toInt (6 * i9 + 1) = 0 from (fun q => absurd q (by decide))⟩) hQ dX11_isPlainRow_44
        · refine lv_iconst (v := 1) hx hb dX11_isPlainRow_39 (by decide) ?_
          refine lv_goto (tgt := 44) hx hb dX11_isPlainRow_40 (by decide) ?_
          have hz_5 : (1 : Int32).toInt = 1 := by decide
          exact rp_zret hx hb hr hlocks hS (by first | exact Or.inl rfl | exact Or.inr rfl) (⟨show (1 : Int32).toInt = 0 ∨ (1 : Int32).toInt = 1 from (by first | assumption | omega), show (1 : Int32).toInt = 1 → jn = 1 from (by first | assumption | omega), show (1 : Int32).toInt = 1 → ∀ i9 : Int, 0 ≤ i9 → i9 < (f0 a.toInt.toNat).toInt → cy_h f0 a.toInt (6 * i9 + 1) = 0 from (fun _ i9 h8 h9 => hpl i9 h8 (by omega))⟩) hQ dX11_isPlainRow_44
      · refine lv_aload_n hx hb dX11_isPlainRow_12 rfl (lv_at hl 0 rfl) ?_
        refine lv_iload_n hx hb dX11_isPlainRow_13 rfl (lv_at hl 1 rfl) ?_
        refine lv_iload_n hx hb dX11_isPlainRow_14 rfl (lv_at hl 2 rfl) ?_
        refine lv_iconst (v := 0) hx hb dX11_isPlainRow_15 (by decide) ?_
        refine lv_iconst (v := 1) hx hb dX11_isPlainRow_16 (by decide) ?_
        have hz_6 : (0 : Int32).toInt = 0 := by decide
        have hz_7 : (1 : Int32).toInt = 1 := by decide
        refine roP (va_runV (As := [.int a, .int i, .int 0, .int 1]) (rest := []) ⟨hx, hb, hml, hown, hts⟩ (k_heightAt2 l D cI cR cM _  (by first | assumption | omega) (hr0) (by first | assumption | omega) (by first | assumption | omega) (by first | assumption | omega)) (cwV 4 hts gX11_isPlainRow_X11_heightAt rfl rfl rfl (by decide +kernel) ⟨Nat.le_of_ble_eq_true rfl, Nat.le_of_ble_eq_true rfl⟩) (pre_V hK hP hD 0 11 rfl rfl) rfl rfl hl.1 rfl (lv_room (Nat.le_of_ble_eq_true rfl)) dX11_isPlainRow_17 ⟨Nat.le_of_ble_eq_true rfl, Nat.le_of_ble_eq_true rfl⟩) hS hA hP (fun r_8 H locs hw hP hS => ?_)
        obtain ⟨h_8, hx_8⟩ : (0 ≤ r_8.toInt ∧ r_8.toInt ≤ 9) ∧ (r_8.toInt = (f0 (a.toInt + 1 + 6 * i.toInt + 2 * (0 : Int32).toInt + (1 : Int32).toInt).toNat).toInt / 4) := hw
        have hh9 : r_8.toInt = cy_h f0 a.toInt (6 * i.toInt + 1) := by
          rw [hx_8]; unfold cy_h
          congr 3
          have z9 := z32
          have z8 : (1 : Int32).toInt = 1 := by decide
          omega
        refine a_if_le (u := r_8.toInt) (tgt := 25) hx hb dX11_isPlainRow_20 (by decide) (rfl) (fun c_9 => ?_) (fun c_9 => ?_)
        · obtain ⟨z_10, q_10, e_10⟩ := i_inc (a := i.toInt) (1) (rfl) (by decide) (by omega) (by omega)
          refine lv_iinc (v := z_10) (lv' := [(2, .int z_10), (0, .ref mm), (1, .int a)]) hx hb dX11_isPlainRow_25 hl (k := 2) rfl q_10 (by decide) rfl (fun ls hl => ?_)
          refine lv_goto (tgt := 2) hx hb dX11_isPlainRow_28 (by decide) ?_
          exact ih2 z_10 _ _ _ (by omega) (by first | assumption | omega) (fun i9 h8 h9 => by
            by_cases q : i9 = i.toInt
            · rw [q]; omega
            · exact hpl i9 h8 (by omega)) hP hS (lv_sub hl [1, 2, 0] rfl)
        · refine lv_iconst (v := 0) hx hb dX11_isPlainRow_23 (by decide) ?_
          have hz_11 : (0 : Int32).toInt = 0 := by decide
          exact rp_zret hx hb hr hlocks hS (by first | exact Or.inl rfl | exact Or.inr rfl) (⟨show (0 : Int32).toInt = 0 ∨ (0 : Int32).toInt = 1 from (by first | assumption | omega), show (0 : Int32).toInt = 1 → jn = 1 from (by first | assumption | omega), show (0 : Int32).toInt = 1 → ∀ i9 : Int, 0 ≤ i9 → i9 < (f0 a.toInt.toNat).toInt → cy_h f0 a.toInt (6 * i9 + 1) = 0 from (fun q => absurd q (by decide))⟩) hQ dX11_isPlainRow_24
  have hz_12 : (0 : Int32).toInt = 0 := by decide
  exact loop2 ((30 - (0 : Int32).toInt).toNat + 1) (0 : Int32) _ _ _ (by omega) (by first | assumption | omega) (fun i9 h8 h9 => absurd h9 (by omega)) hP hS (lv_sub hl [1, 2, 0] rfl)
set_option maxRecDepth 100000 in
set_option maxHeartbeats 4000000 in
theorem k_isPlainGood2 (l : Launch) (D : va_G) (cI cR cM : ClassId) (sz : Nat) {jn mm : Nat} {q : Nat → Nat} {x0 x1 x2 x3 x4 x5 x6 x7 x8 x9 x10 x11 x12 x13 x14 x15 x16 x17 x18 x19 x20 : Int32} {f0 f1 f2 f3 f4 f5 f6 f7 f8 f9 f10 f11 f12 f13 f14 f15 f16 f17 f18 f19 f20 f21 f22 f23 f24 : Nat → Int32} {a : Int32}  (hj : 1 ≤ jn ∧ jn ≤ 3) (hr0 : a.toInt = -1 ∨ (IsRow jn f0 a.toInt ∧ ZX jn f0 (a.toInt + 1) (f0 a.toInt.toNat).toInt)) : Met l yX11_isPlainGood wsX11_isPlainGood ({ frames := 3, cells := 0, slots := 0, locals := 70 }) (P0 D cI cR cM [.ref mm, .int a] sz (mX mm q jn cI x0 x1 x2 x3 x4 x5 x6 x7 x8 x9 x10 x11 x12 x13 x14 x15 x16 x17 x18 x19 x20 f0 f1 f2 f3 f4 f5 f6 f7 f8 f9 f10 f11 f12 f13 f14 f15 f16 f17 f18 f19 f20 f21 f22 f23 f24)) (QG (S := Int32 × Int32 × Int32 × (Nat → Int32)) (fun u => some (.int u.1)) (fun u => mX mm q jn cI x0 x1 x2 x3 x4 x5 x6 x7 x8 x9 x10 x11 x12 x13 x14 (u.2.1) (u.2.2.1) x17 x18 x19 x20 f0 f1 f2 f3 f4 f5 f6 f7 f8 f9 f10 f11 (u.2.2.2) f13 f14 f15 f16 f17 f18 f19 f20 f21 f22 f23 f24) (fun u => (u.1.toInt = 0 ∨ u.1.toInt = 1) ∧ (u.1.toInt = 1 → 0 ≤ a.toInt) ∧ (u.1.toInt = 1 → u.2.2.1.toInt = cy_S f0 a.toInt (6 * (f0 a.toInt.toNat).toInt).toNat) ∧ (u.1.toInt = 1 → cy_G f0 a.toInt (f0 a.toInt.toNat).toInt) ∧ (u.1.toInt = 1 → cy_P f0 a.toInt (f0 a.toInt.toNat).toInt)) D (va_A (mX mm q jn cI x0 x1 x2 x3 x4 x5 x6 x7 x8 x9 x10 x11 x12 x13 x14 x15 x16 x17 x18 x19 x20 f0 f1 f2 f3 f4 f5 f6 f7 f8 f9 f10 f11 f12 f13 f14 f15 f16 f17 f18 f19 f20 f21 f22 f23 f24) sz)) 0 0 (va_A (mX mm q jn cI x0 x1 x2 x3 x4 x5 x6 x7 x8 x9 x10 x11 x12 x13 x14 x15 x16 x17 x18 x19 x20 f0 f1 f2 f3 f4 f5 f6 f7 f8 f9 f10 f11 f12 f13 f14 f15 f16 f17 f18 f19 f20 f21 f22 f23 f24) sz) := by
  refine go (cc := cX11_isPlainGood) (maxL := 2) (ret := (some .boolean)) (by decide) rfl (Nat.le_of_ble_eq_true rfl) ?_
  intro p e s m below meth c ls args Q hQ hsz hx hb hr hml hts hown hlocks hnm hP hK hD hl
  subst hsz
  have hD := hD.self (sz := s.heap.size)
  generalize hAe : va_A (mX mm q jn cI x0 x1 x2 x3 x4 x5 x6 x7 x8 x9 x10 x11 x12 x13 x14 x15 x16 x17 x18 x19 x20 f0 f1 f2 f3 f4 f5 f6 f7 f8 f9 f10 f11 f12 f13 f14 f15 f16 f17 f18 f19 f20 f21 f22 f23 f24) s.heap.size = A at hD hQ
  have hA : ∀ q, s.heap.size ≤ q → A q := fun q h => by rw [← hAe]; exact Or.inr h
  have hS : va_S A s.heap s.heap [] := va_S.rf
  have hl : lv_has ls 2 [(0, .ref mm), (1, .int a)] := hl
  refine lv_aload_n hx hb dX11_isPlainGood_0 rfl (lv_at hl 0 rfl) ?_
  refine lv_iload_n hx hb dX11_isPlainGood_1 rfl (lv_at hl 1 rfl) ?_
  refine call_g (wr := []) (va_runV (As := [.int a]) (rest := []) ⟨hx, hb, hml, hown, hts⟩ (k_isGood2 l D cI cR cM _  (by first | assumption | omega) (hr0.imp id (fun q => q.1))) (cwV 1 hts gX11_isPlainGood_X11_isGood rfl rfl rfl (by decide +kernel) ⟨Nat.le_of_ble_eq_true rfl, Nat.le_of_ble_eq_true rfl⟩) (pre_V hK hP hD 0 11 rfl rfl) rfl rfl hl.1 rfl (lv_room (Nat.le_of_ble_eq_true rfl)) dX11_isPlainGood_2 ⟨Nat.le_of_ble_eq_true rfl, Nat.le_of_ble_eq_true rfl⟩) hP hD hS hA [0, 1, 2, 3, 4, 5, 6, 7, 8, 9, 10, 11, 12, 13, 14, 15, 16, 17, 18, 19, 20, 21, 22, 23, 24, 25] [] (by with_unfolding_all rfl) rfl (by decide) (by decide) (fun u_1 H locs hw hP hD hS => ?_)
  obtain ⟨r_1, y15_1, y16_1, g12_1⟩ := u_1
  have hP : va_P D vwCl (mX mm q jn cI x0 x1 x2 x3 x4 x5 x6 x7 x8 x9 x10 x11 x12 x13 x14 y15_1 y16_1 x17 x18 x19 x20 f0 f1 f2 f3 f4 f5 f6 f7 f8 f9 f10 f11 g12_1 f13 f14 f15 f16 f17 f18 f19 f20 f21 f22 f23 f24) H := hP
  have hD : va_D A (mX mm q jn cI x0 x1 x2 x3 x4 x5 x6 x7 x8 x9 x10 x11 x12 x13 x14 y15_1 y16_1 x17 x18 x19 x20 f0 f1 f2 f3 f4 f5 f6 f7 f8 f9 f10 f11 g12_1 f13 f14 f15 f16 f17 f18 f19 f20 f21 f22 f23 f24) := hD
  obtain ⟨h_1, hg_1, hs_1, hG_1⟩ : (r_1.toInt = 0 ∨ r_1.toInt = 1) ∧ (r_1.toInt = 1 → 0 ≤ a.toInt) ∧ (r_1.toInt = 1 → y16_1.toInt = cy_S f0 a.toInt (6 * (f0 a.toInt.toNat).toInt).toNat) ∧ (r_1.toInt = 1 → cy_G f0 a.toInt (f0 a.toInt.toNat).toInt) := hw
  refine a_if_eq (u := r_1.toInt) (tgt := 20) hx hb dX11_isPlainGood_5 (by decide) (rfl) (fun c_2 => ?_) (fun c_2 => ?_)
  · refine lv_iconst (v := 0) hx hb dX11_isPlainGood_20 (by decide) ?_
    have hz_3 : (0 : Int32).toInt = 0 := by decide
    exact g_zret ((0 : Int32), y15_1, y16_1, g12_1) hx hb hr hlocks hS (by first | exact Or.inl rfl | exact Or.inr rfl) rfl (⟨show (0 : Int32).toInt = 0 ∨ (0 : Int32).toInt = 1 from (by first | assumption | omega), show (0 : Int32).toInt = 1 → 0 ≤ a.toInt from (by first | assumption | omega), show (0 : Int32).toInt = 1 → y16_1.toInt = cy_S f0 a.toInt (6 * (f0 a.toInt.toNat).toInt).toNat from (fun q => absurd q (by decide)), show (0 : Int32).toInt = 1 → cy_G f0 a.toInt (f0 a.toInt.toNat).toInt from (fun q => absurd q (by decide)), show (0 : Int32).toInt = 1 → cy_P f0 a.toInt (f0 a.toInt.toNat).toInt from (fun q => absurd q (by decide))⟩) hP hD hQ (Nat.le_of_ble_eq_true rfl) (Nat.le_of_ble_eq_true rfl) dX11_isPlainGood_21
  · refine lv_aload_n hx hb dX11_isPlainGood_8 rfl (lv_at hl 0 rfl) ?_
    refine lv_iload_n hx hb dX11_isPlainGood_9 rfl (lv_at hl 1 rfl) ?_
    refine roP (va_runV (As := [.int a]) (rest := []) ⟨hx, hb, hml, hown, hts⟩ (k_isPlainRow2 l D cI cR cM _  (by first | assumption | omega) ((hr0.resolve_left (by omega)).1)) (cwV 1 hts gX11_isPlainGood_X11_isPlainRow rfl rfl rfl (by decide +kernel) ⟨Nat.le_of_ble_eq_true rfl, Nat.le_of_ble_eq_true rfl⟩) (pre_V hK hP hD 0 11 rfl rfl) rfl rfl hl.1 rfl (lv_room (Nat.le_of_ble_eq_true rfl)) dX11_isPlainGood_10 ⟨Nat.le_of_ble_eq_true rfl, Nat.le_of_ble_eq_true rfl⟩) hS hA hP (fun r_4 H locs hw hP hS => ?_)
    obtain ⟨h_4, hp_4, hpl_4⟩ : (r_4.toInt = 0 ∨ r_4.toInt = 1) ∧ (r_4.toInt = 1 → jn = 1) ∧ (r_4.toInt = 1 → ∀ i9 : Int, 0 ≤ i9 → i9 < (f0 a.toInt.toNat).toInt → cy_h f0 a.toInt (6 * i9 + 1) = 0) := hw
    refine a_if_eq (u := r_4.toInt) (tgt := 20) hx hb dX11_isPlainGood_13 (by decide) (rfl) (fun c_5 => ?_) (fun c_5 => ?_)
    · refine lv_iconst (v := 0) hx hb dX11_isPlainGood_20 (by decide) ?_
      have hz_6 : (0 : Int32).toInt = 0 := by decide
      exact g_zret ((0 : Int32), y15_1, y16_1, g12_1) hx hb hr hlocks hS (by first | exact Or.inl rfl | exact Or.inr rfl) rfl (⟨show (0 : Int32).toInt = 0 ∨ (0 : Int32).toInt = 1 from (by first | assumption | omega), show (0 : Int32).toInt = 1 → 0 ≤ a.toInt from (by first | assumption | omega), show (0 : Int32).toInt = 1 → y16_1.toInt = cy_S f0 a.toInt (6 * (f0 a.toInt.toNat).toInt).toNat from (fun q => absurd q (by decide)), show (0 : Int32).toInt = 1 → cy_G f0 a.toInt (f0 a.toInt.toNat).toInt from (fun q => absurd q (by decide)), show (0 : Int32).toInt = 1 → cy_P f0 a.toInt (f0 a.toInt.toNat).toInt from (fun q => absurd q (by decide))⟩) hP hD hQ (Nat.le_of_ble_eq_true rfl) (Nat.le_of_ble_eq_true rfl) dX11_isPlainGood_21
    · refine lv_iconst (v := 1) hx hb dX11_isPlainGood_16 (by decide) ?_
      refine lv_goto (tgt := 21) hx hb dX11_isPlainGood_17 (by decide) ?_
      have hz_7 : (1 : Int32).toInt = 1 := by decide
      exact g_zret ((1 : Int32), y15_1, y16_1, g12_1) hx hb hr hlocks hS (by first | exact Or.inl rfl | exact Or.inr rfl) rfl (⟨show (1 : Int32).toInt = 0 ∨ (1 : Int32).toInt = 1 from (by first | assumption | omega), show (1 : Int32).toInt = 1 → 0 ≤ a.toInt from (by first | assumption | omega), show (1 : Int32).toInt = 1 → y16_1.toInt = cy_S f0 a.toInt (6 * (f0 a.toInt.toNat).toInt).toNat from (fun _ => hs_1 (by omega)), show (1 : Int32).toInt = 1 → cy_G f0 a.toInt (f0 a.toInt.toNat).toInt from (fun _ => hG_1 (by omega)), show (1 : Int32).toInt = 1 → cy_P f0 a.toInt (f0 a.toInt.toNat).toInt from (fun _ => by
        have q1 := hp_4 (by omega)
        have q2 := hpl_4 (by omega)
        have q3 := hr0.resolve_left (by omega)
        have q4 := q3.1.2.2.2.2.2
        have q5 := q3.2
        rw [q1] at q4 q5
        exact cy_PP q4 q5 q2)⟩) hP hD hQ (Nat.le_of_ble_eq_true rfl) (Nat.le_of_ble_eq_true rfl) dX11_isPlainGood_21
set_option maxRecDepth 100000 in
set_option maxHeartbeats 4000000 in
theorem k_add (l : Launch) (D : va_G) (cI cR cM : ClassId) (sz : Nat) {jn mm : Nat} {q : Nat → Nat} {x0 x1 x2 x3 x4 x5 x6 x7 x8 x9 x10 x11 x12 x13 x14 x15 x16 x17 x18 x19 x20 : Int32} {f0 f1 f2 f3 f4 f5 f6 f7 f8 f9 f10 f11 f12 f13 f14 f15 f16 f17 f18 f19 f20 f21 f22 f23 f24 : Nat → Int32} {a9 b : Int32}  (hj : 1 ≤ jn ∧ jn ≤ 3) (h0 : 0 ≤ x0.toInt ∧ x0.toInt ≤ 60) (h1 : 0 ≤ x1.toInt ∧ x1.toInt ≤ 60) (hR : RowsX jn f0) (hRZ : RowsZ jn f0) (h18 : 0 ≤ x18.toInt ∧ x18.toInt ≤ 300) (hsc : 0 < x18.toInt → ∃ S : Nat, S < 512 ∧ x20 = nI S ∧ (bc S : Int) = x19.toInt) (hwt : ∀ j9 : Nat, j9 < 512 → f18 j9 = 0) : Met l yX11_add wsX11_add ({ frames := 4, cells := 0, slots := 0, locals := 91 }) (P0 D cI cR cM [.ref mm, .int a9, .int b] sz (mX mm q jn cI x0 x1 x2 x3 x4 x5 x6 x7 x8 x9 x10 x11 x12 x13 x14 x15 x16 x17 x18 x19 x20 f0 f1 f2 f3 f4 f5 f6 f7 f8 f9 f10 f11 f12 f13 f14 f15 f16 f17 f18 f19 f20 f21 f22 f23 f24)) (QG (S := Int32 × Int32 × Int32 × Int32 × Int32 × Int32 × (Nat → Int32) × (Nat → Int32) × (Nat → Int32) × (Nat → Int32) × (Nat → Int32)) (fun u => some (.int u.1)) (fun u => mX mm q jn cI x0 x1 x2 x3 x4 x5 x6 x7 x8 x9 x10 x11 x12 x13 x14 (u.2.1) (u.2.2.1) x17 (u.2.2.2.1) (u.2.2.2.2.1) (u.2.2.2.2.2.1) f0 f1 f2 f3 f4 f5 f6 f7 f8 f9 f10 f11 (u.2.2.2.2.2.2.1) f13 f14 f15 f16 (u.2.2.2.2.2.2.2.1) (u.2.2.2.2.2.2.2.2.1) f19 f20 (u.2.2.2.2.2.2.2.2.2.1) (u.2.2.2.2.2.2.2.2.2.2) f23 f24) (fun u => (0 ≤ u.2.2.2.1.toInt ∧ u.2.2.2.1.toInt ≤ 300) ∧ (0 < u.2.2.2.1.toInt → ∃ S : Nat, S < 512 ∧ u.2.2.2.2.2.1 = nI S ∧ (bc S : Int) = u.2.2.2.2.1.toInt) ∧ (∀ j9 : Nat, j9 < 512 → u.2.2.2.2.2.2.2.2.1 j9 = 0)) D (va_A (mX mm q jn cI x0 x1 x2 x3 x4 x5 x6 x7 x8 x9 x10 x11 x12 x13 x14 x15 x16 x17 x18 x19 x20 f0 f1 f2 f3 f4 f5 f6 f7 f8 f9 f10 f11 f12 f13 f14 f15 f16 f17 f18 f19 f20 f21 f22 f23 f24) sz)) 0 0 (va_A (mX mm q jn cI x0 x1 x2 x3 x4 x5 x6 x7 x8 x9 x10 x11 x12 x13 x14 x15 x16 x17 x18 x19 x20 f0 f1 f2 f3 f4 f5 f6 f7 f8 f9 f10 f11 f12 f13 f14 f15 f16 f17 f18 f19 f20 f21 f22 f23 f24) sz) := by
  refine go (cc := cX11_add) (maxL := 10) (ret := (some .int)) (by decide) rfl (Nat.le_of_ble_eq_true rfl) ?_
  intro p e s m below meth c ls args Q hQ hsz hx hb hr hml hts hown hlocks hnm hP hK hD hl
  subst hsz
  have hD := hD.self (sz := s.heap.size)
  generalize hAe : va_A (mX mm q jn cI x0 x1 x2 x3 x4 x5 x6 x7 x8 x9 x10 x11 x12 x13 x14 x15 x16 x17 x18 x19 x20 f0 f1 f2 f3 f4 f5 f6 f7 f8 f9 f10 f11 f12 f13 f14 f15 f16 f17 f18 f19 f20 f21 f22 f23 f24) s.heap.size = A at hD hQ
  have hA : ∀ q, s.heap.size ≤ q → A q := fun q h => by rw [← hAe]; exact Or.inr h
  have hS : va_S A s.heap s.heap [] := va_S.rf
  have hl : lv_has ls 10 [(0, .ref mm), (1, .int a9), (2, .int b)] := hl
  refine lv_aload_n hx hb dX11_add_0 rfl (lv_at hl 0 rfl) ?_
  refine lv_iload_n hx hb dX11_add_1 rfl (lv_at hl 1 rfl) ?_
  refine roP (va_runV (As := [.int a9]) (rest := []) ⟨hx, hb, hml, hown, hts⟩ (k_rowOf2 l D cI cR cM _  (by first | assumption | omega) (by first | assumption | omega) (by first | assumption | omega)) (cwV 1 hts gX11_add_X11_rowOf rfl rfl rfl (by decide +kernel) ⟨Nat.le_of_ble_eq_true rfl, Nat.le_of_ble_eq_true rfl⟩) (pre_V hK hP hD 0 11 rfl rfl) rfl rfl hl.1 rfl (lv_room (Nat.le_of_ble_eq_true rfl)) dX11_add_2 ⟨Nat.le_of_ble_eq_true rfl, Nat.le_of_ble_eq_true rfl⟩) hS hA hP (fun r_1 H locs hw hP hS => ?_)
  obtain ⟨h_1, hle_1⟩ : (r_1.toInt = -1 ∨ (IsRow jn f0 r_1.toInt ∧ ZX jn f0 (r_1.toInt + 1) (f0 r_1.toInt.toNat).toInt)) ∧ (r_1.toInt ≤ 150 * (8 * x1.toInt + 7)) := hw
  refine lv_istore_n (lv' := [(3, .int r_1), (0, .ref mm), (1, .int a9), (2, .int b)]) hx hb dX11_add_5 rfl hl (by decide) rfl (fun ls hl => ?_)
  refine lv_iload_n hx hb dX11_add_6 rfl (lv_at hl 3 rfl) ?_
  refine lv_iconst (v := 1) hx hb dX11_add_7 (by decide) ?_
  refine lv_bipush (v := 50) hx hb dX11_add_8 (by decide) ?_
  have hz_2 : (1 : Int32).toInt = 1 := by decide
  have hz_3 : (50 : Int32).toInt = 50 := by decide
  refine roP (va_runS (As := [.int b, .int 1, .int 50]) (rest := []) ⟨hx, hb, hml, hown, hts⟩ (k_isIn l D cI cR cM _  ) (va_cwS 3 hts gX11_add_X11_isIn rfl rfl rfl (by decide +kernel) ⟨Nat.le_of_ble_eq_true rfl, Nat.le_of_ble_eq_true rfl⟩) (pre_S hK va_P_nil (va_D_nil (A := fun _ => True))) rfl rfl hl.1 rfl (lv_room (Nat.le_of_ble_eq_true rfl)) dX11_add_10 ⟨Nat.le_of_ble_eq_true rfl, Nat.le_of_ble_eq_true rfl⟩) hS hA hP (fun r_4 H locs hw hP hS => ?_)
  have h_4 : ((r_4.toInt = 1 ∧ (1 : Int32).toInt ≤ b.toInt ∧ b.toInt ≤ (50 : Int32).toInt) ∨ (r_4.toInt = 0 ∧ (b.toInt < (1 : Int32).toInt ∨ (50 : Int32).toInt < b.toInt))) := hw
  refine a_if_eq (u := r_4.toInt) (tgt := 24) hx hb dX11_add_13 (by decide) (rfl) (fun c_5 => ?_) (fun c_5 => ?_)
  · refine lv_iconst (v := (-1)) hx hb dX11_add_24 (by decide) ?_
    have hz_6 : (-1 : Int32).toInt = (-1) := by decide
    exact g_iret ((-1 : Int32), x15, x16, x18, x19, x20, f12, f17, f18, f21, f22) hx hb hr hlocks hS rfl (⟨show 0 ≤ x18.toInt ∧ x18.toInt ≤ 300 from (by first | assumption | omega), show 0 < x18.toInt → ∃ S : Nat, S < 512 ∧ x20 = nI S ∧ (bc S : Int) = x19.toInt from (hsc), show ∀ j9 : Nat, j9 < 512 → f18 j9 = 0 from (hwt)⟩) hP hD hQ (Nat.le_of_ble_eq_true rfl) (Nat.le_of_ble_eq_true rfl) dX11_add_25
  · refine lv_aload_n hx hb dX11_add_16 rfl (lv_at hl 1 rfl) ?_
    refine lv_iload_n hx hb dX11_add_17 rfl (lv_at hl 0 rfl) ?_
    refine call_g (wr := []) (va_runV (As := [.int r_1]) (rest := []) ⟨hx, hb, hml, hown, hts⟩ (k_isPlainGood2 l D cI cR cM _  (by first | assumption | omega) (h_1)) (cwV 1 hts gX11_add_X11_isPlainGood rfl rfl rfl (by decide +kernel) ⟨Nat.le_of_ble_eq_true rfl, Nat.le_of_ble_eq_true rfl⟩) (pre_V hK hP hD 0 11 rfl rfl) rfl rfl hl.1 rfl (lv_room (Nat.le_of_ble_eq_true rfl)) dX11_add_18 ⟨Nat.le_of_ble_eq_true rfl, Nat.le_of_ble_eq_true rfl⟩) hP hD hS hA [0, 1, 2, 3, 4, 5, 6, 7, 8, 9, 10, 11, 12, 13, 14, 15, 16, 17, 18, 19, 20, 21, 22, 23, 24, 25] [] (by with_unfolding_all rfl) rfl (by decide) (by decide) (fun u_7 H locs hw hP hD hS => ?_)
    obtain ⟨r_7, y15_7, y16_7, g12_7⟩ := u_7
    have hP : va_P D vwCl (mX mm q jn cI x0 x1 x2 x3 x4 x5 x6 x7 x8 x9 x10 x11 x12 x13 x14 y15_7 y16_7 x17 x18 x19 x20 f0 f1 f2 f3 f4 f5 f6 f7 f8 f9 f10 f11 g12_7 f13 f14 f15 f16 f17 f18 f19 f20 f21 f22 f23 f24) H := hP
    have hD : va_D A (mX mm q jn cI x0 x1 x2 x3 x4 x5 x6 x7 x8 x9 x10 x11 x12 x13 x14 y15_7 y16_7 x17 x18 x19 x20 f0 f1 f2 f3 f4 f5 f6 f7 f8 f9 f10 f11 g12_7 f13 f14 f15 f16 f17 f18 f19 f20 f21 f22 f23 f24) := hD
    obtain ⟨h_7, hg_7, hs_7, hG_7, hp_7⟩ : (r_7.toInt = 0 ∨ r_7.toInt = 1) ∧ (r_7.toInt = 1 → 0 ≤ r_1.toInt) ∧ (r_7.toInt = 1 → y16_7.toInt = cy_S f0 r_1.toInt (6 * (f0 r_1.toInt.toNat).toInt).toNat) ∧ (r_7.toInt = 1 → cy_G f0 r_1.toInt (f0 r_1.toInt.toNat).toInt) ∧ (r_7.toInt = 1 → cy_P f0 r_1.toInt (f0 r_1.toInt.toNat).toInt) := hw
    refine a_if_ne (u := r_7.toInt) (tgt := 26) hx hb dX11_add_21 (by decide) (rfl) (fun c_8 => ?_) (fun c_8 => ?_)
    · obtain ⟨hr0, hZ9⟩ := h_1.resolve_left (by omega)
      have hrow9 := hr0
      obtain ⟨hr1, hr2, hr3, hr4, hr5, hr6⟩ := hrow9
      have hG9 := hG_7 (by omega)
      have hP9 := hp_7 (by omega)
      have hsum := hs_7 (by omega)
      have hba := cy_balls hr3 hr6 hP9 hG9
      have hsb := cy_Sb hr6 (6 * (f0 r_1.toInt.toNat).toInt).toNat (by omega)
      refine lv_aload_n hx hb dX11_add_26 rfl (lv_at hl 1 rfl) ?_
      refine va_get (D := D) (ci := 11) (v := .int y16_7) (C := RX11) (T := TX11) (N := 47) hx hb hts (by decide +kernel) hown hK.1 hP 0 rfl rfl 29 (by decide) (hts (.fieldLink RX11 246 "JugglingHallModel" "sum" "I") (by decide +kernel)) (fun _ h9 => h9) rfl dX11_add_27 ?_
      refine lv_aload_n hx hb dX11_add_30 rfl (lv_at hl 1 rfl) ?_
      refine va_get (D := D) (ci := 11) (v := .ref (q 0)) (C := RX11) (T := TX11) (N := 47) hx hb hts (by decide +kernel) hown hK.1 hP 0 rfl rfl 1 (by decide) (hts (.fieldLink RX11 8 "JugglingHallModel" "rows" "[I") (by decide +kernel)) (fun _ h9 => h9) rfl dX11_add_31 ?_
      refine lv_iload_n hx hb dX11_add_34 rfl (lv_at hl 0 rfl) ?_
      refine a_iald (f := f0) (u := r_1.toInt) hx hb hK.1 hP 1 0 rfl rfl dX11_add_35 (rfl) (by omega) (fun z_9 q_9 e_9 => ?_)
      have hn9 : z_9.toInt = (f0 r_1.toInt.toNat).toInt := e_9
      refine a_idiv (u := y16_7.toInt) (v := z_9.toInt) hx hb dX11_add_36 (rfl) (rfl) (by omega) (fun z_10 e_10 => ?_)
      have hbl : z_10.toInt = bE (fun d9 => cy_a f0 r_1.toInt (f0 r_1.toInt.toNat).toInt (0 - d9)) := by rw [← hba, ← hsum, ← hn9]; exact e_10
      refine lv_istore (lv' := [(4, .int z_10), (3, .int r_1), (0, .ref mm), (1, .int a9), (2, .int b)]) hx hb dX11_add_37 hl (by decide) rfl (fun ls hl => ?_)
      refine lv_aload_n hx hb dX11_add_39 rfl (lv_at hl 2 rfl) ?_
      refine lv_iload_n hx hb dX11_add_40 rfl (lv_at hl 1 rfl) ?_
      refine lv_iconst (v := 0) hx hb dX11_add_41 (by decide) ?_
      have hz_11 : (0 : Int32).toInt = 0 := by decide
      refine roP (va_runV (As := [.int r_1, .int 0]) (rest := []) ⟨hx, hb, hml, hown, hts⟩ (k_stateOf2 l D cI cR cM _  (by first | assumption | omega) (hr0) (by omega) (fun k9 hk9 => cy_zs hr3 hr6 hP9 hG9 k9 hk9)) (cwV 2 hts gX11_add_X11_stateOf rfl rfl rfl (by decide +kernel) ⟨Nat.le_of_ble_eq_true rfl, Nat.le_of_ble_eq_true rfl⟩) (pre_V hK hP hD 0 11 rfl rfl) rfl rfl hl.1 rfl (lv_room (Nat.le_of_ble_eq_true rfl)) dX11_add_42 ⟨Nat.le_of_ble_eq_true rfl, Nat.le_of_ble_eq_true rfl⟩) hS hA hP (fun r_12 H locs hw hP hS => ?_)
      have h_12 : (∃ M : Nat, M < 512 ∧ r_12 = nI M ∧ (bc M : Int) = zt (fun d9 => cy_a f0 r_1.toInt (f0 r_1.toInt.toNat).toInt (0 - d9)) 9) := hw
      obtain ⟨M0, hM1, hM2, hM3⟩ := h_12
      rw [zt_9 _ (fun d => (cy_ab hr3 hr6).2)] at hM3
      refine lv_istore (lv' := [(5, .int r_12), (4, .int z_10), (3, .int r_1), (0, .ref mm), (1, .int a9), (2, .int b)]) hx hb dX11_add_45 hl (by decide) rfl (fun ls hl => ?_)
      refine lv_iconst (v := 0) hx hb dX11_add_47 (by decide) ?_
      refine lv_istore (lv' := [(6, .int 0), (5, .int r_12), (4, .int z_10), (3, .int r_1), (0, .ref mm), (1, .int a9), (2, .int b)]) hx hb dX11_add_48 hl (by decide) rfl (fun ls hl => ?_)
      refine lv_aload_n hx hb dX11_add_50 rfl (lv_at hl 4 rfl) ?_
      refine va_get (D := D) (ci := 11) (v := .int x18) (C := RX11) (T := TX11) (N := 47) hx hb hts (by decide +kernel) hown hK.1 hP 0 rfl rfl 42 (by decide) (hts (.fieldLink RX11 310 "JugglingHallModel" "scored" "I") (by decide +kernel)) (fun _ h9 => h9) rfl dX11_add_51 ?_
      refine a_if_le (u := x18.toInt) (tgt := 85) hx hb dX11_add_54 (by decide) (rfl) (fun c_13 => ?_) (fun c_13 => ?_)
      · refine lv_aload_n hx hb dX11_add_85 rfl (lv_at hl 4 rfl) ?_
        refine va_get (D := D) (ci := 11) (v := .int x18) (C := RX11) (T := TX11) (N := 47) hx hb hts (by decide +kernel) hown hK.1 hP 0 rfl rfl 42 (by decide) (hts (.fieldLink RX11 310 "JugglingHallModel" "scored" "I") (by decide +kernel)) (fun _ h9 => h9) rfl dX11_add_86 ?_
        refine lv_iload hx hb dX11_add_89 (lv_at hl 0 rfl) ?_
        refine a_iadd (u := x18.toInt) (v := 0) hx hb dX11_add_91 (rfl) (by decide) (by omega) (fun z_14 e_14 => ?_)
        refine lv_iload_n hx hb dX11_add_92 rfl (lv_at hl 6 rfl) ?_
        refine lv_aload_n hx hb dX11_add_93 rfl (lv_at hl 4 rfl) ?_
        refine va_get (D := D) (ci := 11) (v := .ref (q 0)) (C := RX11) (T := TX11) (N := 47) hx hb hts (by decide +kernel) hown hK.1 hP 0 rfl rfl 1 (by decide) (hts (.fieldLink RX11 8 "JugglingHallModel" "rows" "[I") (by decide +kernel)) (fun _ h9 => h9) rfl dX11_add_94 ?_
        refine lv_iload_n hx hb dX11_add_97 rfl (lv_at hl 3 rfl) ?_
        refine a_iald (f := f0) (u := r_1.toInt) hx hb hK.1 hP 1 0 rfl rfl dX11_add_98 (rfl) (by omega) (fun z_15 q_15 e_15 => ?_)
        have hN_15 : z_15.toInt = (f0 r_1.toInt.toNat).toInt := e_15
        have hmA16 : b.toInt * z_15.toInt = b.toInt * (f0 r_1.toInt.toNat).toInt := by rw [show z_15.toInt = (f0 r_1.toInt.toNat).toInt by omega]
        have hmB16 := mulB (a := b.toInt) (b := (f0 r_1.toInt.toNat).toInt) (by omega) (by omega)
        refine a_imul (u := b.toInt) (v := z_15.toInt) hx hb dX11_add_99 (rfl) (rfl) (by omega) (fun z_17 e_17 => ?_)
        refine a_iadd (u := (x18.toInt + 0)) (v := (b.toInt * z_15.toInt)) hx hb dX11_add_100 (e_14) (e_17) (by omega) (fun z_18 e_18 => ?_)
        refine lv_sipush (v := 300) hx hb dX11_add_101 (by decide) ?_
        refine a_icmp_le (u := ((x18.toInt + 0) + (b.toInt * z_15.toInt))) (v := 300) (tgt := 109) hx hb dX11_add_104 (by decide) (e_18) (by decide) (fun c_19 => ?_) (fun c_19 => ?_)
        · refine lv_aload_n hx hb dX11_add_109 rfl (lv_at hl 4 rfl) ?_
          refine va_get (D := D) (ci := 11) (v := .int x20) (C := RX11) (T := TX11) (N := 47) hx hb hts (by decide +kernel) hown hK.1 hP 0 rfl rfl 44 (by decide) (hts (.fieldLink RX11 316 "JugglingHallModel" "scoreState" "I") (by decide +kernel)) (fun _ h9 => h9) rfl dX11_add_110 ?_
          refine lv_istore (lv' := [(7, .int x20), (6, .int 0), (5, .int r_12), (4, .int z_10), (3, .int r_1), (0, .ref mm), (1, .int a9), (2, .int b)]) hx hb dX11_add_113 hl (by decide) rfl (fun ls hl => ?_)
          refine lv_iconst (v := 0) hx hb dX11_add_115 (by decide) ?_
          refine lv_istore (lv' := [(8, .int 0), (7, .int x20), (6, .int 0), (5, .int r_12), (4, .int z_10), (3, .int r_1), (0, .ref mm), (1, .int a9), (2, .int b)]) hx hb dX11_add_116 hl (by decide) rfl (fun ls hl => ?_)
          have loop118 : ∀ (ddloop118 : Nat) (k : Int32) (H : Heap) (locs : List Loc) (ls : Array Slot), (10 - k.toInt).toNat < ddloop118 → (k.toInt = 0) → va_P D vwCl (mX mm q jn cI x0 x1 x2 x3 x4 x5 x6 x7 x8 x9 x10 x11 x12 x13 x14 y15_7 y16_7 x17 x18 x19 x20 f0 f1 f2 f3 f4 f5 f6 f7 f8 f9 f10 f11 g12_7 f13 f14 f15 f16 f17 f18 f19 f20 f21 f22 f23 f24) H → va_D A (mX mm q jn cI x0 x1 x2 x3 x4 x5 x6 x7 x8 x9 x10 x11 x12 x13 x14 y15_7 y16_7 x17 x18 x19 x20 f0 f1 f2 f3 f4 f5 f6 f7 f8 f9 f10 f11 g12_7 f13 f14 f15 f16 f17 f18 f19 f20 f21 f22 f23 f24) → va_S A s.heap H locs → lv_has ls 10 [(0, .ref mm), (1, .int a9), (2, .int b), (3, .int r_1), (4, .int z_10), (5, .int r_12), (6, .int 0), (7, .int x20), (8, .int k)] → W p l e ({ frames := 4, cells := 0, slots := 0, locals := 91 }) s m args below meth c H locs 0 0 Q (F0 m 118 ls []) := by
            intro ddloop118
            induction ddloop118 with
            | zero =>
              intro k H locs ls hdd
              exact absurd hdd (Nat.not_lt_zero _)
            | succ ddloop118 ih118 =>
              intro k H locs ls hdd hk hP hD hS hl
              refine lv_iload hx hb dX11_add_118 (lv_at hl 8 rfl) ?_
              refine lv_iload hx hb dX11_add_120 (lv_at hl 6 rfl) ?_
              refine a_icmp_ge (u := k.toInt) (v := 0) (tgt := 155) hx hb dX11_add_122 (by decide) (rfl) (by decide) (fun c_20 => ?_) (fun c_20 => absurd c_20 (by omega))
              refine lv_iconst (v := 0) hx hb dX11_add_155 (by decide) ?_
              refine lv_istore (lv' := [(8, .int 0), (0, .ref mm), (1, .int a9), (2, .int b), (3, .int r_1), (4, .int z_10), (5, .int r_12), (6, .int 0), (7, .int x20)]) hx hb dX11_add_156 hl (by decide) rfl (fun ls hl => ?_)
              have loop158 : ∀ (ddloop158 : Nat) (k2 : Int32) (b18 : Int32) (gc : (Nat → Int32)) (gd : (Nat → Int32)) (H : Heap) (locs : List Loc) (ls : Array Slot), (1300 - k2.toInt).toNat < ddloop158 → (0 ≤ k2.toInt ∧ k2.toInt ≤ b.toInt * (f0 r_1.toInt.toNat).toInt) → (b18.toInt = x18.toInt + 0 + k2.toInt) → va_P D vwCl (mX mm q jn cI x0 x1 x2 x3 x4 x5 x6 x7 x8 x9 x10 x11 x12 x13 x14 y15_7 y16_7 x17 b18 x19 x20 f0 f1 f2 f3 f4 f5 f6 f7 f8 f9 f10 f11 g12_7 f13 f14 f15 f16 f17 f18 f19 f20 gc gd f23 f24) H → va_D A (mX mm q jn cI x0 x1 x2 x3 x4 x5 x6 x7 x8 x9 x10 x11 x12 x13 x14 y15_7 y16_7 x17 b18 x19 x20 f0 f1 f2 f3 f4 f5 f6 f7 f8 f9 f10 f11 g12_7 f13 f14 f15 f16 f17 f18 f19 f20 gc gd f23 f24) → va_S A s.heap H locs → lv_has ls 10 [(0, .ref mm), (1, .int a9), (2, .int b), (3, .int r_1), (4, .int z_10), (5, .int r_12), (6, .int 0), (7, .int x20), (8, .int k2)] → W p l e ({ frames := 4, cells := 0, slots := 0, locals := 91 }) s m args below meth c H locs 0 0 Q (F0 m 158 ls []) := by
                intro ddloop158
                induction ddloop158 with
                | zero =>
                  intro k2 b18 gc gd H locs ls hdd
                  exact absurd hdd (Nat.not_lt_zero _)
                | succ ddloop158 ih158 =>
                  intro k2 b18 gc gd H locs ls hdd hk2 hb18 hP hD hS hl
                  refine lv_iload hx hb dX11_add_158 (lv_at hl 8 rfl) ?_
                  refine lv_iload_n hx hb dX11_add_160 rfl (lv_at hl 2 rfl) ?_
                  refine lv_aload_n hx hb dX11_add_161 rfl (lv_at hl 0 rfl) ?_
                  refine va_get (D := D) (ci := 11) (v := .ref (q 0)) (C := RX11) (T := TX11) (N := 47) hx hb hts (by decide +kernel) hown hK.1 hP 0 rfl rfl 1 (by decide) (hts (.fieldLink RX11 8 "JugglingHallModel" "rows" "[I") (by decide +kernel)) (fun _ h9 => h9) rfl dX11_add_162 ?_
                  refine lv_iload_n hx hb dX11_add_165 rfl (lv_at hl 3 rfl) ?_
                  refine a_iald (f := f0) (u := r_1.toInt) hx hb hK.1 hP 1 0 rfl rfl dX11_add_166 (rfl) (by omega) (fun z_21 q_21 e_21 => ?_)
                  have hN_21 : z_21.toInt = (f0 r_1.toInt.toNat).toInt := e_21
                  have hmA22 : b.toInt * z_21.toInt = b.toInt * (f0 r_1.toInt.toNat).toInt := by rw [show z_21.toInt = (f0 r_1.toInt.toNat).toInt by omega]
                  have hmB22 := mulB (a := b.toInt) (b := (f0 r_1.toInt.toNat).toInt) (by omega) (by omega)
                  refine a_imul (u := b.toInt) (v := z_21.toInt) hx hb dX11_add_167 (rfl) (rfl) (by omega) (fun z_23 e_23 => ?_)
                  refine a_icmp_ge (u := k2.toInt) (v := (b.toInt * z_21.toInt)) (tgt := 198) hx hb dX11_add_168 (by decide) (rfl) (e_23) (fun c_24 => ?_) (fun c_24 => ?_)
                  · refine lv_aload_n hx hb dX11_add_198 rfl (lv_at hl 0 rfl) ?_
                    refine lv_iload hx hb dX11_add_199 (lv_at hl 4 rfl) ?_
                    refine mp_19 hx hb hts (by decide +kernel) hown hK hP hD hS (hts (.fieldLink RX11 313 "JugglingHallModel" "scoreBalls" "I") (by decide +kernel)) dX11_add_201 (fun H locs hP hD hS => ?_)
                    refine lv_aload_n hx hb dX11_add_204 rfl (lv_at hl 0 rfl) ?_
                    refine lv_iload hx hb dX11_add_205 (lv_at hl 5 rfl) ?_
                    refine mp_20 hx hb hts (by decide +kernel) hown hK hP hD hS (hts (.fieldLink RX11 316 "JugglingHallModel" "scoreState" "I") (by decide +kernel)) dX11_add_207 (fun H locs hP hD hS => ?_)
                    refine lv_aload_n hx hb dX11_add_210 rfl (lv_at hl 0 rfl) ?_
                    refine va_get (D := D) (ci := 11) (v := .int b18) (C := RX11) (T := TX11) (N := 47) hx hb hts (by decide +kernel) hown hK.1 hP 0 rfl rfl 42 (by decide) (hts (.fieldLink RX11 310 "JugglingHallModel" "scored" "I") (by decide +kernel)) (fun _ h9 => h9) rfl dX11_add_211 ?_
                    exact g_iret (b18, y15_7, y16_7, b18, z_10, r_12, g12_7, f17, f18, gc, gd) hx hb hr hlocks hS rfl (⟨show 0 ≤ b18.toInt ∧ b18.toInt ≤ 300 from (by first | assumption | omega), show 0 < b18.toInt → ∃ S : Nat, S < 512 ∧ r_12 = nI S ∧ (bc S : Int) = z_10.toInt from (fun _ => ⟨M0, hM1, hM2, by omega⟩), show ∀ j9 : Nat, j9 < 512 → f18 j9 = 0 from (hwt)⟩) hP hD hQ (Nat.le_of_ble_eq_true rfl) (Nat.le_of_ble_eq_true rfl) dX11_add_214
                  · refine lv_aload_n hx hb dX11_add_171 rfl (lv_at hl 0 rfl) ?_
                    refine lv_aload_n hx hb dX11_add_172 rfl (lv_at hl 0 rfl) ?_
                    refine lv_iload_n hx hb dX11_add_173 rfl (lv_at hl 3 rfl) ?_
                    refine lv_iload hx hb dX11_add_174 (lv_at hl 8 rfl) ?_
                    refine lv_aload_n hx hb dX11_add_176 rfl (lv_at hl 0 rfl) ?_
                    refine va_get (D := D) (ci := 11) (v := .ref (q 0)) (C := RX11) (T := TX11) (N := 47) hx hb hts (by decide +kernel) hown hK.1 hP 0 rfl rfl 1 (by decide) (hts (.fieldLink RX11 8 "JugglingHallModel" "rows" "[I") (by decide +kernel)) (fun _ h9 => h9) rfl dX11_add_177 ?_
                    refine lv_iload_n hx hb dX11_add_180 rfl (lv_at hl 3 rfl) ?_
                    refine a_iald (f := f0) (u := r_1.toInt) hx hb hK.1 hP 1 0 rfl rfl dX11_add_181 (rfl) (by omega) (fun z_25 q_25 e_25 => ?_)
                    have hN_25 : z_25.toInt = (f0 r_1.toInt.toNat).toInt := e_25
                    refine a_irem (u := k2.toInt) (v := z_25.toInt) hx hb dX11_add_182 (rfl) (rfl) (by omega) (fun z_26 e_26 h_26 k_26 => ?_)
                    refine lv_iconst (v := 0) hx hb dX11_add_183 (by decide) ?_
                    refine lv_iconst (v := 0) hx hb dX11_add_184 (by decide) ?_
                    have hz_27 : (0 : Int32).toInt = 0 := by decide
                    have hz_28 : (0 : Int32).toInt = 0 := by decide
                    refine roP (va_runV (As := [.int r_1, .int z_26, .int 0, .int 0]) (rest := [.ref mm]) ⟨hx, hb, hml, hown, hts⟩ (k_heightAt2 l D cI cR cM _  (by first | assumption | omega) (hr0) (by first | assumption | omega) (by first | assumption | omega) (by first | assumption | omega)) (cwV 4 hts gX11_add_X11_heightAt rfl rfl rfl (by decide +kernel) ⟨Nat.le_of_ble_eq_true rfl, Nat.le_of_ble_eq_true rfl⟩) (pre_V hK hP hD 0 11 rfl rfl) rfl rfl hl.1 rfl (lv_room (Nat.le_of_ble_eq_true rfl)) dX11_add_185 ⟨Nat.le_of_ble_eq_true rfl, Nat.le_of_ble_eq_true rfl⟩) hS hA hP (fun r_29 H locs hw hP hS => ?_)
                    obtain ⟨h_29, hx_29⟩ : (0 ≤ r_29.toInt ∧ r_29.toInt ≤ 9) ∧ (r_29.toInt = (f0 (r_1.toInt + 1 + 6 * z_26.toInt + 2 * (0 : Int32).toInt + (0 : Int32).toInt).toNat).toInt / 4) := hw
                    refine lv_iload_n hx hb dX11_add_188 rfl (lv_at hl 1 rfl) ?_
                    refine call_g (wr := []) (va_runV (As := [.int r_29, .int a9]) (rest := []) ⟨hx, hb, hml, hown, hts⟩ (k_note l D cI cR cM _  (by first | assumption | omega)) (cwV 2 hts gX11_add_X11_note rfl rfl rfl (by decide +kernel) ⟨Nat.le_of_ble_eq_true rfl, Nat.le_of_ble_eq_true rfl⟩) (pre_V hK hP hD 0 11 rfl rfl) rfl rfl hl.1 rfl (lv_room (Nat.le_of_ble_eq_true rfl)) dX11_add_189 ⟨Nat.le_of_ble_eq_true rfl, Nat.le_of_ble_eq_true rfl⟩) hP hD hS hA [0, 1, 2, 3, 4, 5, 6, 7, 8, 9, 10, 11, 12, 13, 14, 15, 16, 17, 18, 19, 20, 21, 22, 23, 24, 25] [] (by with_unfolding_all rfl) rfl (by decide) (by decide) (fun u_30 H locs hw hP hD hS => ?_)
                    obtain ⟨y18_30, g21_30, g22_30⟩ := u_30
                    have hP : va_P D vwCl (mX mm q jn cI x0 x1 x2 x3 x4 x5 x6 x7 x8 x9 x10 x11 x12 x13 x14 y15_7 y16_7 x17 y18_30 x19 x20 f0 f1 f2 f3 f4 f5 f6 f7 f8 f9 f10 f11 g12_7 f13 f14 f15 f16 f17 f18 f19 f20 g21_30 g22_30 f23 f24) H := hP
                    have hD : va_D A (mX mm q jn cI x0 x1 x2 x3 x4 x5 x6 x7 x8 x9 x10 x11 x12 x13 x14 y15_7 y16_7 x17 y18_30 x19 x20 f0 f1 f2 f3 f4 f5 f6 f7 f8 f9 f10 f11 g12_7 f13 f14 f15 f16 f17 f18 f19 f20 g21_30 g22_30 f23 f24) := hD
                    have h_30 : (y18_30.toInt = b18.toInt + 1) := hw
                    obtain ⟨z_31, q_31, e_31⟩ := i_inc (a := k2.toInt) (1) (rfl) (by decide) (by omega) (by omega)
                    refine lv_iinc (v := z_31) (lv' := [(8, .int z_31), (0, .ref mm), (1, .int a9), (2, .int b), (3, .int r_1), (4, .int z_10), (5, .int r_12), (6, .int 0), (7, .int x20)]) hx hb dX11_add_192 hl (k := 8) rfl q_31 (by decide) rfl (fun ls hl => ?_)
                    refine lv_goto (tgt := 158) hx hb dX11_add_195 (by decide) ?_
                    exact ih158 z_31 y18_30 g21_30 g22_30 _ _ _ (by omega) (by first | assumption | omega) (by first | assumption | omega) hP hD hS (lv_sub hl [1, 2, 3, 4, 5, 6, 7, 8, 0] rfl)
              have hz_32 : (0 : Int32).toInt = 0 := by decide
              exact loop158 ((1300 - (0 : Int32).toInt).toNat + 1) (0 : Int32) x18 f21 f22 _ _ _ (by omega) (by first | assumption | omega) (by first | assumption | omega) hP hD hS (lv_sub hl [1, 2, 3, 4, 5, 6, 7, 8, 0] rfl)
          have hz_33 : (0 : Int32).toInt = 0 := by decide
          exact loop118 ((10 - (0 : Int32).toInt).toNat + 1) (0 : Int32) _ _ _ (by omega) (by first | assumption | omega) hP hD hS (lv_sub hl [6, 7, 8, 5, 4, 3, 2, 1, 0] rfl)
        · refine lv_iconst (v := (-1)) hx hb dX11_add_107 (by decide) ?_
          have hz_34 : (-1 : Int32).toInt = (-1) := by decide
          exact g_iret ((-1 : Int32), y15_7, y16_7, x18, x19, x20, g12_7, f17, f18, f21, f22) hx hb hr hlocks hS rfl (⟨show 0 ≤ x18.toInt ∧ x18.toInt ≤ 300 from (by first | assumption | omega), show 0 < x18.toInt → ∃ S : Nat, S < 512 ∧ x20 = nI S ∧ (bc S : Int) = x19.toInt from (hsc), show ∀ j9 : Nat, j9 < 512 → f18 j9 = 0 from (hwt)⟩) hP hD hQ (Nat.le_of_ble_eq_true rfl) (Nat.le_of_ble_eq_true rfl) dX11_add_108
      · refine lv_iload hx hb dX11_add_57 (lv_at hl 2 rfl) ?_
        refine lv_aload_n hx hb dX11_add_59 rfl (lv_at hl 4 rfl) ?_
        refine va_get (D := D) (ci := 11) (v := .int x19) (C := RX11) (T := TX11) (N := 47) hx hb hts (by decide +kernel) hown hK.1 hP 0 rfl rfl 43 (by decide) (hts (.fieldLink RX11 313 "JugglingHallModel" "scoreBalls" "I") (by decide +kernel)) (fun _ h9 => h9) rfl dX11_add_60 ?_
        refine a_icmp_eq (u := (y16_7.toInt / z_9.toInt)) (v := x19.toInt) (tgt := 68) hx hb dX11_add_63 (by decide) (e_10) (rfl) (fun c_35 => ?_) (fun c_35 => ?_)
        · refine lv_aload_n hx hb dX11_add_68 rfl (lv_at hl 4 rfl) ?_
          refine lv_iload hx hb dX11_add_69 (lv_at hl 1 rfl) ?_
          refine lv_eqi (y := nI M0) hM2 ?_
          have hPc := hP.sub (ws' := [(mm, .inr (11, mXF q jn x0 x1 x2 x3 x4 x5 x6 x7 x8 x9 x10 x11 x12 x13 x14 y15_7 y16_7 x17 x18 x19 x20)), (q 17, .inl (cI, 512, .inl f17)), (q 18, .inl (cI, 512, .inl f18))]) [0, 18, 19] (by with_unfolding_all rfl)
          have hDc := hD.sub (ws' := [(mm, .inr (11, mXF q jn x0 x1 x2 x3 x4 x5 x6 x7 x8 x9 x10 x11 x12 x13 x14 y15_7 y16_7 x17 x18 x19 x20)), (q 17, .inl (cI, 512, .inl f17)), (q 18, .inl (cI, 512, .inl f18))]) [0, 18, 19] (by decide) (by with_unfolding_all rfl)
          refine call_g (wr := [(q 0, .inl (cI, 73200, .inl f0)), (q 1, .inl (cI, 488, .inl f1)), (q 2, .inl (cI, 300, .inl f2)), (q 3, .inl (cI, 2400, .inl f3)), (q 4, .inl (cI, 6, .inl f4)), (q 5, .inl (cI, 6, .inl f5)), (q 6, .inl (cI, 7, .inl f6)), (q 7, .inl (cI, 144, .inl f7)), (q 8, .inl (cI, 8, .inl f8)), (q 9, .inl (cI, 1152, .inl f9)), (q 10, .inl (cI, 8, .inl f10)), (q 11, .inl (cI, 8, .inl f11)), (q 12, .inl (cI, 72, .inl g12_7)), (q 13, .inl (cI, 144, .inl f13)), (q 14, .inl (cI, 144, .inl f14)), (q 15, .inl (cI, 144, .inl f15)), (q 16, .inl (cI, 6, .inl f16)), (q 19, .inl (cI, 11, .inl f19)), (q 20, .inl (cI, 11, .inl f20)), (q 21, .inl (cI, 300, .inl f21)), (q 22, .inl (cI, 300, .inl f22)), (q 23, .inl (cI, 8, .inl f23)), (q 24, .inl (cI, 8, .inl f24))]) (va_runV (As := [.int (nI M0)]) (rest := []) ⟨hx, hb, hml, hown, hts⟩ (c_reach l D cI cR cM _ hM1 mm (mXF q jn x0 x1 x2 x3 x4 x5 x6 x7 x8 x9 x10 x11 x12 x13 x14 y15_7 y16_7 x17 x18 x19 x20) (q 17) (q 18) rfl rfl f17 f18 hwt) (cwV 1 hts gX11_add_X11_reach rfl rfl rfl (by decide +kernel) ⟨Nat.le_of_ble_eq_true rfl, Nat.le_of_ble_eq_true rfl⟩) (pre_V hK hPc hDc 0 11 rfl rfl) rfl rfl hl.1 rfl (lv_room (Nat.le_of_ble_eq_true rfl)) dX11_add_71 ⟨Nat.le_of_ble_eq_true rfl, Nat.le_of_ble_eq_true rfl⟩) hP hD hS hA [0, 18, 19] [1, 2, 3, 4, 5, 6, 7, 8, 9, 10, 11, 12, 13, 14, 15, 16, 17, 20, 21, 22, 23, 24, 25] (by with_unfolding_all rfl) (by with_unfolding_all rfl) (by decide) (by decide) (fun u_36 H locs hw hP hD hS => ?_)
          obtain ⟨far9, wt9⟩ := u_36
          obtain ⟨hFF, hwt9⟩ : FF M0 far9 ∧ ∀ j, j < 512 → wt9 j = 0 := hw
          have hP : va_P D vwCl (mX mm q jn cI x0 x1 x2 x3 x4 x5 x6 x7 x8 x9 x10 x11 x12 x13 x14 y15_7 y16_7 x17 x18 x19 x20 f0 f1 f2 f3 f4 f5 f6 f7 f8 f9 f10 f11 g12_7 f13 f14 f15 f16 far9 wt9 f19 f20 f21 f22 f23 f24) H := hP.sub [23, 0, 1, 2, 3, 4, 5, 6, 7, 8, 9, 10, 11, 12, 13, 14, 15, 16, 24, 25, 17, 18, 19, 20, 21, 22] (by with_unfolding_all rfl)
          have hD : va_D A (mX mm q jn cI x0 x1 x2 x3 x4 x5 x6 x7 x8 x9 x10 x11 x12 x13 x14 y15_7 y16_7 x17 x18 x19 x20 f0 f1 f2 f3 f4 f5 f6 f7 f8 f9 f10 f11 g12_7 f13 f14 f15 f16 far9 wt9 f19 f20 f21 f22 f23 f24) := hD.sub [23, 0, 1, 2, 3, 4, 5, 6, 7, 8, 9, 10, 11, 12, 13, 14, 15, 16, 24, 25, 17, 18, 19, 20, 21, 22] (by decide) (by with_unfolding_all rfl)
          obtain ⟨S9, hS1, hS2, hS3⟩ := hsc (by omega)
          obtain ⟨m9, hm1, hm2⟩ := FF_ge hFF hS1 hM1 (by omega)
          have hx20 : x20.toInt = (S9 : Int) := by rw [hS2]; exact nI_toInt (by omega)
          obtain ⟨ls9, hq1, hq2, hq3⟩ := hFF.path m9 S9 hS1 hm1 hm2
          refine lv_aload_n hx hb dX11_add_74 rfl (lv_at hl 4 rfl) ?_
          refine va_get (D := D) (ci := 11) (v := .ref (q 17)) (C := RX11) (T := TX11) (N := 47) hx hb hts (by decide +kernel) hown hK.1 hP 0 rfl rfl 36 (by decide) (hts (.fieldLink RX11 69 "JugglingHallModel" "far" "[I") (by decide +kernel)) (fun _ h9 => h9) rfl dX11_add_75 ?_
          refine lv_aload_n hx hb dX11_add_78 rfl (lv_at hl 4 rfl) ?_
          refine va_get (D := D) (ci := 11) (v := .int x20) (C := RX11) (T := TX11) (N := 47) hx hb hts (by decide +kernel) hown hK.1 hP 0 rfl rfl 44 (by decide) (hts (.fieldLink RX11 316 "JugglingHallModel" "scoreState" "I") (by decide +kernel)) (fun _ h9 => h9) rfl dX11_add_79 ?_
          refine a_iald (f := far9) (u := x20.toInt) hx hb hK.1 hP 18 0 rfl rfl dX11_add_82 (rfl) (by omega) (fun z_37 q_37 e_37 => ?_)
          have hz9 : z_37.toInt = (m9 : Int) := by rw [q_37, hx20, Int.toNat_natCast, hm2]; exact nI_toInt (by omega)
          refine lv_istore (lv' := [(6, .int z_37), (5, .int r_12), (4, .int z_10), (3, .int r_1), (0, .ref mm), (1, .int a9), (2, .int b)]) hx hb dX11_add_83 hl (by decide) rfl (fun ls hl => ?_)
          refine lv_aload_n hx hb dX11_add_85 rfl (lv_at hl 4 rfl) ?_
          refine va_get (D := D) (ci := 11) (v := .int x18) (C := RX11) (T := TX11) (N := 47) hx hb hts (by decide +kernel) hown hK.1 hP 0 rfl rfl 42 (by decide) (hts (.fieldLink RX11 310 "JugglingHallModel" "scored" "I") (by decide +kernel)) (fun _ h9 => h9) rfl dX11_add_86 ?_
          refine lv_iload hx hb dX11_add_89 (lv_at hl 0 rfl) ?_
          refine a_iadd (u := x18.toInt) (v := z_37.toInt) hx hb dX11_add_91 (rfl) (rfl) (by omega) (fun z_38 e_38 => ?_)
          refine lv_iload_n hx hb dX11_add_92 rfl (lv_at hl 6 rfl) ?_
          refine lv_aload_n hx hb dX11_add_93 rfl (lv_at hl 4 rfl) ?_
          refine va_get (D := D) (ci := 11) (v := .ref (q 0)) (C := RX11) (T := TX11) (N := 47) hx hb hts (by decide +kernel) hown hK.1 hP 0 rfl rfl 1 (by decide) (hts (.fieldLink RX11 8 "JugglingHallModel" "rows" "[I") (by decide +kernel)) (fun _ h9 => h9) rfl dX11_add_94 ?_
          refine lv_iload_n hx hb dX11_add_97 rfl (lv_at hl 3 rfl) ?_
          refine a_iald (f := f0) (u := r_1.toInt) hx hb hK.1 hP 1 0 rfl rfl dX11_add_98 (rfl) (by omega) (fun z_39 q_39 e_39 => ?_)
          have hN_39 : z_39.toInt = (f0 r_1.toInt.toNat).toInt := e_39
          have hmA40 : b.toInt * z_39.toInt = b.toInt * (f0 r_1.toInt.toNat).toInt := by rw [show z_39.toInt = (f0 r_1.toInt.toNat).toInt by omega]
          have hmB40 := mulB (a := b.toInt) (b := (f0 r_1.toInt.toNat).toInt) (by omega) (by omega)
          refine a_imul (u := b.toInt) (v := z_39.toInt) hx hb dX11_add_99 (rfl) (rfl) (by omega) (fun z_41 e_41 => ?_)
          refine a_iadd (u := (x18.toInt + z_37.toInt)) (v := (b.toInt * z_39.toInt)) hx hb dX11_add_100 (e_38) (e_41) (by omega) (fun z_42 e_42 => ?_)
          refine lv_sipush (v := 300) hx hb dX11_add_101 (by decide) ?_
          refine a_icmp_le (u := z_42.toInt) (v := 300) (tgt := 109) hx hb dX11_add_104 (by decide) (rfl) (by decide) (fun c_43 => ?_) (fun c_43 => ?_)
          · refine lv_aload_n hx hb dX11_add_109 rfl (lv_at hl 4 rfl) ?_
            refine va_get (D := D) (ci := 11) (v := .int x20) (C := RX11) (T := TX11) (N := 47) hx hb hts (by decide +kernel) hown hK.1 hP 0 rfl rfl 44 (by decide) (hts (.fieldLink RX11 316 "JugglingHallModel" "scoreState" "I") (by decide +kernel)) (fun _ h9 => h9) rfl dX11_add_110 ?_
            refine lv_eqi (y := nI S9) hS2 ?_
            refine lv_istore (lv' := [(7, .int (nI S9)), (6, .int z_37), (5, .int r_12), (4, .int z_10), (3, .int r_1), (0, .ref mm), (1, .int a9), (2, .int b)]) hx hb dX11_add_113 hl (by decide) rfl (fun ls hl => ?_)
            refine lv_iconst (v := 0) hx hb dX11_add_115 (by decide) ?_
            refine lv_istore (lv' := [(8, .int 0), (7, .int (nI S9)), (6, .int z_37), (5, .int r_12), (4, .int z_10), (3, .int r_1), (0, .ref mm), (1, .int a9), (2, .int b)]) hx hb dX11_add_116 hl (by decide) rfl (fun ls hl => ?_)
            have loop118 : ∀ (ddloop118 : Nat) (k : Int32) (S7 : Nat) (ls7 : List Nat) (a18 : Int32) (ga : (Nat → Int32)) (gb : (Nat → Int32)) (H : Heap) (locs : List Loc) (ls : Array Slot), (z_37.toInt - k.toInt).toNat < ddloop118 → (0 ≤ k.toInt ∧ k.toInt ≤ z_37.toInt) → (S7 < 512) → ((ls7.length : Int) = z_37.toInt - k.toInt) → (gr M0 far9 S7 ls7) → (a18.toInt = x18.toInt + k.toInt) → va_P D vwCl (mX mm q jn cI x0 x1 x2 x3 x4 x5 x6 x7 x8 x9 x10 x11 x12 x13 x14 y15_7 y16_7 x17 a18 x19 x20 f0 f1 f2 f3 f4 f5 f6 f7 f8 f9 f10 f11 g12_7 f13 f14 f15 f16 far9 wt9 f19 f20 ga gb f23 f24) H → va_D A (mX mm q jn cI x0 x1 x2 x3 x4 x5 x6 x7 x8 x9 x10 x11 x12 x13 x14 y15_7 y16_7 x17 a18 x19 x20 f0 f1 f2 f3 f4 f5 f6 f7 f8 f9 f10 f11 g12_7 f13 f14 f15 f16 far9 wt9 f19 f20 ga gb f23 f24) → va_S A s.heap H locs → lv_has ls 10 [(0, .ref mm), (1, .int a9), (2, .int b), (3, .int r_1), (4, .int z_10), (5, .int r_12), (6, .int z_37), (7, .int (nI S7)), (8, .int k)] → W p l e ({ frames := 4, cells := 0, slots := 0, locals := 91 }) s m args below meth c H locs 0 0 Q (F0 m 118 ls []) := by
              intro ddloop118
              induction ddloop118 with
              | zero =>
                intro k S7 ls7 a18 ga gb H locs ls hdd
                exact absurd hdd (Nat.not_lt_zero _)
              | succ ddloop118 ih118 =>
                intro k S7 ls7 a18 ga gb H locs ls hdd hk hS7 hls hgr ha18 hP hD hS hl
                refine lv_iload hx hb dX11_add_118 (lv_at hl 8 rfl) ?_
                refine lv_iload hx hb dX11_add_120 (lv_at hl 6 rfl) ?_
                refine a_icmp_ge (u := k.toInt) (v := z_37.toInt) (tgt := 155) hx hb dX11_add_122 (by decide) (rfl) (rfl) (fun c_44 => ?_) (fun c_44 => ?_)
                · refine lv_iconst (v := 0) hx hb dX11_add_155 (by decide) ?_
                  refine lv_istore (lv' := [(8, .int 0), (0, .ref mm), (1, .int a9), (2, .int b), (3, .int r_1), (4, .int z_10), (5, .int r_12), (6, .int z_37), (7, .int (nI S7))]) hx hb dX11_add_156 hl (by decide) rfl (fun ls hl => ?_)
                  have loop158 : ∀ (ddloop158 : Nat) (k2 : Int32) (b18 : Int32) (gc : (Nat → Int32)) (gd : (Nat → Int32)) (H : Heap) (locs : List Loc) (ls : Array Slot), (1300 - k2.toInt).toNat < ddloop158 → (0 ≤ k2.toInt ∧ k2.toInt ≤ b.toInt * (f0 r_1.toInt.toNat).toInt) → (b18.toInt = x18.toInt + z_37.toInt + k2.toInt) → va_P D vwCl (mX mm q jn cI x0 x1 x2 x3 x4 x5 x6 x7 x8 x9 x10 x11 x12 x13 x14 y15_7 y16_7 x17 b18 x19 x20 f0 f1 f2 f3 f4 f5 f6 f7 f8 f9 f10 f11 g12_7 f13 f14 f15 f16 far9 wt9 f19 f20 gc gd f23 f24) H → va_D A (mX mm q jn cI x0 x1 x2 x3 x4 x5 x6 x7 x8 x9 x10 x11 x12 x13 x14 y15_7 y16_7 x17 b18 x19 x20 f0 f1 f2 f3 f4 f5 f6 f7 f8 f9 f10 f11 g12_7 f13 f14 f15 f16 far9 wt9 f19 f20 gc gd f23 f24) → va_S A s.heap H locs → lv_has ls 10 [(0, .ref mm), (1, .int a9), (2, .int b), (3, .int r_1), (4, .int z_10), (5, .int r_12), (6, .int z_37), (7, .int (nI S7)), (8, .int k2)] → W p l e ({ frames := 4, cells := 0, slots := 0, locals := 91 }) s m args below meth c H locs 0 0 Q (F0 m 158 ls []) := by
                    intro ddloop158
                    induction ddloop158 with
                    | zero =>
                      intro k2 b18 gc gd H locs ls hdd
                      exact absurd hdd (Nat.not_lt_zero _)
                    | succ ddloop158 ih158 =>
                      intro k2 b18 gc gd H locs ls hdd hk2 hb18 hP hD hS hl
                      refine lv_iload hx hb dX11_add_158 (lv_at hl 8 rfl) ?_
                      refine lv_iload_n hx hb dX11_add_160 rfl (lv_at hl 2 rfl) ?_
                      refine lv_aload_n hx hb dX11_add_161 rfl (lv_at hl 0 rfl) ?_
                      refine va_get (D := D) (ci := 11) (v := .ref (q 0)) (C := RX11) (T := TX11) (N := 47) hx hb hts (by decide +kernel) hown hK.1 hP 0 rfl rfl 1 (by decide) (hts (.fieldLink RX11 8 "JugglingHallModel" "rows" "[I") (by decide +kernel)) (fun _ h9 => h9) rfl dX11_add_162 ?_
                      refine lv_iload_n hx hb dX11_add_165 rfl (lv_at hl 3 rfl) ?_
                      refine a_iald (f := f0) (u := r_1.toInt) hx hb hK.1 hP 1 0 rfl rfl dX11_add_166 (rfl) (by omega) (fun z_45 q_45 e_45 => ?_)
                      have hN_45 : z_45.toInt = (f0 r_1.toInt.toNat).toInt := e_45
                      have hmA46 : b.toInt * z_45.toInt = b.toInt * (f0 r_1.toInt.toNat).toInt := by rw [show z_45.toInt = (f0 r_1.toInt.toNat).toInt by omega]
                      have hmB46 := mulB (a := b.toInt) (b := (f0 r_1.toInt.toNat).toInt) (by omega) (by omega)
                      refine a_imul (u := b.toInt) (v := z_45.toInt) hx hb dX11_add_167 (rfl) (rfl) (by omega) (fun z_47 e_47 => ?_)
                      refine a_icmp_ge (u := k2.toInt) (v := (b.toInt * z_45.toInt)) (tgt := 198) hx hb dX11_add_168 (by decide) (rfl) (e_47) (fun c_48 => ?_) (fun c_48 => ?_)
                      · refine lv_aload_n hx hb dX11_add_198 rfl (lv_at hl 0 rfl) ?_
                        refine lv_iload hx hb dX11_add_199 (lv_at hl 4 rfl) ?_
                        refine mp_19 hx hb hts (by decide +kernel) hown hK hP hD hS (hts (.fieldLink RX11 313 "JugglingHallModel" "scoreBalls" "I") (by decide +kernel)) dX11_add_201 (fun H locs hP hD hS => ?_)
                        refine lv_aload_n hx hb dX11_add_204 rfl (lv_at hl 0 rfl) ?_
                        refine lv_iload hx hb dX11_add_205 (lv_at hl 5 rfl) ?_
                        refine mp_20 hx hb hts (by decide +kernel) hown hK hP hD hS (hts (.fieldLink RX11 316 "JugglingHallModel" "scoreState" "I") (by decide +kernel)) dX11_add_207 (fun H locs hP hD hS => ?_)
                        refine lv_aload_n hx hb dX11_add_210 rfl (lv_at hl 0 rfl) ?_
                        refine va_get (D := D) (ci := 11) (v := .int b18) (C := RX11) (T := TX11) (N := 47) hx hb hts (by decide +kernel) hown hK.1 hP 0 rfl rfl 42 (by decide) (hts (.fieldLink RX11 310 "JugglingHallModel" "scored" "I") (by decide +kernel)) (fun _ h9 => h9) rfl dX11_add_211 ?_
                        exact g_iret (b18, y15_7, y16_7, b18, z_10, r_12, g12_7, far9, wt9, gc, gd) hx hb hr hlocks hS rfl (⟨show 0 ≤ b18.toInt ∧ b18.toInt ≤ 300 from (by first | assumption | omega), show 0 < b18.toInt → ∃ S : Nat, S < 512 ∧ r_12 = nI S ∧ (bc S : Int) = z_10.toInt from (fun _ => ⟨M0, hM1, hM2, by omega⟩), show ∀ j9 : Nat, j9 < 512 → wt9 j9 = 0 from (hwt9)⟩) hP hD hQ (Nat.le_of_ble_eq_true rfl) (Nat.le_of_ble_eq_true rfl) dX11_add_214
                      · refine lv_aload_n hx hb dX11_add_171 rfl (lv_at hl 0 rfl) ?_
                        refine lv_aload_n hx hb dX11_add_172 rfl (lv_at hl 0 rfl) ?_
                        refine lv_iload_n hx hb dX11_add_173 rfl (lv_at hl 3 rfl) ?_
                        refine lv_iload hx hb dX11_add_174 (lv_at hl 8 rfl) ?_
                        refine lv_aload_n hx hb dX11_add_176 rfl (lv_at hl 0 rfl) ?_
                        refine va_get (D := D) (ci := 11) (v := .ref (q 0)) (C := RX11) (T := TX11) (N := 47) hx hb hts (by decide +kernel) hown hK.1 hP 0 rfl rfl 1 (by decide) (hts (.fieldLink RX11 8 "JugglingHallModel" "rows" "[I") (by decide +kernel)) (fun _ h9 => h9) rfl dX11_add_177 ?_
                        refine lv_iload_n hx hb dX11_add_180 rfl (lv_at hl 3 rfl) ?_
                        refine a_iald (f := f0) (u := r_1.toInt) hx hb hK.1 hP 1 0 rfl rfl dX11_add_181 (rfl) (by omega) (fun z_49 q_49 e_49 => ?_)
                        have hN_49 : z_49.toInt = (f0 r_1.toInt.toNat).toInt := e_49
                        refine a_irem (u := k2.toInt) (v := z_49.toInt) hx hb dX11_add_182 (rfl) (rfl) (by omega) (fun z_50 e_50 h_50 k_50 => ?_)
                        refine lv_iconst (v := 0) hx hb dX11_add_183 (by decide) ?_
                        refine lv_iconst (v := 0) hx hb dX11_add_184 (by decide) ?_
                        have hz_51 : (0 : Int32).toInt = 0 := by decide
                        have hz_52 : (0 : Int32).toInt = 0 := by decide
                        refine roP (va_runV (As := [.int r_1, .int z_50, .int 0, .int 0]) (rest := [.ref mm]) ⟨hx, hb, hml, hown, hts⟩ (k_heightAt2 l D cI cR cM _  (by first | assumption | omega) (hr0) (by first | assumption | omega) (by first | assumption | omega) (by first | assumption | omega)) (cwV 4 hts gX11_add_X11_heightAt rfl rfl rfl (by decide +kernel) ⟨Nat.le_of_ble_eq_true rfl, Nat.le_of_ble_eq_true rfl⟩) (pre_V hK hP hD 0 11 rfl rfl) rfl rfl hl.1 rfl (lv_room (Nat.le_of_ble_eq_true rfl)) dX11_add_185 ⟨Nat.le_of_ble_eq_true rfl, Nat.le_of_ble_eq_true rfl⟩) hS hA hP (fun r_53 H locs hw hP hS => ?_)
                        obtain ⟨h_53, hx_53⟩ : (0 ≤ r_53.toInt ∧ r_53.toInt ≤ 9) ∧ (r_53.toInt = (f0 (r_1.toInt + 1 + 6 * z_50.toInt + 2 * (0 : Int32).toInt + (0 : Int32).toInt).toNat).toInt / 4) := hw
                        refine lv_iload_n hx hb dX11_add_188 rfl (lv_at hl 1 rfl) ?_
                        refine call_g (wr := []) (va_runV (As := [.int r_53, .int a9]) (rest := []) ⟨hx, hb, hml, hown, hts⟩ (k_note l D cI cR cM _  (by first | assumption | omega)) (cwV 2 hts gX11_add_X11_note rfl rfl rfl (by decide +kernel) ⟨Nat.le_of_ble_eq_true rfl, Nat.le_of_ble_eq_true rfl⟩) (pre_V hK hP hD 0 11 rfl rfl) rfl rfl hl.1 rfl (lv_room (Nat.le_of_ble_eq_true rfl)) dX11_add_189 ⟨Nat.le_of_ble_eq_true rfl, Nat.le_of_ble_eq_true rfl⟩) hP hD hS hA [0, 1, 2, 3, 4, 5, 6, 7, 8, 9, 10, 11, 12, 13, 14, 15, 16, 17, 18, 19, 20, 21, 22, 23, 24, 25] [] (by with_unfolding_all rfl) rfl (by decide) (by decide) (fun u_54 H locs hw hP hD hS => ?_)
                        obtain ⟨y18_54, g21_54, g22_54⟩ := u_54
                        have hP : va_P D vwCl (mX mm q jn cI x0 x1 x2 x3 x4 x5 x6 x7 x8 x9 x10 x11 x12 x13 x14 y15_7 y16_7 x17 y18_54 x19 x20 f0 f1 f2 f3 f4 f5 f6 f7 f8 f9 f10 f11 g12_7 f13 f14 f15 f16 far9 wt9 f19 f20 g21_54 g22_54 f23 f24) H := hP
                        have hD : va_D A (mX mm q jn cI x0 x1 x2 x3 x4 x5 x6 x7 x8 x9 x10 x11 x12 x13 x14 y15_7 y16_7 x17 y18_54 x19 x20 f0 f1 f2 f3 f4 f5 f6 f7 f8 f9 f10 f11 g12_7 f13 f14 f15 f16 far9 wt9 f19 f20 g21_54 g22_54 f23 f24) := hD
                        have h_54 : (y18_54.toInt = b18.toInt + 1) := hw
                        obtain ⟨z_55, q_55, e_55⟩ := i_inc (a := k2.toInt) (1) (rfl) (by decide) (by omega) (by omega)
                        refine lv_iinc (v := z_55) (lv' := [(8, .int z_55), (0, .ref mm), (1, .int a9), (2, .int b), (3, .int r_1), (4, .int z_10), (5, .int r_12), (6, .int z_37), (7, .int (nI S7))]) hx hb dX11_add_192 hl (k := 8) rfl q_55 (by decide) rfl (fun ls hl => ?_)
                        refine lv_goto (tgt := 158) hx hb dX11_add_195 (by decide) ?_
                        exact ih158 z_55 y18_54 g21_54 g22_54 _ _ _ (by omega) (by first | assumption | omega) (by first | assumption | omega) hP hD hS (lv_sub hl [1, 2, 3, 4, 5, 6, 7, 8, 0] rfl)
                  have hz_56 : (0 : Int32).toInt = 0 := by decide
                  exact loop158 ((1300 - (0 : Int32).toInt).toNat + 1) (0 : Int32) a18 ga gb _ _ _ (by omega) (by first | assumption | omega) (by first | assumption | omega) hP hD hS (lv_sub hl [1, 2, 3, 4, 5, 6, 7, 8, 0] rfl)
                · refine lv_aload_n hx hb dX11_add_125 rfl (lv_at hl 0 rfl) ?_
                  refine lv_iload hx hb dX11_add_126 (lv_at hl 7 rfl) ?_
                  obtain ⟨hh9, ls8, rfl⟩ : ∃ (h : Nat) (ls : List Nat), ls7 = h :: ls := by
                    cases ls7 with
                    | nil => exact absurd hls (by simp only [List.length_nil]; omega)
                    | cons h ls => exact ⟨h, ls, rfl⟩
                  obtain ⟨hfo, t9, ht1, ht2, ht3, ht9⟩ := hgr
                  have hh10 : hh9 < 10 := hfo.1
                  have hll : (((hh9 :: ls8).length : Nat) : Int) = (ls8.length : Int) + 1 := by rw [List.length_cons]; omega
                  have hPc := hP.sub (ws' := [(mm, .inr (11, mXF q jn x0 x1 x2 x3 x4 x5 x6 x7 x8 x9 x10 x11 x12 x13 x14 y15_7 y16_7 x17 a18 x19 x20)), (q 17, .inl (cI, 512, .inl far9))]) [0, 18] (by with_unfolding_all rfl)
                  have hDc := hD.sub (ws' := [(mm, .inr (11, mXF q jn x0 x1 x2 x3 x4 x5 x6 x7 x8 x9 x10 x11 x12 x13 x14 y15_7 y16_7 x17 a18 x19 x20)), (q 17, .inl (cI, 512, .inl far9))]) [0, 18] (by decide) (by with_unfolding_all rfl)
                  refine ro (va_runV (As := [.int (nI S7)]) (rest := []) ⟨hx, hb, hml, hown, hts⟩ (c_firstStep l D cI cR cM _ (x := S7) (h0 := hh9) hS7 mm (mXF q jn x0 x1 x2 x3 x4 x5 x6 x7 x8 x9 x10 x11 x12 x13 x14 y15_7 y16_7 x17 a18 x19 x20) (q 17) rfl far9 hfo) (cwV 1 hts gX11_add_X11_firstStep rfl rfl rfl (by decide +kernel) ⟨Nat.le_of_ble_eq_true rfl, Nat.le_of_ble_eq_true rfl⟩) (pre_V hK hPc hDc 0 11 rfl rfl) rfl rfl hl.1 rfl (lv_room (Nat.le_of_ble_eq_true rfl)) dX11_add_128 ⟨Nat.le_of_ble_eq_true rfl, Nat.le_of_ble_eq_true rfl⟩) hS hA hP (fun H locs hP hS => ?_)
                  refine lv_istore (lv' := [(9, .int (nI hh9)), (0, .ref mm), (1, .int a9), (2, .int b), (3, .int r_1), (4, .int z_10), (5, .int r_12), (6, .int z_37), (7, .int (nI S7)), (8, .int k)]) hx hb dX11_add_131 hl (by decide) rfl (fun ls hl => ?_)
                  refine lv_aload_n hx hb dX11_add_133 rfl (lv_at hl 1 rfl) ?_
                  refine lv_iload hx hb dX11_add_134 (lv_at hl 0 rfl) ?_
                  refine lv_iconst (v := (-1)) hx hb dX11_add_136 (by decide) ?_
                  have hz_57 : (nI hh9).toInt = (hh9 : Int) := nI_toInt (by omega)
                  have hz_58 : (-1 : Int32).toInt = (-1) := by decide
                  refine call_g (wr := []) (va_runV (As := [.int (nI hh9), .int (-1)]) (rest := []) ⟨hx, hb, hml, hown, hts⟩ (k_note l D cI cR cM _  (by first | assumption | omega)) (cwV 2 hts gX11_add_X11_note rfl rfl rfl (by decide +kernel) ⟨Nat.le_of_ble_eq_true rfl, Nat.le_of_ble_eq_true rfl⟩) (pre_V hK hP hD 0 11 rfl rfl) rfl rfl hl.1 rfl (lv_room (Nat.le_of_ble_eq_true rfl)) dX11_add_137 ⟨Nat.le_of_ble_eq_true rfl, Nat.le_of_ble_eq_true rfl⟩) hP hD hS hA [0, 1, 2, 3, 4, 5, 6, 7, 8, 9, 10, 11, 12, 13, 14, 15, 16, 17, 18, 19, 20, 21, 22, 23, 24, 25] [] (by with_unfolding_all rfl) rfl (by decide) (by decide) (fun u_59 H locs hw hP hD hS => ?_)
                  obtain ⟨y18_59, g21_59, g22_59⟩ := u_59
                  have hP : va_P D vwCl (mX mm q jn cI x0 x1 x2 x3 x4 x5 x6 x7 x8 x9 x10 x11 x12 x13 x14 y15_7 y16_7 x17 y18_59 x19 x20 f0 f1 f2 f3 f4 f5 f6 f7 f8 f9 f10 f11 g12_7 f13 f14 f15 f16 far9 wt9 f19 f20 g21_59 g22_59 f23 f24) H := hP
                  have hD : va_D A (mX mm q jn cI x0 x1 x2 x3 x4 x5 x6 x7 x8 x9 x10 x11 x12 x13 x14 y15_7 y16_7 x17 y18_59 x19 x20 f0 f1 f2 f3 f4 f5 f6 f7 f8 f9 f10 f11 g12_7 f13 f14 f15 f16 far9 wt9 f19 f20 g21_59 g22_59 f23 f24) := hD
                  have h_59 : (y18_59.toInt = a18.toInt + 1) := hw
                  refine lv_iload hx hb dX11_add_140 (lv_at hl 8 rfl) ?_
                  refine lv_iload hx hb dX11_add_142 (lv_at hl 0 rfl) ?_
                  refine ro (va_runS (As := [.int (nI S7), .int (nI hh9)]) (rest := []) ⟨hx, hb, hml, hown, hts⟩ (c_step l D cI cR cM _ (s0 := S7) (h0 := hh9) hS7 hh10) (va_cwS 2 hts gX11_add_X11_step rfl rfl rfl (by decide +kernel) ⟨Nat.le_of_ble_eq_true rfl, Nat.le_of_ble_eq_true rfl⟩) (pre_S hK va_P_nil (va_D_nil (A := fun _ => True))) rfl rfl hl.1 rfl (lv_room (Nat.le_of_ble_eq_true rfl)) dX11_add_144 ⟨Nat.le_of_ble_eq_true rfl, Nat.le_of_ble_eq_true rfl⟩) hS hA hP (fun H locs hP hS => ?_)
                  refine lv_eqi (y := nI t9) (stI_some ht2) ?_
                  refine lv_istore (lv' := [(7, .int (nI t9)), (9, .int (nI hh9)), (0, .ref mm), (1, .int a9), (2, .int b), (3, .int r_1), (4, .int z_10), (5, .int r_12), (6, .int z_37), (8, .int k)]) hx hb dX11_add_147 hl (by decide) rfl (fun ls hl => ?_)
                  obtain ⟨z_60, q_60, e_60⟩ := i_inc (a := k.toInt) (1) (rfl) (by decide) (by omega) (by omega)
                  refine lv_iinc (v := z_60) (lv' := [(8, .int z_60), (7, .int (nI t9)), (9, .int (nI hh9)), (0, .ref mm), (1, .int a9), (2, .int b), (3, .int r_1), (4, .int z_10), (5, .int r_12), (6, .int z_37)]) hx hb dX11_add_149 hl (k := 9) rfl q_60 (by decide) rfl (fun ls hl => ?_)
                  refine lv_goto (tgt := 118) hx hb dX11_add_152 (by decide) ?_
                  exact ih118 z_60 t9 ls8 y18_59 g21_59 g22_59 _ _ _ (by omega) (by first | assumption | omega) (ht1) (by omega) (ht9) (by first | assumption | omega) hP hD hS (lv_sub hl [3, 4, 5, 6, 7, 8, 9, 1, 0] rfl)
            have hz_61 : (0 : Int32).toInt = 0 := by decide
            exact loop118 ((z_37.toInt - (0 : Int32).toInt).toNat + 1) (0 : Int32) S9 ls9 x18 f21 f22 _ _ _ (by omega) (by first | assumption | omega) (hS1) (by omega) (hq2) (by first | assumption | omega) hP hD hS (lv_sub hl [6, 7, 8, 5, 4, 3, 2, 1, 0] rfl)
          · refine lv_iconst (v := (-1)) hx hb dX11_add_107 (by decide) ?_
            have hz_62 : (-1 : Int32).toInt = (-1) := by decide
            exact g_iret ((-1 : Int32), y15_7, y16_7, x18, x19, x20, g12_7, far9, wt9, f21, f22) hx hb hr hlocks hS rfl (⟨show 0 ≤ x18.toInt ∧ x18.toInt ≤ 300 from (by first | assumption | omega), show 0 < x18.toInt → ∃ S : Nat, S < 512 ∧ x20 = nI S ∧ (bc S : Int) = x19.toInt from (hsc), show ∀ j9 : Nat, j9 < 512 → wt9 j9 = 0 from (hwt9)⟩) hP hD hQ (Nat.le_of_ble_eq_true rfl) (Nat.le_of_ble_eq_true rfl) dX11_add_108
        · refine lv_iconst (v := (-1)) hx hb dX11_add_66 (by decide) ?_
          have hz_63 : (-1 : Int32).toInt = (-1) := by decide
          exact g_iret ((-1 : Int32), y15_7, y16_7, x18, x19, x20, g12_7, f17, f18, f21, f22) hx hb hr hlocks hS rfl (⟨show 0 ≤ x18.toInt ∧ x18.toInt ≤ 300 from (by first | assumption | omega), show 0 < x18.toInt → ∃ S : Nat, S < 512 ∧ x20 = nI S ∧ (bc S : Int) = x19.toInt from (hsc), show ∀ j9 : Nat, j9 < 512 → f18 j9 = 0 from (hwt)⟩) hP hD hQ (Nat.le_of_ble_eq_true rfl) (Nat.le_of_ble_eq_true rfl) dX11_add_67
    · refine lv_iconst (v := (-1)) hx hb dX11_add_24 (by decide) ?_
      have hz_64 : (-1 : Int32).toInt = (-1) := by decide
      exact g_iret ((-1 : Int32), y15_7, y16_7, x18, x19, x20, g12_7, f17, f18, f21, f22) hx hb hr hlocks hS rfl (⟨show 0 ≤ x18.toInt ∧ x18.toInt ≤ 300 from (by first | assumption | omega), show 0 < x18.toInt → ∃ S : Nat, S < 512 ∧ x20 = nI S ∧ (bc S : Int) = x19.toInt from (hsc), show ∀ j9 : Nat, j9 < 512 → f18 j9 = 0 from (hwt)⟩) hP hD hQ (Nat.le_of_ble_eq_true rfl) (Nat.le_of_ble_eq_true rfl) dX11_add_25
