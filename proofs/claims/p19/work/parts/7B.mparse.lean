theorem dX11_text_0 : decode cX11_text 0 = .ok (.aload_n 0, 1) := by decide +kernel
theorem dX11_text_1 : decode cX11_text 1 = .ok (.getfield 185, 3) := by decide +kernel
theorem dX11_text_4 : decode cX11_text 4 = .ok (.bipush 60, 2) := by decide +kernel
theorem dX11_text_6 : decode cX11_text 6 = .ok (.if_icmp .ne 5, 3) := by decide +kernel
theorem dX11_text_9 : decode cX11_text 9 = .ok (.iconst (-1), 1) := by decide +kernel
theorem dX11_text_10 : decode cX11_text 10 = .ok (.ireturn, 1) := by decide +kernel
theorem dX11_text_11 : decode cX11_text 11 = .ok (.aload_n 0, 1) := by decide +kernel
theorem dX11_text_12 : decode cX11_text 12 = .ok (.aload_n 0, 1) := by decide +kernel
theorem dX11_text_13 : decode cX11_text 13 = .ok (.invokevirtual 230, 3) := by decide +kernel
theorem dX11_text_16 : decode cX11_text 16 = .ok (.putfield 20, 3) := by decide +kernel
theorem dX11_text_19 : decode cX11_text 19 = .ok (.aload_n 0, 1) := by decide +kernel
theorem dX11_text_20 : decode cX11_text 20 = .ok (.aload_n 0, 1) := by decide +kernel
theorem dX11_text_21 : decode cX11_text 21 = .ok (.getfield 20, 3) := by decide +kernel
theorem dX11_text_24 : decode cX11_text 24 = .ok (.ifCond .ne 7, 3) := by decide +kernel
theorem dX11_text_27 : decode cX11_text 27 = .ok (.iconst (-1), 1) := by decide +kernel
theorem dX11_text_28 : decode cX11_text 28 = .ok (.goto 7, 3) := by decide +kernel
theorem dX11_text_31 : decode cX11_text 31 = .ok (.aload_n 0, 1) := by decide +kernel
theorem dX11_text_32 : decode cX11_text 32 = .ok (.getfield 148, 3) := by decide +kernel
theorem dX11_text_35 : decode cX11_text 35 = .ok (.putfield 24, 3) := by decide +kernel
theorem dX11_text_38 : decode cX11_text 38 = .ok (.aload_n 0, 1) := by decide +kernel
theorem dX11_text_39 : decode cX11_text 39 = .ok (.iconst 0, 1) := by decide +kernel
theorem dX11_text_40 : decode cX11_text 40 = .ok (.putfield 110, 3) := by decide +kernel
theorem dX11_text_43 : decode cX11_text 43 = .ok (.aload_n 0, 1) := by decide +kernel
theorem dX11_text_44 : decode cX11_text 44 = .ok (.getfield 20, 3) := by decide +kernel
theorem dX11_text_47 : decode cX11_text 47 = .ok (.ifCond .eq 5, 3) := by decide +kernel
theorem dX11_text_50 : decode cX11_text 50 = .ok (.iconst (-1), 1) := by decide +kernel
theorem dX11_text_51 : decode cX11_text 51 = .ok (.ireturn, 1) := by decide +kernel
theorem dX11_text_52 : decode cX11_text 52 = .ok (.aload_n 0, 1) := by decide +kernel
theorem dX11_text_53 : decode cX11_text 53 = .ok (.dup, 1) := by decide +kernel
theorem dX11_text_54 : decode cX11_text 54 = .ok (.getfield 185, 3) := by decide +kernel
theorem dX11_text_57 : decode cX11_text 57 = .ok (.iconst 1, 1) := by decide +kernel
theorem dX11_text_58 : decode cX11_text 58 = .ok (.iadd, 1) := by decide +kernel
theorem dX11_text_59 : decode cX11_text 59 = .ok (.putfield 185, 3) := by decide +kernel
theorem dX11_text_62 : decode cX11_text 62 = .ok (.aload_n 0, 1) := by decide +kernel
theorem dX11_text_63 : decode cX11_text 63 = .ok (.aload_n 0, 1) := by decide +kernel
theorem dX11_text_64 : decode cX11_text 64 = .ok (.getfield 185, 3) := by decide +kernel
theorem dX11_text_67 : decode cX11_text 67 = .ok (.putfield 104, 3) := by decide +kernel
theorem dX11_text_70 : decode cX11_text 70 = .ok (.iconst 0, 1) := by decide +kernel
theorem dX11_text_71 : decode cX11_text 71 = .ok (.istore_n 1, 1) := by decide +kernel
theorem dX11_text_72 : decode cX11_text 72 = .ok (.iload_n 1, 1) := by decide +kernel
theorem dX11_text_73 : decode cX11_text 73 = .ok (.bipush 8, 2) := by decide +kernel
theorem dX11_text_75 : decode cX11_text 75 = .ok (.if_icmp .ge 73, 3) := by decide +kernel
theorem dX11_text_78 : decode cX11_text 78 = .ok (.aload_n 0, 1) := by decide +kernel
theorem dX11_text_79 : decode cX11_text 79 = .ok (.getfield 185, 3) := by decide +kernel
theorem dX11_text_82 : decode cX11_text 82 = .ok (.iload_n 1, 1) := by decide +kernel
theorem dX11_text_83 : decode cX11_text 83 = .ok (.invokestatic 96, 3) := by decide +kernel
theorem dX11_text_86 : decode cX11_text 86 = .ok (.istore_n 2, 1) := by decide +kernel
theorem dX11_text_87 : decode cX11_text 87 = .ok (.aload_n 0, 1) := by decide +kernel
theorem dX11_text_88 : decode cX11_text 88 = .ok (.getfield 8, 3) := by decide +kernel
theorem dX11_text_91 : decode cX11_text 91 = .ok (.iload_n 2, 1) := by decide +kernel
theorem dX11_text_92 : decode cX11_text 92 = .ok (.aload_n 0, 1) := by decide +kernel
theorem dX11_text_93 : decode cX11_text 93 = .ok (.getfield 42, 3) := by decide +kernel
theorem dX11_text_96 : decode cX11_text 96 = .ok (.iload_n 1, 1) := by decide +kernel
theorem dX11_text_97 : decode cX11_text 97 = .ok (.iaload, 1) := by decide +kernel
theorem dX11_text_98 : decode cX11_text 98 = .ok (.iastore, 1) := by decide +kernel
theorem dX11_text_99 : decode cX11_text 99 = .ok (.iconst 0, 1) := by decide +kernel
theorem dX11_text_100 : decode cX11_text 100 = .ok (.istore_n 3, 1) := by decide +kernel
theorem dX11_text_101 : decode cX11_text 101 = .ok (.iload_n 3, 1) := by decide +kernel
theorem dX11_text_102 : decode cX11_text 102 = .ok (.bipush 6, 2) := by decide +kernel
theorem dX11_text_104 : decode cX11_text 104 = .ok (.aload_n 0, 1) := by decide +kernel
theorem dX11_text_105 : decode cX11_text 105 = .ok (.getfield 42, 3) := by decide +kernel
theorem dX11_text_108 : decode cX11_text 108 = .ok (.iload_n 1, 1) := by decide +kernel
theorem dX11_text_109 : decode cX11_text 109 = .ok (.iaload, 1) := by decide +kernel
theorem dX11_text_110 : decode cX11_text 110 = .ok (.imul, 1) := by decide +kernel
theorem dX11_text_111 : decode cX11_text 111 = .ok (.if_icmp .ge 31, 3) := by decide +kernel
theorem dX11_text_114 : decode cX11_text 114 = .ok (.aload_n 0, 1) := by decide +kernel
theorem dX11_text_115 : decode cX11_text 115 = .ok (.getfield 8, 3) := by decide +kernel
theorem dX11_text_118 : decode cX11_text 118 = .ok (.iload_n 2, 1) := by decide +kernel
theorem dX11_text_119 : decode cX11_text 119 = .ok (.iconst 1, 1) := by decide +kernel
theorem dX11_text_120 : decode cX11_text 120 = .ok (.iadd, 1) := by decide +kernel
theorem dX11_text_121 : decode cX11_text 121 = .ok (.iload_n 3, 1) := by decide +kernel
theorem dX11_text_122 : decode cX11_text 122 = .ok (.iadd, 1) := by decide +kernel
theorem dX11_text_123 : decode cX11_text 123 = .ok (.aload_n 0, 1) := by decide +kernel
theorem dX11_text_124 : decode cX11_text 124 = .ok (.getfield 45, 3) := by decide +kernel
theorem dX11_text_127 : decode cX11_text 127 = .ok (.sipush 144, 3) := by decide +kernel
theorem dX11_text_130 : decode cX11_text 130 = .ok (.iload_n 1, 1) := by decide +kernel
theorem dX11_text_131 : decode cX11_text 131 = .ok (.imul, 1) := by decide +kernel
theorem dX11_text_132 : decode cX11_text 132 = .ok (.iload_n 3, 1) := by decide +kernel
theorem dX11_text_133 : decode cX11_text 133 = .ok (.iadd, 1) := by decide +kernel
theorem dX11_text_134 : decode cX11_text 134 = .ok (.iaload, 1) := by decide +kernel
theorem dX11_text_135 : decode cX11_text 135 = .ok (.iastore, 1) := by decide +kernel
theorem dX11_text_136 : decode cX11_text 136 = .ok (.iinc 3 1, 3) := by decide +kernel
theorem dX11_text_139 : decode cX11_text 139 = .ok (.goto (-38), 3) := by decide +kernel
theorem dX11_text_142 : decode cX11_text 142 = .ok (.iinc 1 1, 3) := by decide +kernel
theorem dX11_text_145 : decode cX11_text 145 = .ok (.goto (-73), 3) := by decide +kernel
theorem dX11_text_148 : decode cX11_text 148 = .ok (.iconst 0, 1) := by decide +kernel
theorem dX11_text_149 : decode cX11_text 149 = .ok (.istore_n 1, 1) := by decide +kernel
theorem dX11_text_150 : decode cX11_text 150 = .ok (.iload_n 1, 1) := by decide +kernel
theorem dX11_text_151 : decode cX11_text 151 = .ok (.bipush 8, 2) := by decide +kernel
theorem dX11_text_153 : decode cX11_text 153 = .ok (.if_icmp .ge 29, 3) := by decide +kernel
theorem dX11_text_156 : decode cX11_text 156 = .ok (.aload_n 0, 1) := by decide +kernel
theorem dX11_text_157 : decode cX11_text 157 = .ok (.getfield 14, 3) := by decide +kernel
theorem dX11_text_160 : decode cX11_text 160 = .ok (.bipush 8, 2) := by decide +kernel
theorem dX11_text_162 : decode cX11_text 162 = .ok (.aload_n 0, 1) := by decide +kernel
theorem dX11_text_163 : decode cX11_text 163 = .ok (.getfield 185, 3) := by decide +kernel
theorem dX11_text_166 : decode cX11_text 166 = .ok (.imul, 1) := by decide +kernel
theorem dX11_text_167 : decode cX11_text 167 = .ok (.iload_n 1, 1) := by decide +kernel
theorem dX11_text_168 : decode cX11_text 168 = .ok (.iadd, 1) := by decide +kernel
theorem dX11_text_169 : decode cX11_text 169 = .ok (.aload_n 0, 1) := by decide +kernel
theorem dX11_text_170 : decode cX11_text 170 = .ok (.getfield 48, 3) := by decide +kernel
theorem dX11_text_173 : decode cX11_text 173 = .ok (.iload_n 1, 1) := by decide +kernel
theorem dX11_text_174 : decode cX11_text 174 = .ok (.iaload, 1) := by decide +kernel
theorem dX11_text_175 : decode cX11_text 175 = .ok (.iastore, 1) := by decide +kernel
theorem dX11_text_176 : decode cX11_text 176 = .ok (.iinc 1 1, 3) := by decide +kernel
theorem dX11_text_179 : decode cX11_text 179 = .ok (.goto (-29), 3) := by decide +kernel
theorem dX11_text_182 : decode cX11_text 182 = .ok (.aload_n 0, 1) := by decide +kernel
theorem dX11_text_183 : decode cX11_text 183 = .ok (.getfield 185, 3) := by decide +kernel
theorem dX11_text_186 : decode cX11_text 186 = .ok (.ireturn, 1) := by decide +kernel
set_option maxRecDepth 100000 in
set_option maxHeartbeats 4000000 in
theorem ggX11_text_X11_readText : GoodIn wsX11_text wsX11_readText := goodIn_r _ [16, 8, 11, 17, 18, 19, 20, 21, 22, 15, 23, 24, 25, 26, 27, 28, 5, 29, 30, 31, 32, 33, 34, 35, 36, 37, 38, 39, 40, 41, 42, 43, 44, 45, 46, 47, 48, 49, 50, 51, 9, 52, 53, 54, 55, 56, 3, 57, 58, 59, 60, 61, 62, 63, 64, 65, 66, 67, 68, 69, 70, 71, 72, 73, 74, 75, 76, 77, 78, 79, 80, 81, 82, 83, 84, 85, 86, 87, 88, 89, 90, 91, 92, 93, 94, 95, 96, 97, 98, 99, 100, 101, 102, 103, 104, 105, 106, 107, 108, 109, 1, 7, 110, 111, 112, 113, 114, 115, 116, 117, 118, 119, 120, 121, 122, 123, 124, 125, 126, 127, 128, 129, 130, 131, 132, 133, 134, 135, 136, 137, 138, 139, 140, 141, 142, 143, 144, 145, 146, 147, 148, 149, 150, 151, 152, 153, 154, 155, 156, 157, 158, 159, 160, 161, 162, 163, 164, 165, 166, 167, 168, 169, 170, 171, 172, 173, 174, 175, 176, 177, 178, 179, 180, 181, 182] (by with_unfolding_all rfl) (by decide +kernel)
set_option maxRecDepth 20000 in
theorem gX11_text_X11_readText : GoodIn wsX11_text (wsV RX11 230 RX11 yX11_readText wsX11_readText) := goodIn_app (goodIn_of _ (by decide +kernel)) ggX11_text_X11_readText
set_option maxRecDepth 20000 in
theorem ggX11_text_X11_rowAt : GoodIn wsX11_text wsX11_rowAt := goodIn_r _ [116] (by decide +kernel) (by decide +kernel)
set_option maxRecDepth 20000 in
theorem gX11_text_X11_rowAt : GoodIn wsX11_text (va_wsS RX11 96 yX11_rowAt wsX11_rowAt) := goodIn_app (goodIn_of _ (by decide +kernel)) ggX11_text_X11_rowAt
theorem rows_set {jn : Nat} {R R2 m c : Nat → Int32} {t k : Int} (h : RowsX jn R) (ht : 0 ≤ t) (hk : 0 ≤ k ∧ k < 8) (h1 : ∀ i : Int, 0 ≤ i → (i < 150 * (8 * t + k) ∨ 150 * (8 * t + k) + 150 ≤ i) → R2 i.toNat = R i.toNat) (h2 : R2 (150 * (8 * t + k)).toNat = m k.toNat) (h3 : ∀ i : Int, 0 ≤ i → i < 6 * (m k.toNat).toInt → R2 (150 * (8 * t + k) + 1 + i).toNat = c (144 * k + i).toNat) (hFr : FreshX jn m c) : RowsX jn R2 := by
  intro t2 k2 t0 t1 k0 k1
  by_cases e : 8 * t2 + k2 = 8 * t + k
  · obtain ⟨f1, f2, f3⟩ := hFr k hk.1 hk.2
    unfold RowX
    rw [e, h2]
    refine ⟨f1, f2, fun i i0 i1 => ?_, fun j j0 j1 q => ?_⟩
    · have h9 := h3 (i - 150 * (8 * t + k) - 1) (by omega) (by omega)
      rw [show 150 * (8 * t + k) + 1 + (i - 150 * (8 * t + k) - 1) = i by omega] at h9
      rw [h9]; exact f3.1 _ (by omega) (by omega)
    · have h8 := h3 (2 * j) (by omega) (by omega)
      have h9 := h3 (2 * j + 1) (by omega) (by omega)
      rw [show 150 * (8 * t + k) + 1 + (2 * j + 1) = 150 * (8 * t + k) + 1 + 2 * j + 1 by omega] at h9
      rw [h9]; rw [h8] at q
      have h7 := f3.2 j j0 (by omega) q
      rw [show 144 * k + 2 * j + 1 = 144 * k + (2 * j + 1) by omega] at h7
      exact h7
  · obtain ⟨a1, a2, a3⟩ := h t2 k2 t0 t1 k0 k1
    unfold RowX
    rw [h1 (150 * (8 * t2 + k2)) (by omega) (by omega)]
    refine ⟨a1, a2, fun i i0 i1 => ?_, fun j j0 j1 q => ?_⟩
    · rw [h1 i (by omega) (by omega)]; exact a3.1 i i0 i1
    · rw [h1 _ (by omega) (by omega)] at q ⊢; exact a3.2 j j0 j1 q
theorem rowz_set {jn : Nat} {R R2 m c : Nat → Int32} {t k : Int} (hX : RowsX jn R) (h : RowsZ jn R) (ht : 0 ≤ t) (hk : 0 ≤ k ∧ k < 8) (h1 : ∀ i : Int, 0 ≤ i → (i < 150 * (8 * t + k) ∨ 150 * (8 * t + k) + 150 ≤ i) → R2 i.toNat = R i.toNat) (h2 : R2 (150 * (8 * t + k)).toNat = m k.toNat) (h3 : ∀ i : Int, 0 ≤ i → i < 6 * (m k.toNat).toInt → R2 (150 * (8 * t + k) + 1 + i).toNat = c (144 * k + i).toNat) (hFZ : FreshZ jn m c) : RowsZ jn R2 := by
  intro t2 k2 t0 t1 k0 k1 b x b0 b1 x0 x1
  by_cases e : 8 * t2 + k2 = 8 * t + k
  · rw [e, h2] at b1
    have h9 := h3 (6 * b + x) (by omega) (by omega)
    have h7 := hFZ k hk.1 hk.2 b x b0 b1 x0 x1
    rw [e, show 150 * (8 * t + k) + 1 + 6 * b + x = 150 * (8 * t + k) + 1 + (6 * b + x) by omega, h9, show 144 * k + (6 * b + x) = 144 * k + 6 * b + x by omega]
    exact h7
  · have a2 := (hX t2 k2 t0 t1 k0 k1).2.1
    rw [h1 (150 * (8 * t2 + k2)) (by omega) (by omega)] at b1
    rw [h1 _ (by omega) (by omega)]; exact h t2 k2 t0 t1 k0 k1 b x b0 b1 x0 x1
theorem seen_set {c g : Nat → Int32} {t k : Int} (h : SeenX c) (hk : 0 ≤ k ∧ k ≤ 7) (hu : ∀ i : Int, 0 ≤ i → i ≠ 8 * t + k → g i.toNat = c i.toNat) (h0 : k = 0 → 0 ≤ (g (8 * t + k).toNat).toInt ∧ (g (8 * t + k).toNat).toInt ≤ 7) (h1 : 1 ≤ k → 0 ≤ (g (8 * t + k).toNat).toInt ∧ (g (8 * t + k).toNat).toInt ≤ 10) : SeenX g := by
  intro t2 t0 t1
  obtain ⟨a1, a2, a3⟩ := h t2 t0 t1
  have b1 : 0 ≤ (g (8 * t2).toNat).toInt ∧ (g (8 * t2).toNat).toInt ≤ 7 := by
    by_cases e : 8 * t2 = 8 * t + k
    · rw [e]; exact h0 (by omega)
    · rw [hu _ (by omega) e]; exact ⟨a1, a2⟩
  refine ⟨b1.1, b1.2, fun i i1 i2 => ?_⟩
  by_cases e : 8 * t2 + i = 8 * t + k
  · rw [e]; exact h1 (by omega)
  · rw [hu _ (by omega) e]; exact a3 i i1 i2
set_option maxRecDepth 100000 in
set_option maxHeartbeats 4000000 in
theorem k_text (l : Launch) (D : va_G) (cI cR cM : ClassId) (sz : Nat) {jn mm : Nat} {q : Nat → Nat} {x0 x1 x2 x3 x4 x5 x6 x7 x8 x9 x10 x11 x12 x13 x14 x15 x16 x17 x18 x19 x20 : Int32} {f0 f1 f2 f3 f4 f5 f6 f7 f8 f9 f10 f11 f12 f13 f14 f15 f16 f17 f18 f19 f20 f21 f22 f23 f24 : Nat → Int32}  (ht : 0 ≤ x2.toInt ∧ x2.toInt ≤ 300) (hj : 1 ≤ jn ∧ jn ≤ 3) (h0 : 0 ≤ x0.toInt ∧ x0.toInt ≤ 60) (h1 : 0 ≤ x1.toInt ∧ x1.toInt ≤ 60) (hR : RowsX jn f0) (hRZ : RowsZ jn f0) (hSe : SeenX f1) (hM : MK f11) (hFm : FM f10) : Met l yX11_text wsX11_text ({ frames := 10, cells := 0, slots := 0, locals := 224 }) (P0 D cI cR cM [.ref mm] sz (mX mm q jn cI x0 x1 x2 x3 x4 x5 x6 x7 x8 x9 x10 x11 x12 x13 x14 x15 x16 x17 x18 x19 x20 f0 f1 f2 f3 f4 f5 f6 f7 f8 f9 f10 f11 f12 f13 f14 f15 f16 f17 f18 f19 f20 f21 f22 f23 f24)) (QG (S := Int32 × Int32 × Int32 × Int32 × Int32 × Int32 × Int32 × Int32 × Int32 × Int32 × Int32 × Int32 × Int32 × Int32 × Int32 × Int32 × (Nat → Int32) × (Nat → Int32) × (Nat → Int32) × (Nat → Int32) × (Nat → Int32) × (Nat → Int32) × (Nat → Int32) × (Nat → Int32) × (Nat → Int32) × (Nat → Int32) × (Nat → Int32)) (fun u => some (.int u.1)) (fun u => mX mm q jn cI (u.2.1) (u.2.2.1) (u.2.2.2.1) (u.2.2.2.2.1) (u.2.2.2.2.2.1) (u.2.2.2.2.2.2.1) (u.2.2.2.2.2.2.2.1) (u.2.2.2.2.2.2.2.2.1) (u.2.2.2.2.2.2.2.2.2.1) (u.2.2.2.2.2.2.2.2.2.2.1) (u.2.2.2.2.2.2.2.2.2.2.2.1) (u.2.2.2.2.2.2.2.2.2.2.2.2.1) (u.2.2.2.2.2.2.2.2.2.2.2.2.2.1) (u.2.2.2.2.2.2.2.2.2.2.2.2.2.2.1) (u.2.2.2.2.2.2.2.2.2.2.2.2.2.2.2.1) x15 x16 x17 x18 x19 x20 (u.2.2.2.2.2.2.2.2.2.2.2.2.2.2.2.2.1) (u.2.2.2.2.2.2.2.2.2.2.2.2.2.2.2.2.2.1) f2 (u.2.2.2.2.2.2.2.2.2.2.2.2.2.2.2.2.2.2.1) (u.2.2.2.2.2.2.2.2.2.2.2.2.2.2.2.2.2.2.2.1) (u.2.2.2.2.2.2.2.2.2.2.2.2.2.2.2.2.2.2.2.2.1) (u.2.2.2.2.2.2.2.2.2.2.2.2.2.2.2.2.2.2.2.2.2.1) (u.2.2.2.2.2.2.2.2.2.2.2.2.2.2.2.2.2.2.2.2.2.2.1) (u.2.2.2.2.2.2.2.2.2.2.2.2.2.2.2.2.2.2.2.2.2.2.2.1) (u.2.2.2.2.2.2.2.2.2.2.2.2.2.2.2.2.2.2.2.2.2.2.2.2.1) (u.2.2.2.2.2.2.2.2.2.2.2.2.2.2.2.2.2.2.2.2.2.2.2.2.2.1) (u.2.2.2.2.2.2.2.2.2.2.2.2.2.2.2.2.2.2.2.2.2.2.2.2.2.2) f12 f13 f14 f15 f16 f17 f18 f19 f20 f21 f22 f23 f24) (fun u => (0 ≤ u.2.1.toInt ∧ u.2.1.toInt ≤ 60) ∧ (0 ≤ u.2.2.1.toInt ∧ u.2.2.1.toInt ≤ 60) ∧ (0 ≤ u.2.2.2.1.toInt ∧ u.2.2.2.1.toInt ≤ 300) ∧ (RowsX jn u.2.2.2.2.2.2.2.2.2.2.2.2.2.2.2.2.1) ∧ (RowsZ jn u.2.2.2.2.2.2.2.2.2.2.2.2.2.2.2.2.1) ∧ (SeenX u.2.2.2.2.2.2.2.2.2.2.2.2.2.2.2.2.2.1) ∧ (MK u.2.2.2.2.2.2.2.2.2.2.2.2.2.2.2.2.2.2.2.2.2.2.2.2.2.2) ∧ (FM u.2.2.2.2.2.2.2.2.2.2.2.2.2.2.2.2.2.2.2.2.2.2.2.2.2.1)) D (va_A (mX mm q jn cI x0 x1 x2 x3 x4 x5 x6 x7 x8 x9 x10 x11 x12 x13 x14 x15 x16 x17 x18 x19 x20 f0 f1 f2 f3 f4 f5 f6 f7 f8 f9 f10 f11 f12 f13 f14 f15 f16 f17 f18 f19 f20 f21 f22 f23 f24) sz)) 0 0 (va_A (mX mm q jn cI x0 x1 x2 x3 x4 x5 x6 x7 x8 x9 x10 x11 x12 x13 x14 x15 x16 x17 x18 x19 x20 f0 f1 f2 f3 f4 f5 f6 f7 f8 f9 f10 f11 f12 f13 f14 f15 f16 f17 f18 f19 f20 f21 f22 f23 f24) sz) := by
  refine go (cc := cX11_text) (maxL := 4) (ret := (some .int)) (by decide) rfl (Nat.le_of_ble_eq_true rfl) ?_
  intro p e s m below meth c ls args Q hQ hsz hx hb hr hml hts hown hlocks hnm hP hK hD hl
  subst hsz
  have hD := hD.self (sz := s.heap.size)
  generalize hAe : va_A (mX mm q jn cI x0 x1 x2 x3 x4 x5 x6 x7 x8 x9 x10 x11 x12 x13 x14 x15 x16 x17 x18 x19 x20 f0 f1 f2 f3 f4 f5 f6 f7 f8 f9 f10 f11 f12 f13 f14 f15 f16 f17 f18 f19 f20 f21 f22 f23 f24) s.heap.size = A at hD hQ
  have hA : ∀ q, s.heap.size ≤ q → A q := fun q h => by rw [← hAe]; exact Or.inr h
  have hS : va_S A s.heap s.heap [] := va_S.rf
  have hl : lv_has ls 4 [(0, .ref mm)] := hl
  refine lv_aload_n hx hb dX11_text_0 rfl (lv_at hl 0 rfl) ?_
  refine va_get (D := D) (ci := 11) (v := .int x0) (C := RX11) (T := TX11) (N := 47) hx hb hts (by decide +kernel) hown hK.1 hP 0 rfl rfl 3 (by decide) (hts (.fieldLink RX11 185 "JugglingHallModel" "time" "I") (by decide +kernel)) (fun _ h9 => h9) rfl dX11_text_1 ?_
  refine lv_bipush (v := 60) hx hb dX11_text_4 (by decide) ?_
  refine a_icmp_ne (u := x0.toInt) (v := 60) (tgt := 11) hx hb dX11_text_6 (by decide) (rfl) (by decide) (fun c_1 => ?_) (fun c_1 => ?_)
  · refine lv_aload_n hx hb dX11_text_11 rfl (lv_at hl 0 rfl) ?_
    refine lv_aload_n hx hb dX11_text_12 rfl (lv_at hl 0 rfl) ?_
    refine call_g (wr := []) (va_runV (As := []) (rest := [.ref mm]) ⟨hx, hb, hml, hown, hts⟩ (k_readText l D cI cR cM _  (by first | assumption | omega) (by first | assumption | omega) (by first | assumption | omega) (by first | assumption | omega) (by first | assumption | omega) (by first | assumption | omega) (by first | assumption | omega)) (cwV 0 hts gX11_text_X11_readText rfl rfl rfl (by decide +kernel) ⟨Nat.le_of_ble_eq_true rfl, Nat.le_of_ble_eq_true rfl⟩) (pre_V hK hP hD 0 11 rfl rfl) rfl rfl hl.1 rfl (lv_room (Nat.le_of_ble_eq_true rfl)) dX11_text_13 ⟨Nat.le_of_ble_eq_true rfl, Nat.le_of_ble_eq_true rfl⟩) hP hD hS hA [0, 1, 2, 3, 4, 5, 6, 7, 8, 9, 10, 11, 12, 13, 14, 15, 16, 17, 18, 19, 20, 21, 22, 23, 24, 25] [] (by with_unfolding_all rfl) rfl (by decide) (by decide) (fun u_2 H locs hw hP hD hS => ?_)
    obtain ⟨r_2, y5_2, y6_2, y7_2, y8_2, y9_2, y10_2, y11_2, y12_2, y13_2, y14_2, g3_2, g4_2, g5_2, g6_2, g7_2, g8_2, g9_2, g10_2, g11_2⟩ := u_2
    have hP : va_P D vwCl (mX mm q jn cI x0 x1 x2 x3 x4 y5_2 y6_2 y7_2 y8_2 y9_2 y10_2 y11_2 y12_2 y13_2 y14_2 x15 x16 x17 x18 x19 x20 f0 f1 f2 g3_2 g4_2 g5_2 g6_2 g7_2 g8_2 g9_2 g10_2 g11_2 f12 f13 f14 f15 f16 f17 f18 f19 f20 f21 f22 f23 f24) H := hP
    have hD : va_D A (mX mm q jn cI x0 x1 x2 x3 x4 y5_2 y6_2 y7_2 y8_2 y9_2 y10_2 y11_2 y12_2 y13_2 y14_2 x15 x16 x17 x18 x19 x20 f0 f1 f2 g3_2 g4_2 g5_2 g6_2 g7_2 g8_2 g9_2 g10_2 g11_2 f12 f13 f14 f15 f16 f17 f18 f19 f20 f21 f22 f23 f24) := hD
    obtain ⟨hFr_2, hFZ_2, hM_2, hFm_2⟩ : (FreshX jn g8_2 g9_2) ∧ (FreshZ jn g8_2 g9_2) ∧ (MK g11_2) ∧ (FM g10_2) := hw
    refine mp_3 hx hb hts (by decide +kernel) hown hK hP hD hS (hts (.fieldLink RX11 20 "JugglingHallModel" "fault" "I") (by decide +kernel)) dX11_text_16 (fun H locs hP hD hS => ?_)
    refine lv_aload_n hx hb dX11_text_19 rfl (lv_at hl 0 rfl) ?_
    refine lv_aload_n hx hb dX11_text_20 rfl (lv_at hl 0 rfl) ?_
    refine va_get (D := D) (ci := 11) (v := .int r_2) (C := RX11) (T := TX11) (N := 47) hx hb hts (by decide +kernel) hown hK.1 hP 0 rfl rfl 7 (by decide) (hts (.fieldLink RX11 20 "JugglingHallModel" "fault" "I") (by decide +kernel)) (fun _ h9 => h9) rfl dX11_text_21 ?_
    refine a_if_ne (u := r_2.toInt) (tgt := 31) hx hb dX11_text_24 (by decide) (rfl) (fun c_3 => ?_) (fun c_3 => ?_)
    · refine lv_aload_n hx hb dX11_text_31 rfl (lv_at hl 0 rfl) ?_
      refine va_get (D := D) (ci := 11) (v := .int y9_2) (C := RX11) (T := TX11) (N := 47) hx hb hts (by decide +kernel) hown hK.1 hP 0 rfl rfl 13 (by decide) (hts (.fieldLink RX11 148 "JugglingHallModel" "errorAt" "I") (by decide +kernel)) (fun _ h9 => h9) rfl dX11_text_32 ?_
      refine mp_4 hx hb hts (by decide +kernel) hown hK hP hD hS (hts (.fieldLink RX11 24 "JugglingHallModel" "faultPlace" "I") (by decide +kernel)) dX11_text_35 (fun H locs hP hD hS => ?_)
      refine lv_aload_n hx hb dX11_text_38 rfl (lv_at hl 0 rfl) ?_
      refine lv_iconst (v := 0) hx hb dX11_text_39 (by decide) ?_
      refine mp_2 hx hb hts (by decide +kernel) hown hK hP hD hS (hts (.fieldLink RX11 110 "JugglingHallModel" "taped" "I") (by decide +kernel)) dX11_text_40 (fun H locs hP hD hS => ?_)
      refine lv_aload_n hx hb dX11_text_43 rfl (lv_at hl 0 rfl) ?_
      refine va_get (D := D) (ci := 11) (v := .int r_2) (C := RX11) (T := TX11) (N := 47) hx hb hts (by decide +kernel) hown hK.1 hP 0 rfl rfl 7 (by decide) (hts (.fieldLink RX11 20 "JugglingHallModel" "fault" "I") (by decide +kernel)) (fun _ h9 => h9) rfl dX11_text_44 ?_
      refine a_if_eq (u := r_2.toInt) (tgt := 52) hx hb dX11_text_47 (by decide) (rfl) (fun c_4 => absurd c_4 (by omega)) (fun c_4 => ?_)
      refine lv_iconst (v := (-1)) hx hb dX11_text_50 (by decide) ?_
      have hz_5 : (-1 : Int32).toInt = (-1) := by decide
      have hz_6 : (0 : Int32).toInt = 0 := by decide
      exact g_iret ((-1 : Int32), x0, x1, (0 : Int32), r_2, y9_2, y5_2, y6_2, y7_2, y8_2, y9_2, y10_2, y11_2, y12_2, y13_2, y14_2, f0, f1, g3_2, g4_2, g5_2, g6_2, g7_2, g8_2, g9_2, g10_2, g11_2) hx hb hr hlocks hS rfl (⟨show 0 ≤ x0.toInt ∧ x0.toInt ≤ 60 from (by first | assumption | omega), show 0 ≤ x1.toInt ∧ x1.toInt ≤ 60 from (by first | assumption | omega), show 0 ≤ (0 : Int32).toInt ∧ (0 : Int32).toInt ≤ 300 from (by first | assumption | omega), show RowsX jn f0 from (by first | assumption | omega), show RowsZ jn f0 from (by first | assumption | omega), show SeenX f1 from (by first | assumption | omega), show MK g11_2 from (by first | assumption | omega), show FM g10_2 from (by first | assumption | omega)⟩) hP hD hQ (Nat.le_of_ble_eq_true rfl) (Nat.le_of_ble_eq_true rfl) dX11_text_51
    · refine lv_iconst (v := (-1)) hx hb dX11_text_27 (by decide) ?_
      refine lv_goto (tgt := 35) hx hb dX11_text_28 (by decide) ?_
      refine mp_4 hx hb hts (by decide +kernel) hown hK hP hD hS (hts (.fieldLink RX11 24 "JugglingHallModel" "faultPlace" "I") (by decide +kernel)) dX11_text_35 (fun H locs hP hD hS => ?_)
      refine lv_aload_n hx hb dX11_text_38 rfl (lv_at hl 0 rfl) ?_
      refine lv_iconst (v := 0) hx hb dX11_text_39 (by decide) ?_
      refine mp_2 hx hb hts (by decide +kernel) hown hK hP hD hS (hts (.fieldLink RX11 110 "JugglingHallModel" "taped" "I") (by decide +kernel)) dX11_text_40 (fun H locs hP hD hS => ?_)
      refine lv_aload_n hx hb dX11_text_43 rfl (lv_at hl 0 rfl) ?_
      refine va_get (D := D) (ci := 11) (v := .int r_2) (C := RX11) (T := TX11) (N := 47) hx hb hts (by decide +kernel) hown hK.1 hP 0 rfl rfl 7 (by decide) (hts (.fieldLink RX11 20 "JugglingHallModel" "fault" "I") (by decide +kernel)) (fun _ h9 => h9) rfl dX11_text_44 ?_
      refine a_if_eq (u := r_2.toInt) (tgt := 52) hx hb dX11_text_47 (by decide) (rfl) (fun c_7 => ?_) (fun c_7 => absurd c_7 (by omega))
      refine lv_aload_n hx hb dX11_text_52 rfl (lv_at hl 0 rfl) ?_
      refine lv_dup hx hb dX11_text_53 rfl ?_
      refine va_get (D := D) (ci := 11) (v := .int x0) (C := RX11) (T := TX11) (N := 47) hx hb hts (by decide +kernel) hown hK.1 hP 0 rfl rfl 3 (by decide) (hts (.fieldLink RX11 185 "JugglingHallModel" "time" "I") (by decide +kernel)) (fun _ h9 => h9) rfl dX11_text_54 ?_
      refine lv_iconst (v := 1) hx hb dX11_text_57 (by decide) ?_
      refine a_iadd (u := x0.toInt) (v := 1) hx hb dX11_text_58 (rfl) (by decide) (by omega) (fun z_8 e_8 => ?_)
      refine mp_0 hx hb hts (by decide +kernel) hown hK hP hD hS (hts (.fieldLink RX11 185 "JugglingHallModel" "time" "I") (by decide +kernel)) dX11_text_59 (fun H locs hP hD hS => ?_)
      refine lv_aload_n hx hb dX11_text_62 rfl (lv_at hl 0 rfl) ?_
      refine lv_aload_n hx hb dX11_text_63 rfl (lv_at hl 0 rfl) ?_
      refine va_get (D := D) (ci := 11) (v := .int z_8) (C := RX11) (T := TX11) (N := 47) hx hb hts (by decide +kernel) hown hK.1 hP 0 rfl rfl 3 (by decide) (hts (.fieldLink RX11 185 "JugglingHallModel" "time" "I") (by decide +kernel)) (fun _ h9 => h9) rfl dX11_text_64 ?_
      refine mp_1 hx hb hts (by decide +kernel) hown hK hP hD hS (hts (.fieldLink RX11 104 "JugglingHallModel" "looked" "I") (by decide +kernel)) dX11_text_67 (fun H locs hP hD hS => ?_)
      refine lv_iconst (v := 0) hx hb dX11_text_70 (by decide) ?_
      refine lv_istore_n (lv' := [(1, .int 0), (0, .ref mm)]) hx hb dX11_text_71 rfl hl (by decide) rfl (fun ls hl => ?_)
      have loop72 : ∀ (ddloop72 : Nat) (lx : Int32) (ga : (Nat → Int32)) (H : Heap) (locs : List Loc) (ls : Array Slot), (8 - lx.toInt).toNat < ddloop72 → (0 ≤ lx.toInt ∧ lx.toInt ≤ 8) → (RowsX jn ga) → (RowsZ jn ga) → va_P D vwCl (mX mm q jn cI z_8 z_8 (0 : Int32) r_2 (-1 : Int32) y5_2 y6_2 y7_2 y8_2 y9_2 y10_2 y11_2 y12_2 y13_2 y14_2 x15 x16 x17 x18 x19 x20 ga f1 f2 g3_2 g4_2 g5_2 g6_2 g7_2 g8_2 g9_2 g10_2 g11_2 f12 f13 f14 f15 f16 f17 f18 f19 f20 f21 f22 f23 f24) H → va_D A (mX mm q jn cI z_8 z_8 (0 : Int32) r_2 (-1 : Int32) y5_2 y6_2 y7_2 y8_2 y9_2 y10_2 y11_2 y12_2 y13_2 y14_2 x15 x16 x17 x18 x19 x20 ga f1 f2 g3_2 g4_2 g5_2 g6_2 g7_2 g8_2 g9_2 g10_2 g11_2 f12 f13 f14 f15 f16 f17 f18 f19 f20 f21 f22 f23 f24) → va_S A s.heap H locs → lv_has ls 4 [(0, .ref mm), (1, .int lx)] → W p l e ({ frames := 10, cells := 0, slots := 0, locals := 224 }) s m args below meth c H locs 0 0 Q (F0 m 72 ls []) := by
        intro ddloop72
        induction ddloop72 with
        | zero =>
          intro lx ga H locs ls hdd
          exact absurd hdd (Nat.not_lt_zero _)
        | succ ddloop72 ih72 =>
          intro lx ga H locs ls hdd hlx hRa hZa hP hD hS hl
          refine lv_iload_n hx hb dX11_text_72 rfl (lv_at hl 1 rfl) ?_
          refine lv_bipush (v := 8) hx hb dX11_text_73 (by decide) ?_
          refine a_icmp_ge (u := lx.toInt) (v := 8) (tgt := 148) hx hb dX11_text_75 (by decide) (rfl) (by decide) (fun c_9 => ?_) (fun c_9 => ?_)
          · refine lv_iconst (v := 0) hx hb dX11_text_148 (by decide) ?_
            refine lv_istore_n (lv' := [(1, .int 0), (0, .ref mm)]) hx hb dX11_text_149 rfl hl (by decide) rfl (fun ls hl => ?_)
            have loop150 : ∀ (ddloop150 : Nat) (k : Int32) (gc : (Nat → Int32)) (H : Heap) (locs : List Loc) (ls : Array Slot), (8 - k.toInt).toNat < ddloop150 → (0 ≤ k.toInt ∧ k.toInt ≤ 8) → (SeenX gc) → va_P D vwCl (mX mm q jn cI z_8 z_8 (0 : Int32) r_2 (-1 : Int32) y5_2 y6_2 y7_2 y8_2 y9_2 y10_2 y11_2 y12_2 y13_2 y14_2 x15 x16 x17 x18 x19 x20 ga gc f2 g3_2 g4_2 g5_2 g6_2 g7_2 g8_2 g9_2 g10_2 g11_2 f12 f13 f14 f15 f16 f17 f18 f19 f20 f21 f22 f23 f24) H → va_D A (mX mm q jn cI z_8 z_8 (0 : Int32) r_2 (-1 : Int32) y5_2 y6_2 y7_2 y8_2 y9_2 y10_2 y11_2 y12_2 y13_2 y14_2 x15 x16 x17 x18 x19 x20 ga gc f2 g3_2 g4_2 g5_2 g6_2 g7_2 g8_2 g9_2 g10_2 g11_2 f12 f13 f14 f15 f16 f17 f18 f19 f20 f21 f22 f23 f24) → va_S A s.heap H locs → lv_has ls 4 [(0, .ref mm), (1, .int k)] → W p l e ({ frames := 10, cells := 0, slots := 0, locals := 224 }) s m args below meth c H locs 0 0 Q (F0 m 150 ls []) := by
              intro ddloop150
              induction ddloop150 with
              | zero =>
                intro k gc H locs ls hdd
                exact absurd hdd (Nat.not_lt_zero _)
              | succ ddloop150 ih150 =>
                intro k gc H locs ls hdd hk hSe hP hD hS hl
                refine lv_iload_n hx hb dX11_text_150 rfl (lv_at hl 1 rfl) ?_
                refine lv_bipush (v := 8) hx hb dX11_text_151 (by decide) ?_
                refine a_icmp_ge (u := k.toInt) (v := 8) (tgt := 182) hx hb dX11_text_153 (by decide) (rfl) (by decide) (fun c_10 => ?_) (fun c_10 => ?_)
                · refine lv_aload_n hx hb dX11_text_182 rfl (lv_at hl 0 rfl) ?_
                  refine va_get (D := D) (ci := 11) (v := .int z_8) (C := RX11) (T := TX11) (N := 47) hx hb hts (by decide +kernel) hown hK.1 hP 0 rfl rfl 3 (by decide) (hts (.fieldLink RX11 185 "JugglingHallModel" "time" "I") (by decide +kernel)) (fun _ h9 => h9) rfl dX11_text_183 ?_
                  have hz_11 : (0 : Int32).toInt = 0 := by decide
                  have hz_12 : (-1 : Int32).toInt = (-1) := by decide
                  exact g_iret (z_8, z_8, z_8, (0 : Int32), r_2, (-1 : Int32), y5_2, y6_2, y7_2, y8_2, y9_2, y10_2, y11_2, y12_2, y13_2, y14_2, ga, gc, g3_2, g4_2, g5_2, g6_2, g7_2, g8_2, g9_2, g10_2, g11_2) hx hb hr hlocks hS rfl (⟨show 0 ≤ z_8.toInt ∧ z_8.toInt ≤ 60 from (by first | assumption | omega), show 0 ≤ z_8.toInt ∧ z_8.toInt ≤ 60 from (by first | assumption | omega), show 0 ≤ (0 : Int32).toInt ∧ (0 : Int32).toInt ≤ 300 from (by first | assumption | omega), show RowsX jn ga from (by first | assumption | omega), show RowsZ jn ga from (by first | assumption | omega), show SeenX gc from (by first | assumption | omega), show MK g11_2 from (by first | assumption | omega), show FM g10_2 from (by first | assumption | omega)⟩) hP hD hQ (Nat.le_of_ble_eq_true rfl) (Nat.le_of_ble_eq_true rfl) dX11_text_186
                · refine lv_aload_n hx hb dX11_text_156 rfl (lv_at hl 0 rfl) ?_
                  refine va_get (D := D) (ci := 11) (v := .ref (q 1)) (C := RX11) (T := TX11) (N := 47) hx hb hts (by decide +kernel) hown hK.1 hP 0 rfl rfl 2 (by decide) (hts (.fieldLink RX11 14 "JugglingHallModel" "seenRows" "[I") (by decide +kernel)) (fun _ h9 => h9) rfl dX11_text_157 ?_
                  refine lv_bipush (v := 8) hx hb dX11_text_160 (by decide) ?_
                  refine lv_aload_n hx hb dX11_text_162 rfl (lv_at hl 0 rfl) ?_
                  refine va_get (D := D) (ci := 11) (v := .int z_8) (C := RX11) (T := TX11) (N := 47) hx hb hts (by decide +kernel) hown hK.1 hP 0 rfl rfl 3 (by decide) (hts (.fieldLink RX11 185 "JugglingHallModel" "time" "I") (by decide +kernel)) (fun _ h9 => h9) rfl dX11_text_163 ?_
                  refine a_imul (u := 8) (v := (x0.toInt + 1)) hx hb dX11_text_166 (by decide) (e_8) (by omega) (fun z_13 e_13 => ?_)
                  refine lv_iload_n hx hb dX11_text_167 rfl (lv_at hl 1 rfl) ?_
                  refine a_iadd (u := (8 * (x0.toInt + 1))) (v := k.toInt) hx hb dX11_text_168 (e_13) (rfl) (by omega) (fun z_14 e_14 => ?_)
                  refine lv_aload_n hx hb dX11_text_169 rfl (lv_at hl 0 rfl) ?_
                  refine va_get (D := D) (ci := 11) (v := .ref (q 10)) (C := RX11) (T := TX11) (N := 47) hx hb hts (by decide +kernel) hown hK.1 hP 0 rfl rfl 24 (by decide) (hts (.fieldLink RX11 48 "JugglingHallModel" "freshMarks" "[I") (by decide +kernel)) (fun _ h9 => h9) rfl dX11_text_170 ?_
                  refine lv_iload_n hx hb dX11_text_173 rfl (lv_at hl 1 rfl) ?_
                  refine a_iald (f := g10_2) (u := k.toInt) hx hb hK.1 hP 11 0 rfl rfl dX11_text_174 (rfl) (by omega) (fun z_15 q_15 e_15 => ?_)
                  refine ma_1 (u := ((8 * (x0.toInt + 1)) + k.toInt)) hx hb hK hP hD hS dX11_text_175 (e_14) (by omega) (fun g_16 H locs eg_16 hP hD hS => ?_)
                  obtain ⟨z_17, q_17, e_17⟩ := i_inc (a := k.toInt) (1) (rfl) (by decide) (by omega) (by omega)
                  refine lv_iinc (v := z_17) (lv' := [(1, .int z_17), (0, .ref mm)]) hx hb dX11_text_176 hl (k := 1) rfl q_17 (by decide) rfl (fun ls hl => ?_)
                  refine lv_goto (tgt := 150) hx hb dX11_text_179 (by decide) ?_
                  exact ih150 z_17 g_16 _ _ _ (by omega) (by first | assumption | omega) (seen_set (t := z_8.toInt) (k := k.toInt) hSe (by omega) (fun i i0 i1 => by rw [eg_16, un_i i0 (by omega) (by omega)]) (fun e => by rw [eg_16, show 8 * z_8.toInt + k.toInt = ((8 * (x0.toInt + 1)) + k.toInt) by omega, pk_us, q_15, show k.toInt = 0 by omega]; exact hFm_2.1) (fun e => by rw [eg_16, show 8 * z_8.toInt + k.toInt = ((8 * (x0.toInt + 1)) + k.toInt) by omega, pk_us, q_15]; exact hFm_2.2 _ (by omega) (by omega))) hP hD hS (lv_sub hl [1, 0] rfl)
            have hz_18 : (0 : Int32).toInt = 0 := by decide
            exact loop150 ((8 - (0 : Int32).toInt).toNat + 1) (0 : Int32) f1 _ _ _ (by omega) (by first | assumption | omega) (hSe) hP hD hS (lv_sub hl [1, 0] rfl)
          · refine lv_aload_n hx hb dX11_text_78 rfl (lv_at hl 0 rfl) ?_
            refine va_get (D := D) (ci := 11) (v := .int z_8) (C := RX11) (T := TX11) (N := 47) hx hb hts (by decide +kernel) hown hK.1 hP 0 rfl rfl 3 (by decide) (hts (.fieldLink RX11 185 "JugglingHallModel" "time" "I") (by decide +kernel)) (fun _ h9 => h9) rfl dX11_text_79 ?_
            refine lv_iload_n hx hb dX11_text_82 rfl (lv_at hl 1 rfl) ?_
            refine roP (va_runS (As := [.int z_8, .int lx]) (rest := []) ⟨hx, hb, hml, hown, hts⟩ (k_rowAt l D cI cR cM _  (by first | assumption | omega) (by first | assumption | omega)) (va_cwS 2 hts gX11_text_X11_rowAt rfl rfl rfl (by decide +kernel) ⟨Nat.le_of_ble_eq_true rfl, Nat.le_of_ble_eq_true rfl⟩) (pre_S hK va_P_nil (va_D_nil (A := fun _ => True))) rfl rfl hl.1 rfl (lv_room (Nat.le_of_ble_eq_true rfl)) dX11_text_83 ⟨Nat.le_of_ble_eq_true rfl, Nat.le_of_ble_eq_true rfl⟩) hS hA hP (fun r_19 H locs hw hP hS => ?_)
            have h_19 : (r_19.toInt = 150 * (8 * z_8.toInt + lx.toInt)) := hw
            refine lv_istore_n (lv' := [(2, .int r_19), (0, .ref mm), (1, .int lx)]) hx hb dX11_text_86 rfl hl (by decide) rfl (fun ls hl => ?_)
            refine lv_aload_n hx hb dX11_text_87 rfl (lv_at hl 1 rfl) ?_
            refine va_get (D := D) (ci := 11) (v := .ref (q 0)) (C := RX11) (T := TX11) (N := 47) hx hb hts (by decide +kernel) hown hK.1 hP 0 rfl rfl 1 (by decide) (hts (.fieldLink RX11 8 "JugglingHallModel" "rows" "[I") (by decide +kernel)) (fun _ h9 => h9) rfl dX11_text_88 ?_
            refine lv_iload_n hx hb dX11_text_91 rfl (lv_at hl 0 rfl) ?_
            refine lv_aload_n hx hb dX11_text_92 rfl (lv_at hl 1 rfl) ?_
            refine va_get (D := D) (ci := 11) (v := .ref (q 8)) (C := RX11) (T := TX11) (N := 47) hx hb hts (by decide +kernel) hown hK.1 hP 0 rfl rfl 22 (by decide) (hts (.fieldLink RX11 42 "JugglingHallModel" "freshMany" "[I") (by decide +kernel)) (fun _ h9 => h9) rfl dX11_text_93 ?_
            refine lv_iload_n hx hb dX11_text_96 rfl (lv_at hl 2 rfl) ?_
            refine a_iald (f := g8_2) (u := lx.toInt) hx hb hK.1 hP 9 0 rfl rfl dX11_text_97 (rfl) (by omega) (fun z_20 q_20 e_20 => ?_)
            refine ma_0 (u := r_19.toInt) hx hb hK hP hD hS dX11_text_98 (rfl) (by omega) (fun g_21 H locs eg_21 hP hD hS => ?_)
            have hro0 : ∀ i : Int, 0 ≤ i → (i < (150 * (8 * z_8.toInt + lx.toInt)) ∨ (150 * (8 * z_8.toInt + lx.toInt)) + 150 ≤ i) → g_21 i.toNat = ga i.toNat := fun i i0 i1 => by rw [eg_21, un_i i0 (by omega) (by omega)]
            have hrw0 : g_21 (150 * (8 * z_8.toInt + lx.toInt)).toNat = g8_2 lx.toInt.toNat := by rw [eg_21, show (150 * (8 * z_8.toInt + lx.toInt)) = r_19.toInt by omega, pk_us, q_20]
            obtain ⟨hf1, hf2, hf3⟩ := hFr_2 lx.toInt (by omega) (by omega)
            refine lv_iconst (v := 0) hx hb dX11_text_99 (by decide) ?_
            refine lv_istore_n (lv' := [(3, .int 0), (2, .int r_19), (0, .ref mm), (1, .int lx)]) hx hb dX11_text_100 rfl hl (by decide) rfl (fun ls hl => ?_)
            have loop101 : ∀ (ddloop101 : Nat) (k : Int32) (gb : (Nat → Int32)) (H : Heap) (locs : List Loc) (ls : Array Slot), (6 * (g8_2 lx.toInt.toNat).toInt - k.toInt).toNat < ddloop101 → (0 ≤ k.toInt ∧ k.toInt ≤ 6 * (g8_2 lx.toInt.toNat).toInt) → (∀ i : Int, 0 ≤ i → (i < (150 * (8 * z_8.toInt + lx.toInt)) ∨ (150 * (8 * z_8.toInt + lx.toInt)) + 150 ≤ i) → gb i.toNat = ga i.toNat) → (gb (150 * (8 * z_8.toInt + lx.toInt)).toNat = g8_2 lx.toInt.toNat) → (∀ i : Int, 0 ≤ i → i < k.toInt → gb ((150 * (8 * z_8.toInt + lx.toInt)) + 1 + i).toNat = g9_2 (144 * lx.toInt + i).toNat) → va_P D vwCl (mX mm q jn cI z_8 z_8 (0 : Int32) r_2 (-1 : Int32) y5_2 y6_2 y7_2 y8_2 y9_2 y10_2 y11_2 y12_2 y13_2 y14_2 x15 x16 x17 x18 x19 x20 gb f1 f2 g3_2 g4_2 g5_2 g6_2 g7_2 g8_2 g9_2 g10_2 g11_2 f12 f13 f14 f15 f16 f17 f18 f19 f20 f21 f22 f23 f24) H → va_D A (mX mm q jn cI z_8 z_8 (0 : Int32) r_2 (-1 : Int32) y5_2 y6_2 y7_2 y8_2 y9_2 y10_2 y11_2 y12_2 y13_2 y14_2 x15 x16 x17 x18 x19 x20 gb f1 f2 g3_2 g4_2 g5_2 g6_2 g7_2 g8_2 g9_2 g10_2 g11_2 f12 f13 f14 f15 f16 f17 f18 f19 f20 f21 f22 f23 f24) → va_S A s.heap H locs → lv_has ls 4 [(0, .ref mm), (1, .int lx), (2, .int r_19), (3, .int k)] → W p l e ({ frames := 10, cells := 0, slots := 0, locals := 224 }) s m args below meth c H locs 0 0 Q (F0 m 101 ls []) := by
              intro ddloop101
              induction ddloop101 with
              | zero =>
                intro k gb H locs ls hdd
                exact absurd hdd (Nat.not_lt_zero _)
              | succ ddloop101 ih101 =>
                intro k gb H locs ls hdd hk hro hrw hrc hP hD hS hl
                refine lv_iload_n hx hb dX11_text_101 rfl (lv_at hl 3 rfl) ?_
                refine lv_bipush (v := 6) hx hb dX11_text_102 (by decide) ?_
                refine lv_aload_n hx hb dX11_text_104 rfl (lv_at hl 0 rfl) ?_
                refine va_get (D := D) (ci := 11) (v := .ref (q 8)) (C := RX11) (T := TX11) (N := 47) hx hb hts (by decide +kernel) hown hK.1 hP 0 rfl rfl 22 (by decide) (hts (.fieldLink RX11 42 "JugglingHallModel" "freshMany" "[I") (by decide +kernel)) (fun _ h9 => h9) rfl dX11_text_105 ?_
                refine lv_iload_n hx hb dX11_text_108 rfl (lv_at hl 1 rfl) ?_
                refine a_iald (f := g8_2) (u := lx.toInt) hx hb hK.1 hP 9 0 rfl rfl dX11_text_109 (rfl) (by omega) (fun z_22 q_22 e_22 => ?_)
                have hz9_22 : z_22.toInt = (g8_2 lx.toInt.toNat).toInt := by rw [q_22]
                refine a_imul (u := 6) (v := z_22.toInt) hx hb dX11_text_110 (by decide) (rfl) (by omega) (fun z_23 e_23 => ?_)
                refine a_icmp_ge (u := k.toInt) (v := (6 * z_22.toInt)) (tgt := 142) hx hb dX11_text_111 (by decide) (rfl) (e_23) (fun c_24 => ?_) (fun c_24 => ?_)
                · have hR9 : RowsX jn gb := rows_set (t := z_8.toInt) (k := lx.toInt) hRa (by omega) (by omega) hro hrw (fun i i0 i1 => hrc i i0 (by omega)) hFr_2
                  have hZ9 : RowsZ jn gb := rowz_set (t := z_8.toInt) (k := lx.toInt) hRa hZa (by omega) (by omega) hro hrw (fun i i0 i1 => hrc i i0 (by omega)) hFZ_2
                  obtain ⟨z_25, q_25, e_25⟩ := i_inc (a := lx.toInt) (1) (rfl) (by decide) (by omega) (by omega)
                  refine lv_iinc (v := z_25) (lv' := [(1, .int z_25), (0, .ref mm), (2, .int r_19), (3, .int k)]) hx hb dX11_text_142 hl (k := 1) rfl q_25 (by decide) rfl (fun ls hl => ?_)
                  refine lv_goto (tgt := 72) hx hb dX11_text_145 (by decide) ?_
                  exact ih72 z_25 gb _ _ _ (by omega) (by first | assumption | omega) (by first | assumption | omega) (by first | assumption | omega) hP hD hS (lv_sub hl [1, 0] rfl)
                · refine lv_aload_n hx hb dX11_text_114 rfl (lv_at hl 0 rfl) ?_
                  refine va_get (D := D) (ci := 11) (v := .ref (q 0)) (C := RX11) (T := TX11) (N := 47) hx hb hts (by decide +kernel) hown hK.1 hP 0 rfl rfl 1 (by decide) (hts (.fieldLink RX11 8 "JugglingHallModel" "rows" "[I") (by decide +kernel)) (fun _ h9 => h9) rfl dX11_text_115 ?_
                  refine lv_iload_n hx hb dX11_text_118 rfl (lv_at hl 2 rfl) ?_
                  refine lv_iconst (v := 1) hx hb dX11_text_119 (by decide) ?_
                  refine a_iadd (u := r_19.toInt) (v := 1) hx hb dX11_text_120 (rfl) (by decide) (by omega) (fun z_26 e_26 => ?_)
                  refine lv_iload_n hx hb dX11_text_121 rfl (lv_at hl 3 rfl) ?_
                  refine a_iadd (u := (r_19.toInt + 1)) (v := k.toInt) hx hb dX11_text_122 (e_26) (rfl) (by omega) (fun z_27 e_27 => ?_)
                  refine lv_aload_n hx hb dX11_text_123 rfl (lv_at hl 0 rfl) ?_
                  refine va_get (D := D) (ci := 11) (v := .ref (q 9)) (C := RX11) (T := TX11) (N := 47) hx hb hts (by decide +kernel) hown hK.1 hP 0 rfl rfl 23 (by decide) (hts (.fieldLink RX11 45 "JugglingHallModel" "fresh" "[I") (by decide +kernel)) (fun _ h9 => h9) rfl dX11_text_124 ?_
                  refine lv_sipush (v := 144) hx hb dX11_text_127 (by decide) ?_
                  refine lv_iload_n hx hb dX11_text_130 rfl (lv_at hl 1 rfl) ?_
                  refine a_imul (u := 144) (v := lx.toInt) hx hb dX11_text_131 (by decide) (rfl) (by omega) (fun z_28 e_28 => ?_)
                  refine lv_iload_n hx hb dX11_text_132 rfl (lv_at hl 3 rfl) ?_
                  refine a_iadd (u := (144 * lx.toInt)) (v := k.toInt) hx hb dX11_text_133 (e_28) (rfl) (by omega) (fun z_29 e_29 => ?_)
                  refine a_iald (f := g9_2) (u := ((144 * lx.toInt) + k.toInt)) hx hb hK.1 hP 10 0 rfl rfl dX11_text_134 (e_29) (by omega) (fun z_30 q_30 e_30 => ?_)
                  refine ma_0 (u := ((r_19.toInt + 1) + k.toInt)) hx hb hK hP hD hS dX11_text_135 (e_27) (by omega) (fun g_31 H locs eg_31 hP hD hS => ?_)
                  obtain ⟨z_32, q_32, e_32⟩ := i_inc (a := k.toInt) (1) (rfl) (by decide) (by omega) (by omega)
                  refine lv_iinc (v := z_32) (lv' := [(3, .int z_32), (0, .ref mm), (1, .int lx), (2, .int r_19)]) hx hb dX11_text_136 hl (k := 3) rfl q_32 (by decide) rfl (fun ls hl => ?_)
                  refine lv_goto (tgt := 101) hx hb dX11_text_139 (by decide) ?_
                  exact ih101 z_32 g_31 _ _ _ (by omega) (by first | assumption | omega) (fun i i0 i1 => by rw [eg_31, un_i i0 (by omega) (by omega)]; exact hro i i0 i1) (by rw [eg_31, un_i (by omega) (by omega) (by omega)]; exact hrw) (fun i i0 i1 => by
                    by_cases q : i = k.toInt
                    · rw [eg_31, q, show (150 * (8 * z_8.toInt + lx.toInt)) + 1 + k.toInt = ((r_19.toInt + 1) + k.toInt) by omega, pk_us, q_30, show ((144 * lx.toInt) + k.toInt) = 144 * lx.toInt + k.toInt by omega]
                    · rw [eg_31, un_i (by omega) (by omega) (by omega)]; exact hrc i i0 (by omega)) hP hD hS (lv_sub hl [1, 2, 3, 0] rfl)
            have hz_33 : (0 : Int32).toInt = 0 := by decide
            exact loop101 ((6 * (g8_2 lx.toInt.toNat).toInt - (0 : Int32).toInt).toNat + 1) (0 : Int32) g_21 _ _ _ (by omega) (by first | assumption | omega) (hro0) (hrw0) (fun i i0 i1 => absurd i1 (by omega)) hP hD hS (lv_sub hl [2, 3, 1, 0] rfl)
      have hz_34 : (0 : Int32).toInt = 0 := by decide
      exact loop72 ((8 - (0 : Int32).toInt).toNat + 1) (0 : Int32) f0 _ _ _ (by omega) (by first | assumption | omega) (by first | assumption | omega) (by first | assumption | omega) hP hD hS (lv_sub hl [1, 0] rfl)
  · refine lv_iconst (v := (-1)) hx hb dX11_text_9 (by decide) ?_
    have hz_35 : (-1 : Int32).toInt = (-1) := by decide
    exact g_iret ((-1 : Int32), x0, x1, x2, x3, x4, x5, x6, x7, x8, x9, x10, x11, x12, x13, x14, f0, f1, f3, f4, f5, f6, f7, f8, f9, f10, f11) hx hb hr hlocks hS rfl (⟨show 0 ≤ x0.toInt ∧ x0.toInt ≤ 60 from (by first | assumption | omega), show 0 ≤ x1.toInt ∧ x1.toInt ≤ 60 from (by first | assumption | omega), show 0 ≤ x2.toInt ∧ x2.toInt ≤ 300 from (by first | assumption | omega), show RowsX jn f0 from (by first | assumption | omega), show RowsZ jn f0 from (by first | assumption | omega), show SeenX f1 from (by first | assumption | omega), show MK f11 from (by first | assumption | omega), show FM f10 from (by first | assumption | omega)⟩) hP hD hQ (Nat.le_of_ble_eq_true rfl) (Nat.le_of_ble_eq_true rfl) dX11_text_10
