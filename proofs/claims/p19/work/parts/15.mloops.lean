theorem dX11_isWalked_0 : decode cX11_isWalked 0 = .ok (.iconst 0, 1) := by decide +kernel
theorem dX11_isWalked_1 : decode cX11_isWalked 1 = .ok (.istore_n 3, 1) := by decide +kernel
theorem dX11_isWalked_2 : decode cX11_isWalked 2 = .ok (.iload_n 3, 1) := by decide +kernel
theorem dX11_isWalked_3 : decode cX11_isWalked 3 = .ok (.iload_n 2, 1) := by decide +kernel
theorem dX11_isWalked_4 : decode cX11_isWalked 4 = .ok (.if_icmp .ge 21, 3) := by decide +kernel
theorem dX11_isWalked_7 : decode cX11_isWalked 7 = .ok (.aload_n 0, 1) := by decide +kernel
theorem dX11_isWalked_8 : decode cX11_isWalked 8 = .ok (.getfield 75, 3) := by decide +kernel
theorem dX11_isWalked_11 : decode cX11_isWalked 11 = .ok (.iload_n 3, 1) := by decide +kernel
theorem dX11_isWalked_12 : decode cX11_isWalked 12 = .ok (.iaload, 1) := by decide +kernel
theorem dX11_isWalked_13 : decode cX11_isWalked 13 = .ok (.iload_n 1, 1) := by decide +kernel
theorem dX11_isWalked_14 : decode cX11_isWalked 14 = .ok (.if_icmp .ne 5, 3) := by decide +kernel
theorem dX11_isWalked_17 : decode cX11_isWalked 17 = .ok (.iconst 1, 1) := by decide +kernel
theorem dX11_isWalked_18 : decode cX11_isWalked 18 = .ok (.ireturn, 1) := by decide +kernel
theorem dX11_isWalked_19 : decode cX11_isWalked 19 = .ok (.iinc 3 1, 3) := by decide +kernel
theorem dX11_isWalked_22 : decode cX11_isWalked 22 = .ok (.goto (-20), 3) := by decide +kernel
theorem dX11_isWalked_25 : decode cX11_isWalked 25 = .ok (.iconst 0, 1) := by decide +kernel
theorem dX11_isWalked_26 : decode cX11_isWalked 26 = .ok (.ireturn, 1) := by decide +kernel
theorem dX11_loopsFrom_0 : decode cX11_loopsFrom 0 = .ok (.iconst 0, 1) := by decide +kernel
theorem dX11_loopsFrom_1 : decode cX11_loopsFrom 1 = .ok (.istore 4, 2) := by decide +kernel
theorem dX11_loopsFrom_3 : decode cX11_loopsFrom 3 = .ok (.iconst 0, 1) := by decide +kernel
theorem dX11_loopsFrom_4 : decode cX11_loopsFrom 4 = .ok (.istore 5, 2) := by decide +kernel
theorem dX11_loopsFrom_6 : decode cX11_loopsFrom 6 = .ok (.aload_n 0, 1) := by decide +kernel
theorem dX11_loopsFrom_7 : decode cX11_loopsFrom 7 = .ok (.getfield 75, 3) := by decide +kernel
theorem dX11_loopsFrom_10 : decode cX11_loopsFrom 10 = .ok (.iconst 0, 1) := by decide +kernel
theorem dX11_loopsFrom_11 : decode cX11_loopsFrom 11 = .ok (.iload_n 1, 1) := by decide +kernel
theorem dX11_loopsFrom_12 : decode cX11_loopsFrom 12 = .ok (.iastore, 1) := by decide +kernel
theorem dX11_loopsFrom_13 : decode cX11_loopsFrom 13 = .ok (.aload_n 0, 1) := by decide +kernel
theorem dX11_loopsFrom_14 : decode cX11_loopsFrom 14 = .ok (.getfield 78, 3) := by decide +kernel
theorem dX11_loopsFrom_17 : decode cX11_loopsFrom 17 = .ok (.iconst 0, 1) := by decide +kernel
theorem dX11_loopsFrom_18 : decode cX11_loopsFrom 18 = .ok (.iconst (-1), 1) := by decide +kernel
theorem dX11_loopsFrom_19 : decode cX11_loopsFrom 19 = .ok (.iastore, 1) := by decide +kernel
theorem dX11_loopsFrom_20 : decode cX11_loopsFrom 20 = .ok (.iload 5, 2) := by decide +kernel
theorem dX11_loopsFrom_22 : decode cX11_loopsFrom 22 = .ok (.ifCond .lt 130, 3) := by decide +kernel
theorem dX11_loopsFrom_25 : decode cX11_loopsFrom 25 = .ok (.aload_n 0, 1) := by decide +kernel
theorem dX11_loopsFrom_26 : decode cX11_loopsFrom 26 = .ok (.getfield 78, 3) := by decide +kernel
theorem dX11_loopsFrom_29 : decode cX11_loopsFrom 29 = .ok (.iload 5, 2) := by decide +kernel
theorem dX11_loopsFrom_31 : decode cX11_loopsFrom 31 = .ok (.dup2, 1) := by decide +kernel
theorem dX11_loopsFrom_32 : decode cX11_loopsFrom 32 = .ok (.iaload, 1) := by decide +kernel
theorem dX11_loopsFrom_33 : decode cX11_loopsFrom 33 = .ok (.iconst 1, 1) := by decide +kernel
theorem dX11_loopsFrom_34 : decode cX11_loopsFrom 34 = .ok (.iadd, 1) := by decide +kernel
theorem dX11_loopsFrom_35 : decode cX11_loopsFrom 35 = .ok (.iastore, 1) := by decide +kernel
theorem dX11_loopsFrom_36 : decode cX11_loopsFrom 36 = .ok (.aload_n 0, 1) := by decide +kernel
theorem dX11_loopsFrom_37 : decode cX11_loopsFrom 37 = .ok (.getfield 78, 3) := by decide +kernel
theorem dX11_loopsFrom_40 : decode cX11_loopsFrom 40 = .ok (.iload 5, 2) := by decide +kernel
theorem dX11_loopsFrom_42 : decode cX11_loopsFrom 42 = .ok (.iaload, 1) := by decide +kernel
theorem dX11_loopsFrom_43 : decode cX11_loopsFrom 43 = .ok (.iload_n 2, 1) := by decide +kernel
theorem dX11_loopsFrom_44 : decode cX11_loopsFrom 44 = .ok (.if_icmp .le 9, 3) := by decide +kernel
theorem dX11_loopsFrom_47 : decode cX11_loopsFrom 47 = .ok (.iinc 5 (-1), 3) := by decide +kernel
theorem dX11_loopsFrom_50 : decode cX11_loopsFrom 50 = .ok (.goto (-30), 3) := by decide +kernel
theorem dX11_loopsFrom_53 : decode cX11_loopsFrom 53 = .ok (.aload_n 0, 1) := by decide +kernel
theorem dX11_loopsFrom_54 : decode cX11_loopsFrom 54 = .ok (.getfield 75, 3) := by decide +kernel
theorem dX11_loopsFrom_57 : decode cX11_loopsFrom 57 = .ok (.iload 5, 2) := by decide +kernel
theorem dX11_loopsFrom_59 : decode cX11_loopsFrom 59 = .ok (.iaload, 1) := by decide +kernel
theorem dX11_loopsFrom_60 : decode cX11_loopsFrom 60 = .ok (.aload_n 0, 1) := by decide +kernel
theorem dX11_loopsFrom_61 : decode cX11_loopsFrom 61 = .ok (.getfield 78, 3) := by decide +kernel
theorem dX11_loopsFrom_64 : decode cX11_loopsFrom 64 = .ok (.iload 5, 2) := by decide +kernel
theorem dX11_loopsFrom_66 : decode cX11_loopsFrom 66 = .ok (.iaload, 1) := by decide +kernel
theorem dX11_loopsFrom_67 : decode cX11_loopsFrom 67 = .ok (.invokestatic 292, 3) := by decide +kernel
theorem dX11_loopsFrom_70 : decode cX11_loopsFrom 70 = .ok (.istore 6, 2) := by decide +kernel
theorem dX11_loopsFrom_72 : decode cX11_loopsFrom 72 = .ok (.iload 6, 2) := by decide +kernel
theorem dX11_loopsFrom_74 : decode cX11_loopsFrom 74 = .ok (.ifCond .ge 6, 3) := by decide +kernel
theorem dX11_loopsFrom_77 : decode cX11_loopsFrom 77 = .ok (.goto (-57), 3) := by decide +kernel
theorem dX11_loopsFrom_80 : decode cX11_loopsFrom 80 = .ok (.iload 5, 2) := by decide +kernel
theorem dX11_loopsFrom_82 : decode cX11_loopsFrom 82 = .ok (.iload_n 3, 1) := by decide +kernel
theorem dX11_loopsFrom_83 : decode cX11_loopsFrom 83 = .ok (.iconst 1, 1) := by decide +kernel
theorem dX11_loopsFrom_84 : decode cX11_loopsFrom 84 = .ok (.isub, 1) := by decide +kernel
theorem dX11_loopsFrom_85 : decode cX11_loopsFrom 85 = .ok (.if_icmp .ne 22, 3) := by decide +kernel
theorem dX11_loopsFrom_88 : decode cX11_loopsFrom 88 = .ok (.iload 4, 2) := by decide +kernel
theorem dX11_loopsFrom_90 : decode cX11_loopsFrom 90 = .ok (.iload 6, 2) := by decide +kernel
theorem dX11_loopsFrom_92 : decode cX11_loopsFrom 92 = .ok (.iload_n 1, 1) := by decide +kernel
theorem dX11_loopsFrom_93 : decode cX11_loopsFrom 93 = .ok (.if_icmp .ne 7, 3) := by decide +kernel
theorem dX11_loopsFrom_96 : decode cX11_loopsFrom 96 = .ok (.iconst 1, 1) := by decide +kernel
theorem dX11_loopsFrom_97 : decode cX11_loopsFrom 97 = .ok (.goto 4, 3) := by decide +kernel
theorem dX11_loopsFrom_100 : decode cX11_loopsFrom 100 = .ok (.iconst 0, 1) := by decide +kernel
theorem dX11_loopsFrom_101 : decode cX11_loopsFrom 101 = .ok (.iadd, 1) := by decide +kernel
theorem dX11_loopsFrom_102 : decode cX11_loopsFrom 102 = .ok (.istore 4, 2) := by decide +kernel
theorem dX11_loopsFrom_104 : decode cX11_loopsFrom 104 = .ok (.goto (-84), 3) := by decide +kernel
theorem dX11_loopsFrom_107 : decode cX11_loopsFrom 107 = .ok (.iload 6, 2) := by decide +kernel
theorem dX11_loopsFrom_109 : decode cX11_loopsFrom 109 = .ok (.iload_n 1, 1) := by decide +kernel
theorem dX11_loopsFrom_110 : decode cX11_loopsFrom 110 = .ok (.if_icmp .le (-90), 3) := by decide +kernel
theorem dX11_loopsFrom_113 : decode cX11_loopsFrom 113 = .ok (.aload_n 0, 1) := by decide +kernel
theorem dX11_loopsFrom_114 : decode cX11_loopsFrom 114 = .ok (.iload 6, 2) := by decide +kernel
theorem dX11_loopsFrom_116 : decode cX11_loopsFrom 116 = .ok (.iload 5, 2) := by decide +kernel
theorem dX11_loopsFrom_118 : decode cX11_loopsFrom 118 = .ok (.iconst 1, 1) := by decide +kernel
theorem dX11_loopsFrom_119 : decode cX11_loopsFrom 119 = .ok (.iadd, 1) := by decide +kernel
theorem dX11_loopsFrom_120 : decode cX11_loopsFrom 120 = .ok (.invokevirtual 301, 3) := by decide +kernel
theorem dX11_loopsFrom_123 : decode cX11_loopsFrom 123 = .ok (.ifCond .eq 6, 3) := by decide +kernel
theorem dX11_loopsFrom_126 : decode cX11_loopsFrom 126 = .ok (.goto (-106), 3) := by decide +kernel
theorem dX11_loopsFrom_129 : decode cX11_loopsFrom 129 = .ok (.iinc 5 1, 3) := by decide +kernel
theorem dX11_loopsFrom_132 : decode cX11_loopsFrom 132 = .ok (.aload_n 0, 1) := by decide +kernel
theorem dX11_loopsFrom_133 : decode cX11_loopsFrom 133 = .ok (.getfield 75, 3) := by decide +kernel
theorem dX11_loopsFrom_136 : decode cX11_loopsFrom 136 = .ok (.iload 5, 2) := by decide +kernel
theorem dX11_loopsFrom_138 : decode cX11_loopsFrom 138 = .ok (.iload 6, 2) := by decide +kernel
theorem dX11_loopsFrom_140 : decode cX11_loopsFrom 140 = .ok (.iastore, 1) := by decide +kernel
theorem dX11_loopsFrom_141 : decode cX11_loopsFrom 141 = .ok (.aload_n 0, 1) := by decide +kernel
theorem dX11_loopsFrom_142 : decode cX11_loopsFrom 142 = .ok (.getfield 78, 3) := by decide +kernel
theorem dX11_loopsFrom_145 : decode cX11_loopsFrom 145 = .ok (.iload 5, 2) := by decide +kernel
theorem dX11_loopsFrom_147 : decode cX11_loopsFrom 147 = .ok (.iconst (-1), 1) := by decide +kernel
theorem dX11_loopsFrom_148 : decode cX11_loopsFrom 148 = .ok (.iastore, 1) := by decide +kernel
theorem dX11_loopsFrom_149 : decode cX11_loopsFrom 149 = .ok (.goto (-129), 3) := by decide +kernel
theorem dX11_loopsFrom_152 : decode cX11_loopsFrom 152 = .ok (.iload 4, 2) := by decide +kernel
theorem dX11_loopsFrom_154 : decode cX11_loopsFrom 154 = .ok (.ireturn, 1) := by decide +kernel
theorem dX11_loops_0 : decode cX11_loops 0 = .ok (.iload_n 1, 1) := by decide +kernel
theorem dX11_loops_1 : decode cX11_loops 1 = .ok (.iconst 0, 1) := by decide +kernel
theorem dX11_loops_2 : decode cX11_loops 2 = .ok (.iconst 5, 1) := by decide +kernel
theorem dX11_loops_3 : decode cX11_loops 3 = .ok (.invokestatic 100, 3) := by decide +kernel
theorem dX11_loops_6 : decode cX11_loops 6 = .ok (.ifCond .eq 22, 3) := by decide +kernel
theorem dX11_loops_9 : decode cX11_loops 9 = .ok (.iload_n 2, 1) := by decide +kernel
theorem dX11_loops_10 : decode cX11_loops 10 = .ok (.iconst 1, 1) := by decide +kernel
theorem dX11_loops_11 : decode cX11_loops 11 = .ok (.iconst 5, 1) := by decide +kernel
theorem dX11_loops_12 : decode cX11_loops 12 = .ok (.invokestatic 100, 3) := by decide +kernel
theorem dX11_loops_15 : decode cX11_loops 15 = .ok (.ifCond .eq 13, 3) := by decide +kernel
theorem dX11_loops_18 : decode cX11_loops 18 = .ok (.iload_n 3, 1) := by decide +kernel
theorem dX11_loops_19 : decode cX11_loops 19 = .ok (.iconst 1, 1) := by decide +kernel
theorem dX11_loops_20 : decode cX11_loops 20 = .ok (.bipush 10, 2) := by decide +kernel
theorem dX11_loops_22 : decode cX11_loops 22 = .ok (.invokestatic 100, 3) := by decide +kernel
theorem dX11_loops_25 : decode cX11_loops 25 = .ok (.ifCond .ne 5, 3) := by decide +kernel
theorem dX11_loops_28 : decode cX11_loops 28 = .ok (.iconst (-1), 1) := by decide +kernel
theorem dX11_loops_29 : decode cX11_loops 29 = .ok (.ireturn, 1) := by decide +kernel
theorem dX11_loops_30 : decode cX11_loops 30 = .ok (.iconst 0, 1) := by decide +kernel
theorem dX11_loops_31 : decode cX11_loops 31 = .ok (.istore 4, 2) := by decide +kernel
theorem dX11_loops_33 : decode cX11_loops 33 = .ok (.iconst 0, 1) := by decide +kernel
theorem dX11_loops_34 : decode cX11_loops 34 = .ok (.istore 5, 2) := by decide +kernel
theorem dX11_loops_36 : decode cX11_loops 36 = .ok (.iload 5, 2) := by decide +kernel
theorem dX11_loops_38 : decode cX11_loops 38 = .ok (.iconst 1, 1) := by decide +kernel
theorem dX11_loops_39 : decode cX11_loops 39 = .ok (.iload_n 2, 1) := by decide +kernel
theorem dX11_loops_40 : decode cX11_loops 40 = .ok (.ishl, 1) := by decide +kernel
theorem dX11_loops_41 : decode cX11_loops 41 = .ok (.if_icmp .ge 31, 3) := by decide +kernel
theorem dX11_loops_44 : decode cX11_loops 44 = .ok (.iload 5, 2) := by decide +kernel
theorem dX11_loops_46 : decode cX11_loops 46 = .ok (.invokestatic 304, 3) := by decide +kernel
theorem dX11_loops_49 : decode cX11_loops 49 = .ok (.iload_n 1, 1) := by decide +kernel
theorem dX11_loops_50 : decode cX11_loops 50 = .ok (.if_icmp .ne 16, 3) := by decide +kernel
theorem dX11_loops_53 : decode cX11_loops 53 = .ok (.iload 4, 2) := by decide +kernel
theorem dX11_loops_55 : decode cX11_loops 55 = .ok (.aload_n 0, 1) := by decide +kernel
theorem dX11_loops_56 : decode cX11_loops 56 = .ok (.iload 5, 2) := by decide +kernel
theorem dX11_loops_58 : decode cX11_loops 58 = .ok (.iload_n 2, 1) := by decide +kernel
theorem dX11_loops_59 : decode cX11_loops 59 = .ok (.iload_n 3, 1) := by decide +kernel
theorem dX11_loops_60 : decode cX11_loops 60 = .ok (.invokevirtual 307, 3) := by decide +kernel
theorem dX11_loops_63 : decode cX11_loops 63 = .ok (.iadd, 1) := by decide +kernel
theorem dX11_loops_64 : decode cX11_loops 64 = .ok (.istore 4, 2) := by decide +kernel
theorem dX11_loops_66 : decode cX11_loops 66 = .ok (.iinc 5 1, 3) := by decide +kernel
theorem dX11_loops_69 : decode cX11_loops 69 = .ok (.goto (-33), 3) := by decide +kernel
theorem dX11_loops_72 : decode cX11_loops 72 = .ok (.iload 4, 2) := by decide +kernel
theorem dX11_loops_74 : decode cX11_loops 74 = .ok (.ireturn, 1) := by decide +kernel
set_option maxRecDepth 20000 in
theorem ggX11_loopsFrom_X11_step : GoodIn wsX11_loopsFrom wsX11_step := goodIn_r _ [6] (by decide +kernel) (by decide +kernel)
set_option maxRecDepth 20000 in
theorem gX11_loopsFrom_X11_step : GoodIn wsX11_loopsFrom (va_wsS RX11 292 yX11_step wsX11_step) := goodIn_app (goodIn_of _ (by decide +kernel)) ggX11_loopsFrom_X11_step
set_option maxRecDepth 20000 in
theorem ggX11_loopsFrom_X11_isWalked : GoodIn wsX11_loopsFrom wsX11_isWalked := goodIn_r _ [10, 1, 11, 12, 13, 14, 15, 16, 17, 18, 19, 20, 21, 22, 23, 24, 25, 26, 27, 28, 29, 30, 31, 32, 33, 34, 35, 36, 37, 38, 39, 40, 41, 42, 43, 44, 45, 46, 47, 48, 49, 50, 51, 52, 53, 54, 55, 56, 57] (by decide +kernel) (by decide +kernel)
set_option maxRecDepth 20000 in
theorem gX11_loopsFrom_X11_isWalked : GoodIn wsX11_loopsFrom (wsV RX11 301 RX11 yX11_isWalked wsX11_isWalked) := goodIn_app (goodIn_of _ (by decide +kernel)) ggX11_loopsFrom_X11_isWalked
set_option maxRecDepth 20000 in
theorem ggX11_loops_X11_isIn : GoodIn wsX11_loops wsX11_isIn := goodIn_r _ [4] (by decide +kernel) (by decide +kernel)
set_option maxRecDepth 20000 in
theorem gX11_loops_X11_isIn : GoodIn wsX11_loops (va_wsS RX11 100 yX11_isIn wsX11_isIn) := goodIn_app (goodIn_of _ (by decide +kernel)) ggX11_loops_X11_isIn
set_option maxRecDepth 20000 in
theorem ggX11_loops_X11_bitsOf : GoodIn wsX11_loops wsX11_bitsOf := goodIn_r _ [7] (by decide +kernel) (by decide +kernel)
set_option maxRecDepth 20000 in
theorem gX11_loops_X11_bitsOf : GoodIn wsX11_loops (va_wsS RX11 304 yX11_bitsOf wsX11_bitsOf) := goodIn_app (goodIn_of _ (by decide +kernel)) ggX11_loops_X11_bitsOf
set_option maxRecDepth 20000 in
theorem ggX11_loops_X11_loopsFrom : GoodIn wsX11_loops wsX11_loopsFrom := goodIn_r _ [11, 12, 13, 14, 15, 3, 16, 17, 18, 19, 20, 21, 22, 23, 24, 25, 26, 27, 28, 29, 30, 31, 32, 33, 34, 35, 36, 37, 38, 39, 40, 41, 42, 43, 44, 45, 46, 47, 48, 49, 50, 51, 52, 53, 54, 55, 56, 57, 58, 59, 60, 61, 62, 63, 64, 65, 66, 67] (by decide +kernel) (by decide +kernel)
set_option maxRecDepth 20000 in
theorem gX11_loops_X11_loopsFrom : GoodIn wsX11_loops (wsV RX11 307 RX11 yX11_loopsFrom wsX11_loopsFrom) := goodIn_app (goodIn_of _ (by decide +kernel)) ggX11_loops_X11_loopsFrom
/-- which states stand among the first n of the row -/
def WK (wk : Nat → Int32) (n : Nat) (vis : List Nat) : Prop := ∀ t, t < 32 → (t ∈ vis ↔ ∃ k, k < n ∧ wk k = nI t)
theorem WK.cons {wk : Nat → Int32} {n t : Nat} {vis : List Nat} (h : WK wk n vis) (ht : t < 32) : WK (upd wk n (nI t)) (n + 1) (t :: vis) := by
  intro u hu
  rw [List.mem_cons, h u hu]
  constructor
  · rintro (q | ⟨k, k1, k2⟩)
    · exact ⟨n, by omega, by rw [pk_us, q]⟩
    · exact ⟨k, by omega, by rw [pk_un (by omega)]; exact k2⟩
  · rintro ⟨k, k1, k2⟩
    by_cases q : k = n
    · subst q
      rw [pk_us] at k2
      exact Or.inl ((nI_eq (by omega) (by omega)).mp k2).symm
    · rw [pk_un q] at k2
      exact Or.inr ⟨k, by omega, k2⟩
theorem WK.same {wk wk' : Nat → Int32} {n : Nat} {vis : List Nat} (h : WK wk n vis) (e : ∀ k, k < n → wk' k = wk k) : WK wk' n vis := by
  intro u hu
  rw [h u hu]
  constructor
  · rintro ⟨k, k1, k2⟩; exact ⟨k, k1, by rw [e k k1]; exact k2⟩
  · rintro ⟨k, k1, k2⟩; exact ⟨k, k1, by rw [← e k k1]; exact k2⟩
set_option maxRecDepth 100000 in
set_option maxHeartbeats 4000000 in
theorem c_isWalked (l : Launch) (D : va_G) (cI cR cM : ClassId) (sz : Nat) {t n : Nat} {vis : List Nat} (ht9 : t < 32) (hn : n ≤ 11) (mm : Nat) (fs : List Value) (a1 : Nat) (hf_walked : fs[38]? = some (.ref a1)) (wk : Nat → Int32) (hwk : WK wk n vis) : Met l yX11_isWalked wsX11_isWalked ({ frames := 0, cells := 0, slots := 0, locals := 0 }) (P0 D cI cR cM [.ref mm, .int (nI t), .int (nI n)] sz [(mm, .inr (11, fs)), (a1, .inl (cI, 11, .inl wk))]) (QE (some (.int (if t ∈ vis then 1 else 0))) sz) 0 0 (va_A [] sz) := by
  refine go (cc := cX11_isWalked) (maxL := 4) (ret := (some .boolean)) (by decide) rfl (Nat.le_of_ble_eq_true rfl) ?_
  intro p e s m below meth c ls args Q hQ hsz hx hb hr hml hts hown hlocks hnm hP hK hD hl
  subst hsz
  have hS : va_S (va_A [] s.heap.size) s.heap s.heap [] := va_S.rf
  have hA : ∀ q, s.heap.size ≤ q → va_A [] s.heap.size q := fun q h => Or.inr h
  have hl : lv_has ls 4 [(0, .ref mm), (1, .int (nI t)), (2, .int (nI n))] := hl
  refine lv_iconst (v := 0) hx hb dX11_isWalked_0 (by decide) ?_
  refine lv_eqi (y := nI 0) (jx_c0) ?_
  refine lv_istore_n (lv' := [(3, .int (nI 0)), (0, .ref mm), (1, .int (nI t)), (2, .int (nI n))]) hx hb dX11_isWalked_1 rfl hl (by decide) rfl (fun ls hl => ?_)
  have loop : ∀ (dd : Nat) (k : Nat) (H : Heap) (locs : List Loc) (ls : Array Slot), n - k < dd → (k ≤ n) → (∀ j, j < k → ¬ wk j = nI t) → va_P D vwCl [(mm, .inr (11, fs)), (a1, .inl (cI, 11, .inl wk))] H → va_S (va_A [] s.heap.size) s.heap H locs → lv_has ls 4 [(0, .ref mm), (1, .int (nI t)), (2, .int (nI n)), (3, .int (nI k))] → W p l e ({ frames := 0, cells := 0, slots := 0, locals := 0 }) s m args below meth c H locs 0 0 Q (F0 m 2 ls []) := by
    intro dd
    induction dd with
    | zero =>
      intro k H locs ls hdd
      exact absurd hdd (Nat.not_lt_zero _)
    | succ dd ih =>
      intro k H locs ls hdd hk hno hP hS hl
      refine lv_iload_n hx hb dX11_isWalked_2 rfl (lv_at hl 3 rfl) ?_
      refine lv_iload_n hx hb dX11_isWalked_3 rfl (lv_at hl 2 rfl) ?_
      refine lv_icmp_ge (tgt := 25) hx hb dX11_isWalked_4 (by decide) (fun c4 => ?_) (fun c4 => ?_)
      · have hk9 : k = n := by have := (nI_leI (by omega) (by omega)).mp c4; omega
        subst hk9
        refine lv_iconst (v := 0) hx hb dX11_isWalked_25 (by decide) ?_
        exact ro_zret hx hb hr hlocks hS (by decide) ((if_neg (fun q => by obtain ⟨j, j1, j2⟩ := (hwk t ht9).mp q; exact hno j j1 j2)).symm) hQ dX11_isWalked_26
      · have hk9 : k < n := Nat.lt_of_not_le fun q => c4 (nI_le q (by omega))
        refine lv_aload_n hx hb dX11_isWalked_7 rfl (lv_at hl 0 rfl) ?_
        refine va_get (D := D) (ci := 11) (v := .ref a1) (C := RX11) (T := TX11) (N := 47) hx hb hts (by decide +kernel) hown hK.1 hP 0 rfl rfl 38 (by decide) (hts (.fieldLink RX11 75 "JugglingHallModel" "walked" "[I") (by decide +kernel)) (fun _ h9 => h9) hf_walked dX11_isWalked_8 ?_
        refine lv_iload_n hx hb dX11_isWalked_11 rfl (lv_at hl 3 rfl) ?_
        refine ald_n (k := k) hx hb hK.1 hP 1 0 rfl rfl (by omega) (by decide) dX11_isWalked_12 ?_
        refine lv_iload_n hx hb dX11_isWalked_13 rfl (lv_at hl 1 rfl) ?_
        refine lv_icmp_ne (tgt := 19) hx hb dX11_isWalked_14 (by decide) (fun c14 => ?_) (fun c14 => ?_)
        · refine lv_iinc (v := nI (k + 1)) (lv' := [(3, .int (nI (k + 1))), (0, .ref mm), (1, .int (nI t)), (2, .int (nI n))]) hx hb dX11_isWalked_19 hl (k := 3) rfl (jx_inc) (by decide) rfl (fun ls hl => ?_)
          refine lv_goto (tgt := 2) hx hb dX11_isWalked_22 (by decide) ?_
          exact ih (k + 1) _ _ _ (by omega) (hk9) (lt_s hno c14) hP hS (lv_sub hl [1, 2, 3, 0] rfl)
        · refine lv_iconst (v := 1) hx hb dX11_isWalked_17 (by decide) ?_
          exact ro_zret hx hb hr hlocks hS (by decide) ((if_pos ((hwk t ht9).mpr ⟨k, hk9, c14⟩)).symm) hQ dX11_isWalked_18
  exact loop (n + 1) 0 _ _ _ (by omega) (Nat.zero_le n) (fun j q => by omega) hP hS (lv_sub hl [1, 2, 3, 0] rfl)
theorem jx_sa (x : Int32) : x - 1 + 1 = x := by rw [Int32.sub_eq_add_neg, Int32.add_assoc]; exact Int32.add_zero x
theorem jx_a0 (k : Nat) : nI k + 0 = nI k := Int32.add_zero _
set_option maxRecDepth 100000 in
set_option maxHeartbeats 4000000 in
/-- the reference: loops from their least state -/
theorem c_loopsFrom (l : Launch) (D : va_G) (cI cR cM : ClassId) (sz : Nat) {st hi lf : Nat} (hhi : hi < 6) (hst : st < 2 ^ hi) (hlf : lf < 10) (mm : Nat) (fs : List Value) (a1 a2 : Nat) (hf_walked : fs[38]? = some (.ref a1)) (hf_tried : fs[39]? = some (.ref a2)) (wk0 tr0 : Nat → Int32) : Met l yX11_loopsFrom wsX11_loopsFrom ({ frames := 1, cells := 0, slots := 0, locals := 23 }) (P0 D cI cR cM [.ref mm, .int (nI st), .int (nI hi), .int (nI (lf + 1))] sz [(mm, .inr (11, fs)), (a1, .inl (cI, 11, .inl wk0)), (a2, .inl (cI, 11, .inl tr0))]) (QG (S := (Nat → Int32) × (Nat → Int32)) (fun _ => some (.int (nI (lpn st hi (lf + 1) st [st])))) (fun u => [(mm, .inr (11, fs)), (a1, .inl (cI, 11, .inl u.1)), (a2, .inl (cI, 11, .inl u.2))]) (fun _ => True) D (va_A [(mm, .inr (11, fs)), (a1, .inl (cI, 11, .inl wk0)), (a2, .inl (cI, 11, .inl tr0))] sz)) 0 0 (va_A [(mm, .inr (11, fs)), (a1, .inl (cI, 11, .inl wk0)), (a2, .inl (cI, 11, .inl tr0))] sz) := by
  refine go (cc := cX11_loopsFrom) (maxL := 7) (ret := (some .int)) (by decide) rfl (Nat.le_of_ble_eq_true rfl) ?_
  intro p e s m below meth c ls args Q hQ hsz hx hb hr hml hts hown hlocks hnm hP hK hD hl
  subst hsz
  have hD := hD.self (sz := s.heap.size)
  generalize hAe : va_A [(mm, .inr (11, fs)), (a1, .inl (cI, 11, .inl wk0)), (a2, .inl (cI, 11, .inl tr0))] s.heap.size = A at hD hQ
  have hA : ∀ q, s.heap.size ≤ q → A q := fun q h => by rw [← hAe]; exact Or.inr h
  have hS : va_S A s.heap s.heap [] := va_S.rf
  have hl : lv_has ls 7 [(0, .ref mm), (1, .int (nI st)), (2, .int (nI hi)), (3, .int (nI (lf + 1)))] := hl
  have h32 := jx_p32 hhi
  refine lv_iconst (v := 0) hx hb dX11_loopsFrom_0 (by decide) ?_
  refine lv_istore (lv' := [(4, .int 0), (0, .ref mm), (1, .int (nI st)), (2, .int (nI hi)), (3, .int (nI (lf + 1)))]) hx hb dX11_loopsFrom_1 hl (by decide) rfl (fun ls hl => ?_)
  refine lv_iconst (v := 0) hx hb dX11_loopsFrom_3 (by decide) ?_
  refine lv_eqi (y := nI 0) (jx_c0) ?_
  refine lv_istore (lv' := [(5, .int (nI 0)), (4, .int 0), (0, .ref mm), (1, .int (nI st)), (2, .int (nI hi)), (3, .int (nI (lf + 1)))]) hx hb dX11_loopsFrom_4 hl (by decide) rfl (fun ls hl => ?_)
  refine lv_aload_n hx hb dX11_loopsFrom_6 rfl (lv_at hl 2 rfl) ?_
  refine va_get (D := D) (ci := 11) (v := .ref a1) (C := RX11) (T := TX11) (N := 47) hx hb hts (by decide +kernel) hown hK.1 hP 0 rfl rfl 38 (by decide) (hts (.fieldLink RX11 75 "JugglingHallModel" "walked" "[I") (by decide +kernel)) (fun _ h9 => h9) hf_walked dX11_loopsFrom_7 ?_
  refine lv_iconst (v := 0) hx hb dX11_loopsFrom_10 (by decide) ?_
  refine lv_eqi (y := nI 0) (jx_c0) ?_
  refine lv_iload_n hx hb dX11_loopsFrom_11 rfl (lv_at hl 3 rfl) ?_
  refine ast_n (k := 0) hx hb hK.1 hP hD hS 1 0 rfl rfl (by decide) (by decide) dX11_loopsFrom_12 (fun H locs hP hD hS => ?_)
  have hP : va_P D vwCl [(mm, .inr (11, fs)), (a1, .inl (cI, 11, .inl (upd wk0 0 (nI st)))), (a2, .inl (cI, 11, .inl tr0))] H := hP
  have hD : va_D A [(mm, .inr (11, fs)), (a1, .inl (cI, 11, .inl (upd wk0 0 (nI st)))), (a2, .inl (cI, 11, .inl tr0))] := hD
  refine lv_aload_n hx hb dX11_loopsFrom_13 rfl (lv_at hl 2 rfl) ?_
  refine va_get (D := D) (ci := 11) (v := .ref a2) (C := RX11) (T := TX11) (N := 47) hx hb hts (by decide +kernel) hown hK.1 hP 0 rfl rfl 39 (by decide) (hts (.fieldLink RX11 78 "JugglingHallModel" "tried" "[I") (by decide +kernel)) (fun _ h9 => h9) hf_tried dX11_loopsFrom_14 ?_
  refine lv_iconst (v := 0) hx hb dX11_loopsFrom_17 (by decide) ?_
  refine lv_eqi (y := nI 0) (jx_c0) ?_
  refine lv_iconst (v := (-1)) hx hb dX11_loopsFrom_18 (by decide) ?_
  refine ast_n (k := 0) hx hb hK.1 hP hD hS 2 0 rfl rfl (by decide) (by decide) dX11_loopsFrom_19 (fun H locs hP hD hS => ?_)
  have hP : va_P D vwCl [(mm, .inr (11, fs)), (a1, .inl (cI, 11, .inl (upd wk0 0 (nI st)))), (a2, .inl (cI, 11, .inl (upd tr0 0 (-1))))] H := hP
  have hD : va_D A [(mm, .inr (11, fs)), (a1, .inl (cI, 11, .inl (upd wk0 0 (nI st)))), (a2, .inl (cI, 11, .inl (upd tr0 0 (-1))))] := hD
  have main : ∀ (left dd n bs x h : Nat) (vis : List Nat) (wk tr : Nat → Int32) (H : Heap) (locs : List Loc) (ls : Array Slot), hi + 1 - h < dd → n + left = lf → x < 2 ^ hi → h ≤ hi + 1 → WK wk (n + 1) vis → wk n = nI x → tr n = nI h - 1 → (∀ (wk' tr' : Nat → Int32) (H : Heap) (locs : List Loc) (ls : Array Slot), (∀ k, k < n → wk' k = wk k ∧ tr' k = tr k) → va_P D vwCl [(mm, .inr (11, fs)), (a1, .inl (cI, 11, .inl wk')), (a2, .inl (cI, 11, .inl tr'))] H → va_D A [(mm, .inr (11, fs)), (a1, .inl (cI, 11, .inl wk')), (a2, .inl (cI, 11, .inl tr'))] → va_S A s.heap H locs → lv_has ls 7 [(0, .ref mm), (1, .int (nI st)), (2, .int (nI hi)), (3, .int (nI (lf + 1))), (4, .int (nI (bs + lpn st hi (left + 1) x vis))), (5, .int (nI n - 1))] → W p l e ({ frames := 1, cells := 0, slots := 0, locals := 23 }) s m args below meth c H locs 0 0 Q (F0 m 20 ls [])) → va_P D vwCl [(mm, .inr (11, fs)), (a1, .inl (cI, 11, .inl wk)), (a2, .inl (cI, 11, .inl tr))] H → va_D A [(mm, .inr (11, fs)), (a1, .inl (cI, 11, .inl wk)), (a2, .inl (cI, 11, .inl tr))] → va_S A s.heap H locs → lv_has ls 7 [(0, .ref mm), (1, .int (nI st)), (2, .int (nI hi)), (3, .int (nI (lf + 1))), (4, .int (nI (bs + sumH h (lpc st hi left x vis)))), (5, .int (nI n))] → W p l e ({ frames := 1, cells := 0, slots := 0, locals := 23 }) s m args below meth c H locs 0 0 Q (F0 m 20 ls []) := by
    intro left
    induction left with
    | zero =>
      intro dd
      induction dd with
      | zero => intro n bs x h vis wk tr H locs ls hdd; exact absurd hdd (Nat.not_lt_zero _)
      | succ dd ih =>
        intro n bs x h vis wk tr H locs ls hdd hn hx5 hh hwk ewk etr K hP hD hS hl
        refine lv_iload hx hb dX11_loopsFrom_20 (lv_at hl 5 rfl) ?_
        refine lv_if_lt (tgt := 152) hx hb dX11_loopsFrom_22 (by decide) (fun c22 => absurd c22 (nI_pos (by omega))) (fun c22 => ?_)
        refine lv_aload_n hx hb dX11_loopsFrom_25 rfl (lv_at hl 0 rfl) ?_
        refine va_get (D := D) (ci := 11) (v := .ref a2) (C := RX11) (T := TX11) (N := 47) hx hb hts (by decide +kernel) hown hK.1 hP 0 rfl rfl 39 (by decide) (hts (.fieldLink RX11 78 "JugglingHallModel" "tried" "[I") (by decide +kernel)) (fun _ h9 => h9) hf_tried dX11_loopsFrom_26 ?_
        refine lv_iload hx hb dX11_loopsFrom_29 (lv_at hl 5 rfl) ?_
        refine lv_dup2_11 hx hb dX11_loopsFrom_31 rfl rfl ?_
        refine ald_n (k := n) hx hb hK.1 hP 2 0 rfl rfl (by omega) (by decide) dX11_loopsFrom_32 ?_
        refine lv_iconst (v := 1) hx hb dX11_loopsFrom_33 (by decide) ?_
        refine lv_iadd hx hb dX11_loopsFrom_34 ?_
        refine lv_eqi (y := nI h) (by rw [etr]; exact jx_sa _) ?_
        refine ast_n (k := n) hx hb hK.1 hP hD hS 2 0 rfl rfl (by omega) (by decide) dX11_loopsFrom_35 (fun H locs hP hD hS => ?_)
        have hP : va_P D vwCl [(mm, .inr (11, fs)), (a1, .inl (cI, 11, .inl wk)), (a2, .inl (cI, 11, .inl (upd tr n (nI h))))] H := hP
        have hD : va_D A [(mm, .inr (11, fs)), (a1, .inl (cI, 11, .inl wk)), (a2, .inl (cI, 11, .inl (upd tr n (nI h))))] := hD
        refine lv_aload_n hx hb dX11_loopsFrom_36 rfl (lv_at hl 0 rfl) ?_
        refine va_get (D := D) (ci := 11) (v := .ref a2) (C := RX11) (T := TX11) (N := 47) hx hb hts (by decide +kernel) hown hK.1 hP 0 rfl rfl 39 (by decide) (hts (.fieldLink RX11 78 "JugglingHallModel" "tried" "[I") (by decide +kernel)) (fun _ h9 => h9) hf_tried dX11_loopsFrom_37 ?_
        refine lv_iload hx hb dX11_loopsFrom_40 (lv_at hl 5 rfl) ?_
        refine ald_n (k := n) hx hb hK.1 hP 2 0 rfl rfl (by omega) (by decide) dX11_loopsFrom_42 ?_
        refine lv_eqi (y := nI h) (pk_us) ?_
        refine lv_iload_n hx hb dX11_loopsFrom_43 rfl (lv_at hl 2 rfl) ?_
        refine lv_icmp_le (tgt := 53) hx hb dX11_loopsFrom_44 (by decide) (fun c44 => ?_) (fun c44 => ?_)
        · have h10 : h < hi + 1 := by have := (nI_leI (by omega) (by omega)).mp c44; omega
          refine lv_aload_n hx hb dX11_loopsFrom_53 rfl (lv_at hl 0 rfl) ?_
          refine va_get (D := D) (ci := 11) (v := .ref a1) (C := RX11) (T := TX11) (N := 47) hx hb hts (by decide +kernel) hown hK.1 hP 0 rfl rfl 38 (by decide) (hts (.fieldLink RX11 75 "JugglingHallModel" "walked" "[I") (by decide +kernel)) (fun _ h9 => h9) hf_walked dX11_loopsFrom_54 ?_
          refine lv_iload hx hb dX11_loopsFrom_57 (lv_at hl 5 rfl) ?_
          refine ald_n (k := n) hx hb hK.1 hP 1 0 rfl rfl (by omega) (by decide) dX11_loopsFrom_59 ?_
          refine lv_eqi (y := nI x) (ewk) ?_
          refine lv_aload_n hx hb dX11_loopsFrom_60 rfl (lv_at hl 0 rfl) ?_
          refine va_get (D := D) (ci := 11) (v := .ref a2) (C := RX11) (T := TX11) (N := 47) hx hb hts (by decide +kernel) hown hK.1 hP 0 rfl rfl 39 (by decide) (hts (.fieldLink RX11 78 "JugglingHallModel" "tried" "[I") (by decide +kernel)) (fun _ h9 => h9) hf_tried dX11_loopsFrom_61 ?_
          refine lv_iload hx hb dX11_loopsFrom_64 (lv_at hl 5 rfl) ?_
          refine ald_n (k := n) hx hb hK.1 hP 2 0 rfl rfl (by omega) (by decide) dX11_loopsFrom_66 ?_
          refine lv_eqi (y := nI h) (pk_us) ?_
          refine ro (va_runS (As := [.int (nI x), .int (nI h)]) (rest := []) ⟨hx, hb, hml, hown, hts⟩ (c_step l D cI cR cM _ (Nat.lt_of_lt_of_le hx5 (by omega)) (by omega)) (va_cwS 2 hts gX11_loopsFrom_X11_step rfl rfl rfl (by decide +kernel) ⟨Nat.le_of_ble_eq_true rfl, Nat.le_of_ble_eq_true rfl⟩) (pre_S hK va_P_nil (va_D_nil (A := fun _ => True))) rfl rfl hl.1 rfl (lv_room (Nat.le_of_ble_eq_true rfl)) dX11_loopsFrom_67 ⟨Nat.le_of_ble_eq_true rfl, Nat.le_of_ble_eq_true rfl⟩) hS hA hP (fun H locs hP hS => ?_)
          rcases est : stp x h with _ | t
          · refine lv_eqi (y := (-1)) (stI_none est) ?_
            refine lv_istore (lv' := [(6, .int (-1)), (0, .ref mm), (1, .int (nI st)), (2, .int (nI hi)), (3, .int (nI (lf + 1))), (4, .int (nI (bs + sumH h (lpc st hi 0 x vis)))), (5, .int (nI n))]) hx hb dX11_loopsFrom_70 hl (by decide) rfl (fun ls hl => ?_)
            refine lv_iload hx hb dX11_loopsFrom_72 (lv_at hl 0 rfl) ?_
            refine lv_if_ge (tgt := 80) hx hb dX11_loopsFrom_74 (by decide) (fun c74 => absurd c74 (by decide)) (fun c74 => ?_)
            refine lv_goto (tgt := 20) hx hb dX11_loopsFrom_77 (by decide) ?_
            have hl := lv_re (i := 4) (y := nI (bs + sumH (h + 1) (lpc st hi 0 x vis))) hl 5 rfl (by rw [show sumH (h + 1) (lpc st hi 0 x vis) = sumH h (lpc st hi 0 x vis) + lpc st hi 0 x vis h from rfl, show lpc st hi 0 x vis h = 0 from lpc_none est]; rfl)
            have hl : lv_has ls 7 [(6, .int (-1)), (0, .ref mm), (1, .int (nI st)), (2, .int (nI hi)), (3, .int (nI (lf + 1))), (4, .int (nI (bs + sumH (h + 1) (lpc st hi 0 x vis)))), (5, .int (nI n))] := hl
            exact ih n bs x (h + 1) vis wk (upd tr n (nI h)) _ _ _ (by omega) hn hx5 (by omega) hwk ewk (by rw [pk_us]; exact (nI_pred h).symm) (fun wk' tr' H locs ls hk => K wk' tr' H locs ls (fun k q => ⟨(hk k q).1, by rw [(hk k q).2]; exact pk_un (by omega)⟩)) hP hD hS (lv_sub hl [1, 2, 3, 4, 5, 6] rfl)
          · have htl := stp_sm hhi hx5 h10 est
            refine lv_eqi (y := nI t) (stI_some est) ?_
            refine lv_istore (lv' := [(6, .int (nI t)), (0, .ref mm), (1, .int (nI st)), (2, .int (nI hi)), (3, .int (nI (lf + 1))), (4, .int (nI (bs + sumH h (lpc st hi 0 x vis)))), (5, .int (nI n))]) hx hb dX11_loopsFrom_70 hl (by decide) rfl (fun ls hl => ?_)
            refine lv_iload hx hb dX11_loopsFrom_72 (lv_at hl 0 rfl) ?_
            refine lv_if_ge (tgt := 80) hx hb dX11_loopsFrom_74 (by decide) (fun c74 => ?_) (fun c74 => absurd (nI_pos' (by omega)) c74)
            refine lv_iload hx hb dX11_loopsFrom_80 (lv_at hl 6 rfl) ?_
            refine lv_iload_n hx hb dX11_loopsFrom_82 rfl (lv_at hl 4 rfl) ?_
            refine lv_iconst (v := 1) hx hb dX11_loopsFrom_83 (by decide) ?_
            refine lv_isub hx hb dX11_loopsFrom_84 ?_
            refine lv_eqi (y := nI lf) (nI_pred lf) ?_
            refine lv_icmp_ne (tgt := 107) hx hb dX11_loopsFrom_85 (by decide) (fun c85 => absurd (by rw [show n = lf by omega]) c85) (fun c85 => ?_)
            refine lv_iload hx hb dX11_loopsFrom_88 (lv_at hl 5 rfl) ?_
            refine lv_iload hx hb dX11_loopsFrom_90 (lv_at hl 0 rfl) ?_
            refine lv_iload_n hx hb dX11_loopsFrom_92 rfl (lv_at hl 2 rfl) ?_
            refine lv_icmp_ne (tgt := 100) hx hb dX11_loopsFrom_93 (by decide) (fun c93 => ?_) (fun c93 => ?_)
            · have hts9 : ¬ t = st := fun q => c93 (by rw [q])
              refine lv_iconst (v := 0) hx hb dX11_loopsFrom_100 (by decide) ?_
              refine lv_iadd hx hb dX11_loopsFrom_101 ?_
              refine lv_eqi (y := nI (bs + sumH h (lpc st hi 0 x vis))) (jx_a0 _) ?_
              refine lv_istore (lv' := [(4, .int (nI (bs + sumH h (lpc st hi 0 x vis)))), (6, .int (nI t)), (0, .ref mm), (1, .int (nI st)), (2, .int (nI hi)), (3, .int (nI (lf + 1))), (5, .int (nI n))]) hx hb dX11_loopsFrom_102 hl (by decide) rfl (fun ls hl => ?_)
              refine lv_goto (tgt := 20) hx hb dX11_loopsFrom_104 (by decide) ?_
              have hl := lv_re (i := 4) (y := nI (bs + sumH (h + 1) (lpc st hi 0 x vis))) hl 0 rfl (by rw [show sumH (h + 1) (lpc st hi 0 x vis) = sumH h (lpc st hi 0 x vis) + lpc st hi 0 x vis h from rfl, show lpc st hi 0 x vis h = 0 from by rw [lpc_0 est, if_neg hts9]]; rfl)
              have hl : lv_has ls 7 [(4, .int (nI (bs + sumH (h + 1) (lpc st hi 0 x vis)))), (6, .int (nI t)), (0, .ref mm), (1, .int (nI st)), (2, .int (nI hi)), (3, .int (nI (lf + 1))), (5, .int (nI n))] := hl
              exact ih n bs x (h + 1) vis wk (upd tr n (nI h)) _ _ _ (by omega) hn hx5 (by omega) hwk ewk (by rw [pk_us]; exact (nI_pred h).symm) (fun wk' tr' H locs ls hk => K wk' tr' H locs ls (fun k q => ⟨(hk k q).1, by rw [(hk k q).2]; exact pk_un (by omega)⟩)) hP hD hS (lv_sub hl [2, 3, 4, 5, 0, 6] rfl)
            · have hts9 : t = st := (nI_eq (by omega) (by omega)).mp c93
              refine lv_iconst (v := 1) hx hb dX11_loopsFrom_96 (by decide) ?_
              refine lv_goto (tgt := 101) hx hb dX11_loopsFrom_97 (by decide) ?_
              refine lv_iadd hx hb dX11_loopsFrom_101 ?_
              refine lv_eqi (y := nI (bs + sumH h (lpc st hi 0 x vis) + 1)) (nI_1 _) ?_
              refine lv_istore (lv' := [(4, .int (nI (bs + sumH h (lpc st hi 0 x vis) + 1))), (6, .int (nI t)), (0, .ref mm), (1, .int (nI st)), (2, .int (nI hi)), (3, .int (nI (lf + 1))), (5, .int (nI n))]) hx hb dX11_loopsFrom_102 hl (by decide) rfl (fun ls hl => ?_)
              refine lv_goto (tgt := 20) hx hb dX11_loopsFrom_104 (by decide) ?_
              have hl := lv_re (i := 4) (y := nI (bs + sumH (h + 1) (lpc st hi 0 x vis))) hl 0 rfl (by rw [show sumH (h + 1) (lpc st hi 0 x vis) = sumH h (lpc st hi 0 x vis) + lpc st hi 0 x vis h from rfl, show lpc st hi 0 x vis h = 1 from by rw [lpc_0 est, if_pos hts9]]; rw [Nat.add_assoc])
              have hl : lv_has ls 7 [(4, .int (nI (bs + sumH (h + 1) (lpc st hi 0 x vis)))), (6, .int (nI t)), (0, .ref mm), (1, .int (nI st)), (2, .int (nI hi)), (3, .int (nI (lf + 1))), (5, .int (nI n))] := hl
              exact ih n bs x (h + 1) vis wk (upd tr n (nI h)) _ _ _ (by omega) hn hx5 (by omega) hwk ewk (by rw [pk_us]; exact (nI_pred h).symm) (fun wk' tr' H locs ls hk => K wk' tr' H locs ls (fun k q => ⟨(hk k q).1, by rw [(hk k q).2]; exact pk_un (by omega)⟩)) hP hD hS (lv_sub hl [2, 3, 4, 5, 0, 6] rfl)
        · have h10 : h = hi + 1 := by
            have : ¬ h ≤ hi := fun q => c44 (nI_le q (by omega))
            omega
          refine lv_iinc (v := nI n - 1) (lv' := [(5, .int (nI n - 1)), (0, .ref mm), (1, .int (nI st)), (2, .int (nI hi)), (3, .int (nI (lf + 1))), (4, .int (nI (bs + sumH h (lpc st hi 0 x vis))))]) hx hb dX11_loopsFrom_47 hl (k := 5) rfl (jx_m1 _) (by decide) rfl (fun ls hl => ?_)
          refine lv_goto (tgt := 20) hx hb dX11_loopsFrom_50 (by decide) ?_
          have hl := lv_re (i := 4) (y := nI (bs + lpn st hi (0 + 1) x vis)) hl 5 rfl (by rw [lpn_eq, h10])
          have hl : lv_has ls 7 [(5, .int (nI n - 1)), (0, .ref mm), (1, .int (nI st)), (2, .int (nI hi)), (3, .int (nI (lf + 1))), (4, .int (nI (bs + lpn st hi (0 + 1) x vis)))] := hl
          exact K wk (upd tr n (nI h)) _ _ _ (fun k hk => ⟨rfl, pk_un (by omega)⟩) hP hD hS (lv_sub hl [1, 2, 3, 4, 5, 0] rfl)
    | succ l9 ihL =>
      intro dd
      induction dd with
      | zero => intro n bs x h vis wk tr H locs ls hdd; exact absurd hdd (Nat.not_lt_zero _)
      | succ dd ih =>
        intro n bs x h vis wk tr H locs ls hdd hn hx5 hh hwk ewk etr K hP hD hS hl
        refine lv_iload hx hb dX11_loopsFrom_20 (lv_at hl 5 rfl) ?_
        refine lv_if_lt (tgt := 152) hx hb dX11_loopsFrom_22 (by decide) (fun c22 => absurd c22 (nI_pos (by omega))) (fun c22 => ?_)
        refine lv_aload_n hx hb dX11_loopsFrom_25 rfl (lv_at hl 0 rfl) ?_
        refine va_get (D := D) (ci := 11) (v := .ref a2) (C := RX11) (T := TX11) (N := 47) hx hb hts (by decide +kernel) hown hK.1 hP 0 rfl rfl 39 (by decide) (hts (.fieldLink RX11 78 "JugglingHallModel" "tried" "[I") (by decide +kernel)) (fun _ h9 => h9) hf_tried dX11_loopsFrom_26 ?_
        refine lv_iload hx hb dX11_loopsFrom_29 (lv_at hl 5 rfl) ?_
        refine lv_dup2_11 hx hb dX11_loopsFrom_31 rfl rfl ?_
        refine ald_n (k := n) hx hb hK.1 hP 2 0 rfl rfl (by omega) (by decide) dX11_loopsFrom_32 ?_
        refine lv_iconst (v := 1) hx hb dX11_loopsFrom_33 (by decide) ?_
        refine lv_iadd hx hb dX11_loopsFrom_34 ?_
        refine lv_eqi (y := nI h) (by rw [etr]; exact jx_sa _) ?_
        refine ast_n (k := n) hx hb hK.1 hP hD hS 2 0 rfl rfl (by omega) (by decide) dX11_loopsFrom_35 (fun H locs hP hD hS => ?_)
        have hP : va_P D vwCl [(mm, .inr (11, fs)), (a1, .inl (cI, 11, .inl wk)), (a2, .inl (cI, 11, .inl (upd tr n (nI h))))] H := hP
        have hD : va_D A [(mm, .inr (11, fs)), (a1, .inl (cI, 11, .inl wk)), (a2, .inl (cI, 11, .inl (upd tr n (nI h))))] := hD
        refine lv_aload_n hx hb dX11_loopsFrom_36 rfl (lv_at hl 0 rfl) ?_
        refine va_get (D := D) (ci := 11) (v := .ref a2) (C := RX11) (T := TX11) (N := 47) hx hb hts (by decide +kernel) hown hK.1 hP 0 rfl rfl 39 (by decide) (hts (.fieldLink RX11 78 "JugglingHallModel" "tried" "[I") (by decide +kernel)) (fun _ h9 => h9) hf_tried dX11_loopsFrom_37 ?_
        refine lv_iload hx hb dX11_loopsFrom_40 (lv_at hl 5 rfl) ?_
        refine ald_n (k := n) hx hb hK.1 hP 2 0 rfl rfl (by omega) (by decide) dX11_loopsFrom_42 ?_
        refine lv_eqi (y := nI h) (pk_us) ?_
        refine lv_iload_n hx hb dX11_loopsFrom_43 rfl (lv_at hl 2 rfl) ?_
        refine lv_icmp_le (tgt := 53) hx hb dX11_loopsFrom_44 (by decide) (fun c44 => ?_) (fun c44 => ?_)
        · have h10 : h < hi + 1 := by have := (nI_leI (by omega) (by omega)).mp c44; omega
          refine lv_aload_n hx hb dX11_loopsFrom_53 rfl (lv_at hl 0 rfl) ?_
          refine va_get (D := D) (ci := 11) (v := .ref a1) (C := RX11) (T := TX11) (N := 47) hx hb hts (by decide +kernel) hown hK.1 hP 0 rfl rfl 38 (by decide) (hts (.fieldLink RX11 75 "JugglingHallModel" "walked" "[I") (by decide +kernel)) (fun _ h9 => h9) hf_walked dX11_loopsFrom_54 ?_
          refine lv_iload hx hb dX11_loopsFrom_57 (lv_at hl 5 rfl) ?_
          refine ald_n (k := n) hx hb hK.1 hP 1 0 rfl rfl (by omega) (by decide) dX11_loopsFrom_59 ?_
          refine lv_eqi (y := nI x) (ewk) ?_
          refine lv_aload_n hx hb dX11_loopsFrom_60 rfl (lv_at hl 0 rfl) ?_
          refine va_get (D := D) (ci := 11) (v := .ref a2) (C := RX11) (T := TX11) (N := 47) hx hb hts (by decide +kernel) hown hK.1 hP 0 rfl rfl 39 (by decide) (hts (.fieldLink RX11 78 "JugglingHallModel" "tried" "[I") (by decide +kernel)) (fun _ h9 => h9) hf_tried dX11_loopsFrom_61 ?_
          refine lv_iload hx hb dX11_loopsFrom_64 (lv_at hl 5 rfl) ?_
          refine ald_n (k := n) hx hb hK.1 hP 2 0 rfl rfl (by omega) (by decide) dX11_loopsFrom_66 ?_
          refine lv_eqi (y := nI h) (pk_us) ?_
          refine ro (va_runS (As := [.int (nI x), .int (nI h)]) (rest := []) ⟨hx, hb, hml, hown, hts⟩ (c_step l D cI cR cM _ (Nat.lt_of_lt_of_le hx5 (by omega)) (by omega)) (va_cwS 2 hts gX11_loopsFrom_X11_step rfl rfl rfl (by decide +kernel) ⟨Nat.le_of_ble_eq_true rfl, Nat.le_of_ble_eq_true rfl⟩) (pre_S hK va_P_nil (va_D_nil (A := fun _ => True))) rfl rfl hl.1 rfl (lv_room (Nat.le_of_ble_eq_true rfl)) dX11_loopsFrom_67 ⟨Nat.le_of_ble_eq_true rfl, Nat.le_of_ble_eq_true rfl⟩) hS hA hP (fun H locs hP hS => ?_)
          rcases est : stp x h with _ | t
          · refine lv_eqi (y := (-1)) (stI_none est) ?_
            refine lv_istore (lv' := [(6, .int (-1)), (0, .ref mm), (1, .int (nI st)), (2, .int (nI hi)), (3, .int (nI (lf + 1))), (4, .int (nI (bs + sumH h (lpc st hi (l9 + 1) x vis)))), (5, .int (nI n))]) hx hb dX11_loopsFrom_70 hl (by decide) rfl (fun ls hl => ?_)
            refine lv_iload hx hb dX11_loopsFrom_72 (lv_at hl 0 rfl) ?_
            refine lv_if_ge (tgt := 80) hx hb dX11_loopsFrom_74 (by decide) (fun c74 => absurd c74 (by decide)) (fun c74 => ?_)
            refine lv_goto (tgt := 20) hx hb dX11_loopsFrom_77 (by decide) ?_
            have hl := lv_re (i := 4) (y := nI (bs + sumH (h + 1) (lpc st hi (l9 + 1) x vis))) hl 5 rfl (by rw [show sumH (h + 1) (lpc st hi (l9 + 1) x vis) = sumH h (lpc st hi (l9 + 1) x vis) + lpc st hi (l9 + 1) x vis h from rfl, show lpc st hi (l9 + 1) x vis h = 0 from lpc_none est]; rfl)
            have hl : lv_has ls 7 [(6, .int (-1)), (0, .ref mm), (1, .int (nI st)), (2, .int (nI hi)), (3, .int (nI (lf + 1))), (4, .int (nI (bs + sumH (h + 1) (lpc st hi (l9 + 1) x vis)))), (5, .int (nI n))] := hl
            exact ih n bs x (h + 1) vis wk (upd tr n (nI h)) _ _ _ (by omega) hn hx5 (by omega) hwk ewk (by rw [pk_us]; exact (nI_pred h).symm) (fun wk' tr' H locs ls hk => K wk' tr' H locs ls (fun k q => ⟨(hk k q).1, by rw [(hk k q).2]; exact pk_un (by omega)⟩)) hP hD hS (lv_sub hl [1, 2, 3, 4, 5, 6] rfl)
          · have htl := stp_sm hhi hx5 h10 est
            refine lv_eqi (y := nI t) (stI_some est) ?_
            refine lv_istore (lv' := [(6, .int (nI t)), (0, .ref mm), (1, .int (nI st)), (2, .int (nI hi)), (3, .int (nI (lf + 1))), (4, .int (nI (bs + sumH h (lpc st hi (l9 + 1) x vis)))), (5, .int (nI n))]) hx hb dX11_loopsFrom_70 hl (by decide) rfl (fun ls hl => ?_)
            refine lv_iload hx hb dX11_loopsFrom_72 (lv_at hl 0 rfl) ?_
            refine lv_if_ge (tgt := 80) hx hb dX11_loopsFrom_74 (by decide) (fun c74 => ?_) (fun c74 => absurd (nI_pos' (by omega)) c74)
            refine lv_iload hx hb dX11_loopsFrom_80 (lv_at hl 6 rfl) ?_
            refine lv_iload_n hx hb dX11_loopsFrom_82 rfl (lv_at hl 4 rfl) ?_
            refine lv_iconst (v := 1) hx hb dX11_loopsFrom_83 (by decide) ?_
            refine lv_isub hx hb dX11_loopsFrom_84 ?_
            refine lv_eqi (y := nI lf) (nI_pred lf) ?_
            refine lv_icmp_ne (tgt := 107) hx hb dX11_loopsFrom_85 (by decide) (fun c85 => ?_) (fun c85 => absurd c85 (fun q => absurd ((nI_eq (by omega) (by omega)).mp q) (by omega)))
            refine lv_iload hx hb dX11_loopsFrom_107 (lv_at hl 0 rfl) ?_
            refine lv_iload_n hx hb dX11_loopsFrom_109 rfl (lv_at hl 2 rfl) ?_
            refine lv_icmp_le (tgt := 20) hx hb dX11_loopsFrom_110 (by decide) (fun c110 => ?_) (fun c110 => ?_)
            · have hl := lv_re (i := 4) (y := nI (bs + sumH (h + 1) (lpc st hi (l9 + 1) x vis))) hl 5 rfl (by rw [show sumH (h + 1) (lpc st hi (l9 + 1) x vis) = sumH h (lpc st hi (l9 + 1) x vis) + lpc st hi (l9 + 1) x vis h from rfl, show lpc st hi (l9 + 1) x vis h = 0 from by rw [lpc_s est, if_neg (fun q => absurd c110 (nI_ge q.1 (by omega)))]]; rfl)
              have hl : lv_has ls 7 [(6, .int (nI t)), (0, .ref mm), (1, .int (nI st)), (2, .int (nI hi)), (3, .int (nI (lf + 1))), (4, .int (nI (bs + sumH (h + 1) (lpc st hi (l9 + 1) x vis)))), (5, .int (nI n))] := hl
              exact ih n bs x (h + 1) vis wk (upd tr n (nI h)) _ _ _ (by omega) hn hx5 (by omega) hwk ewk (by rw [pk_us]; exact (nI_pred h).symm) (fun wk' tr' H locs ls hk => K wk' tr' H locs ls (fun k q => ⟨(hk k q).1, by rw [(hk k q).2]; exact pk_un (by omega)⟩)) hP hD hS (lv_sub hl [1, 2, 3, 4, 5, 6] rfl)
            · refine lv_aload_n hx hb dX11_loopsFrom_113 rfl (lv_at hl 1 rfl) ?_
              refine lv_iload hx hb dX11_loopsFrom_114 (lv_at hl 0 rfl) ?_
              refine lv_iload hx hb dX11_loopsFrom_116 (lv_at hl 6 rfl) ?_
              refine lv_iconst (v := 1) hx hb dX11_loopsFrom_118 (by decide) ?_
              refine lv_iadd hx hb dX11_loopsFrom_119 ?_
              refine lv_eqi (y := nI (n + 1)) (nI_1 n) ?_
              have hPc := hP.sub (ws' := [(mm, .inr (11, fs)), (a1, .inl (cI, 11, .inl wk))]) [0, 1] rfl
              have hDc := hD.sub (ws' := [(mm, .inr (11, fs)), (a1, .inl (cI, 11, .inl wk))]) [0, 1] (by decide) rfl
              refine ro (va_runV (As := [.int (nI t), .int (nI (n + 1))]) (rest := []) ⟨hx, hb, hml, hown, hts⟩ (c_isWalked l D cI cR cM _ (t := t) (n := n + 1) (vis := vis) (by omega) (by omega) mm fs a1 hf_walked wk hwk) (cwV 2 hts gX11_loopsFrom_X11_isWalked rfl rfl rfl (by decide +kernel) ⟨Nat.le_of_ble_eq_true rfl, Nat.le_of_ble_eq_true rfl⟩) (pre_V hK hPc hDc 0 11 rfl rfl) rfl rfl hl.1 rfl (lv_room (Nat.le_of_ble_eq_true rfl)) dX11_loopsFrom_120 ⟨Nat.le_of_ble_eq_true rfl, Nat.le_of_ble_eq_true rfl⟩) hS hA hP (fun H locs hP hS => ?_)
              rcases Classical.em (t ∈ vis) with hmem | hmem
              · refine lv_eqi (y := 1) (if_pos hmem) ?_
                refine lv_if_eq (tgt := 129) hx hb dX11_loopsFrom_123 (by decide) (fun c123 => absurd c123 (by decide)) (fun c123 => ?_)
                refine lv_goto (tgt := 20) hx hb dX11_loopsFrom_126 (by decide) ?_
                have hl := lv_re (i := 4) (y := nI (bs + sumH (h + 1) (lpc st hi (l9 + 1) x vis))) hl 5 rfl (by rw [show sumH (h + 1) (lpc st hi (l9 + 1) x vis) = sumH h (lpc st hi (l9 + 1) x vis) + lpc st hi (l9 + 1) x vis h from rfl, show lpc st hi (l9 + 1) x vis h = 0 from by rw [lpc_s est, if_neg (fun q => q.2 hmem)]]; rfl)
                have hl : lv_has ls 7 [(6, .int (nI t)), (0, .ref mm), (1, .int (nI st)), (2, .int (nI hi)), (3, .int (nI (lf + 1))), (4, .int (nI (bs + sumH (h + 1) (lpc st hi (l9 + 1) x vis)))), (5, .int (nI n))] := hl
                exact ih n bs x (h + 1) vis wk (upd tr n (nI h)) _ _ _ (by omega) hn hx5 (by omega) hwk ewk (by rw [pk_us]; exact (nI_pred h).symm) (fun wk' tr' H locs ls hk => K wk' tr' H locs ls (fun k q => ⟨(hk k q).1, by rw [(hk k q).2]; exact pk_un (by omega)⟩)) hP hD hS (lv_sub hl [1, 2, 3, 4, 5, 6] rfl)
              · refine lv_eqi (y := 0) (if_neg hmem) ?_
                refine lv_if_eq (tgt := 129) hx hb dX11_loopsFrom_123 (by decide) (fun c123 => ?_) (fun c123 => absurd (by decide) c123)
                refine lv_iinc (v := nI (n + 1)) (lv' := [(5, .int (nI (n + 1))), (6, .int (nI t)), (0, .ref mm), (1, .int (nI st)), (2, .int (nI hi)), (3, .int (nI (lf + 1))), (4, .int (nI (bs + sumH h (lpc st hi (l9 + 1) x vis))))]) hx hb dX11_loopsFrom_129 hl (k := 6) rfl (jx_inc) (by decide) rfl (fun ls hl => ?_)
                refine lv_aload_n hx hb dX11_loopsFrom_132 rfl (lv_at hl 2 rfl) ?_
                refine va_get (D := D) (ci := 11) (v := .ref a1) (C := RX11) (T := TX11) (N := 47) hx hb hts (by decide +kernel) hown hK.1 hP 0 rfl rfl 38 (by decide) (hts (.fieldLink RX11 75 "JugglingHallModel" "walked" "[I") (by decide +kernel)) (fun _ h9 => h9) hf_walked dX11_loopsFrom_133 ?_
                refine lv_iload hx hb dX11_loopsFrom_136 (lv_at hl 0 rfl) ?_
                refine lv_iload hx hb dX11_loopsFrom_138 (lv_at hl 1 rfl) ?_
                refine ast_n (k := n + 1) hx hb hK.1 hP hD hS 1 0 rfl rfl (by omega) (by decide) dX11_loopsFrom_140 (fun H locs hP hD hS => ?_)
                have hP : va_P D vwCl [(mm, .inr (11, fs)), (a1, .inl (cI, 11, .inl (upd wk (n + 1) (nI t)))), (a2, .inl (cI, 11, .inl (upd tr n (nI h))))] H := hP
                have hD : va_D A [(mm, .inr (11, fs)), (a1, .inl (cI, 11, .inl (upd wk (n + 1) (nI t)))), (a2, .inl (cI, 11, .inl (upd tr n (nI h))))] := hD
                refine lv_aload_n hx hb dX11_loopsFrom_141 rfl (lv_at hl 2 rfl) ?_
                refine va_get (D := D) (ci := 11) (v := .ref a2) (C := RX11) (T := TX11) (N := 47) hx hb hts (by decide +kernel) hown hK.1 hP 0 rfl rfl 39 (by decide) (hts (.fieldLink RX11 78 "JugglingHallModel" "tried" "[I") (by decide +kernel)) (fun _ h9 => h9) hf_tried dX11_loopsFrom_142 ?_
                refine lv_iload hx hb dX11_loopsFrom_145 (lv_at hl 0 rfl) ?_
                refine lv_iconst (v := (-1)) hx hb dX11_loopsFrom_147 (by decide) ?_
                refine ast_n (k := n + 1) hx hb hK.1 hP hD hS 2 0 rfl rfl (by omega) (by decide) dX11_loopsFrom_148 (fun H locs hP hD hS => ?_)
                have hP : va_P D vwCl [(mm, .inr (11, fs)), (a1, .inl (cI, 11, .inl (upd wk (n + 1) (nI t)))), (a2, .inl (cI, 11, .inl (upd (upd tr n (nI h)) (n + 1) (-1))))] H := hP
                have hD : va_D A [(mm, .inr (11, fs)), (a1, .inl (cI, 11, .inl (upd wk (n + 1) (nI t)))), (a2, .inl (cI, 11, .inl (upd (upd tr n (nI h)) (n + 1) (-1))))] := hD
                refine lv_goto (tgt := 20) hx hb dX11_loopsFrom_149 (by decide) ?_
                have hl := lv_re (i := 4) (y := nI (bs + sumH h (lpc st hi (l9 + 1) x vis) + sumH 0 (lpc st hi l9 t (t :: vis)))) hl 6 rfl rfl
                have hl : lv_has ls 7 [(5, .int (nI (n + 1))), (6, .int (nI t)), (0, .ref mm), (1, .int (nI st)), (2, .int (nI hi)), (3, .int (nI (lf + 1))), (4, .int (nI (bs + sumH h (lpc st hi (l9 + 1) x vis) + sumH 0 (lpc st hi l9 t (t :: vis)))))] := hl
                refine ihL (hi + 2) (n + 1) (bs + sumH h (lpc st hi (l9 + 1) x vis)) t 0 (t :: vis) (upd wk (n + 1) (nI t)) (upd (upd tr n (nI h)) (n + 1) (-1)) _ _ _ (by omega) (by omega) htl (by omega) (hwk.cons (by omega)) pk_us (by rw [pk_us]; rfl) (fun wk' tr' H locs ls hk hP hD hS hl => ?_) hP hD hS (lv_sub hl [2, 3, 4, 5, 6, 0] rfl)
                have hl := lv_re (i := 5) (y := nI n) hl 5 rfl (nI_pred n)
                have hl := lv_re (i := 4) (y := nI (bs + sumH (h + 1) (lpc st hi (l9 + 1) x vis))) hl 4 rfl (by rw [show sumH (h + 1) (lpc st hi (l9 + 1) x vis) = sumH h (lpc st hi (l9 + 1) x vis) + lpc st hi (l9 + 1) x vis h from rfl, show lpc st hi (l9 + 1) x vis h = lpn st hi (l9 + 1) t (t :: vis) from by rw [lpc_s est, if_pos ⟨(nI_ltI (by omega) (by omega)).mp (Int32.not_le.mp c110), hmem⟩], Nat.add_assoc])
                exact ih n bs x (h + 1) vis wk' tr' _ _ _ (by omega) hn hx5 (by omega) (hwk.same (fun k q => by rw [(hk k q).1]; exact pk_un (by omega))) (by rw [(hk n (by omega)).1, pk_un (by omega)]; exact ewk) (by rw [(hk n (by omega)).2, pk_un (by omega), pk_us]; exact (nI_pred h).symm) (fun wk2 tr2 H locs ls hk2 => K wk2 tr2 H locs ls (fun k q => ⟨by rw [(hk2 k q).1, (hk k (by omega)).1]; exact pk_un (by omega), by rw [(hk2 k q).2, (hk k (by omega)).2, pk_un (by omega)]; exact pk_un (by omega)⟩)) hP hD hS hl
        · have h10 : h = hi + 1 := by
            have : ¬ h ≤ hi := fun q => c44 (nI_le q (by omega))
            omega
          refine lv_iinc (v := nI n - 1) (lv' := [(5, .int (nI n - 1)), (0, .ref mm), (1, .int (nI st)), (2, .int (nI hi)), (3, .int (nI (lf + 1))), (4, .int (nI (bs + sumH h (lpc st hi (l9 + 1) x vis))))]) hx hb dX11_loopsFrom_47 hl (k := 5) rfl (jx_m1 _) (by decide) rfl (fun ls hl => ?_)
          refine lv_goto (tgt := 20) hx hb dX11_loopsFrom_50 (by decide) ?_
          have hl := lv_re (i := 4) (y := nI (bs + lpn st hi ((l9 + 1) + 1) x vis)) hl 5 rfl (by rw [lpn_eq, h10])
          have hl : lv_has ls 7 [(5, .int (nI n - 1)), (0, .ref mm), (1, .int (nI st)), (2, .int (nI hi)), (3, .int (nI (lf + 1))), (4, .int (nI (bs + lpn st hi ((l9 + 1) + 1) x vis)))] := hl
          exact K wk (upd tr n (nI h)) _ _ _ (fun k hk => ⟨rfl, pk_un (by omega)⟩) hP hD hS (lv_sub hl [1, 2, 3, 4, 5, 0] rfl)
  have hl := lv_re (i := 4) (y := nI (0 + sumH 0 (lpc st hi lf st [st]))) hl 1 rfl rfl
  have hl : lv_has ls 7 [(5, .int (nI 0)), (4, .int (nI (0 + sumH 0 (lpc st hi lf st [st])))), (0, .ref mm), (1, .int (nI st)), (2, .int (nI hi)), (3, .int (nI (lf + 1)))] := hl
  refine main lf (hi + 2) 0 0 st 0 [st] (upd wk0 0 (nI st)) (upd tr0 0 (-1)) _ _ _ (by omega) (by omega) hst (by omega) (fun t ht => ⟨fun q => ⟨0, by omega, by rw [pk_us, List.mem_singleton.mp q]⟩, fun ⟨k, k1, k2⟩ => by rw [show k = 0 by omega, pk_us] at k2; exact List.mem_singleton.mpr ((nI_eq (by omega) (by omega)).mp k2).symm⟩) pk_us pk_us (fun wk' tr' H locs ls _ hP hD hS hl => ?_) hP hD hS (lv_sub hl [2, 3, 4, 5, 1, 0] rfl)
  have hl : lv_has ls 7 [(0, .ref mm), (1, .int (nI st)), (2, .int (nI hi)), (3, .int (nI (lf + 1))), (4, .int (nI (0 + lpn st hi (lf + 1) st [st]))), (5, .int (nI 0 - 1))] := hl
  refine lv_iload hx hb dX11_loopsFrom_20 (lv_at hl 5 rfl) ?_
  refine lv_if_lt (tgt := 152) hx hb dX11_loopsFrom_22 (by decide) (fun c22 => ?_) (fun c22 => absurd (by decide) c22)
  refine lv_iload hx hb dX11_loopsFrom_152 (lv_at hl 4 rfl) ?_
  refine lv_eqi (y := nI (lpn st hi (lf + 1) st [st])) (by rw [Nat.zero_add]) ?_
  exact g_iret ((wk', tr')) hx hb hr hlocks hS rfl (trivial) (hP.sub [0, 1, 2] rfl) (hD.sub [0, 1, 2] (by decide) rfl) hQ (Nat.le_of_ble_eq_true rfl) (Nat.le_of_ble_eq_true rfl) dX11_loopsFrom_154
theorem inI_1 {x lo hi : Int32} (h1 : ¬ x < lo) (h2 : ¬ hi < x) : inI x lo hi = 1 := by unfold inI; rw [if_neg h1, if_neg h2]
set_option maxRecDepth 100000 in
set_option maxHeartbeats 4000000 in
/-- the reference: loops -/
theorem c_mloops_in (l : Launch) (D : va_G) (cI cR cM : ClassId) (sz : Nat) {bits hi lf : Nat} (hb9 : bits < 6) (hh1 : 1 ≤ hi) (hhi : hi < 6) (hlf : lf < 10) (mm : Nat) (fs : List Value) (a1 a2 : Nat) (hf_walked : fs[38]? = some (.ref a1)) (hf_tried : fs[39]? = some (.ref a2)) (wk0 tr0 : Nat → Int32) : Met l yX11_loops wsX11_loops ({ frames := 2, cells := 0, slots := 0, locals := 49 }) (P0 D cI cR cM [.ref mm, .int (nI bits), .int (nI hi), .int (nI (lf + 1))] sz [(mm, .inr (11, fs)), (a1, .inl (cI, 11, .inl wk0)), (a2, .inl (cI, 11, .inl tr0))]) (QG (S := (Nat → Int32) × (Nat → Int32)) (fun _ => some (.int (nI (lpAll bits hi (lf + 1))))) (fun u => [(mm, .inr (11, fs)), (a1, .inl (cI, 11, .inl u.1)), (a2, .inl (cI, 11, .inl u.2))]) (fun _ => True) D (va_A [(mm, .inr (11, fs)), (a1, .inl (cI, 11, .inl wk0)), (a2, .inl (cI, 11, .inl tr0))] sz)) 0 0 (va_A [(mm, .inr (11, fs)), (a1, .inl (cI, 11, .inl wk0)), (a2, .inl (cI, 11, .inl tr0))] sz) := by
  refine go (cc := cX11_loops) (maxL := 6) (ret := (some .int)) (by decide) rfl (Nat.le_of_ble_eq_true rfl) ?_
  intro p e s m below meth c ls args Q hQ hsz hx hb hr hml hts hown hlocks hnm hP hK hD hl
  subst hsz
  have hD := hD.self (sz := s.heap.size)
  generalize hAe : va_A [(mm, .inr (11, fs)), (a1, .inl (cI, 11, .inl wk0)), (a2, .inl (cI, 11, .inl tr0))] s.heap.size = A at hD hQ
  have hA : ∀ q, s.heap.size ≤ q → A q := fun q h => by rw [← hAe]; exact Or.inr h
  have hS : va_S A s.heap s.heap [] := va_S.rf
  have hl : lv_has ls 6 [(0, .ref mm), (1, .int (nI bits)), (2, .int (nI hi)), (3, .int (nI (lf + 1)))] := hl
  have h32 := jx_p32 hhi
  refine lv_iload_n hx hb dX11_loops_0 rfl (lv_at hl 1 rfl) ?_
  refine lv_iconst (v := 0) hx hb dX11_loops_1 (by decide) ?_
  refine lv_iconst (v := 5) hx hb dX11_loops_2 (by decide) ?_
  refine ro (va_runS (As := [.int (nI bits), .int 0, .int 5]) (rest := []) ⟨hx, hb, hml, hown, hts⟩ (c_isIn l D cI cR cM _ (nI bits) 0 5) (va_cwS 3 hts gX11_loops_X11_isIn rfl rfl rfl (by decide +kernel) ⟨Nat.le_of_ble_eq_true rfl, Nat.le_of_ble_eq_true rfl⟩) (pre_S hK va_P_nil (va_D_nil (A := fun _ => True))) rfl rfl hl.1 rfl (lv_room (Nat.le_of_ble_eq_true rfl)) dX11_loops_3 ⟨Nat.le_of_ble_eq_true rfl, Nat.le_of_ble_eq_true rfl⟩) hS hA hP (fun H locs hP hS => ?_)
  refine lv_eqi (y := 1) (inI_1 (nI_pos (by omega)) (nI_nlt (a := 5) (by omega) (by decide))) ?_
  refine lv_if_eq (tgt := 28) hx hb dX11_loops_6 (by decide) (fun c6 => absurd c6 (by decide)) (fun c6 => ?_)
  refine lv_iload_n hx hb dX11_loops_9 rfl (lv_at hl 2 rfl) ?_
  refine lv_iconst (v := 1) hx hb dX11_loops_10 (by decide) ?_
  refine lv_iconst (v := 5) hx hb dX11_loops_11 (by decide) ?_
  refine ro (va_runS (As := [.int (nI hi), .int 1, .int 5]) (rest := []) ⟨hx, hb, hml, hown, hts⟩ (c_isIn l D cI cR cM _ (nI hi) 1 5) (va_cwS 3 hts gX11_loops_X11_isIn rfl rfl rfl (by decide +kernel) ⟨Nat.le_of_ble_eq_true rfl, Nat.le_of_ble_eq_true rfl⟩) (pre_S hK va_P_nil (va_D_nil (A := fun _ => True))) rfl rfl hl.1 rfl (lv_room (Nat.le_of_ble_eq_true rfl)) dX11_loops_12 ⟨Nat.le_of_ble_eq_true rfl, Nat.le_of_ble_eq_true rfl⟩) hS hA hP (fun H locs hP hS => ?_)
  refine lv_eqi (y := 1) (inI_1 (nI_nlt (b := 1) (by omega) (by omega)) (nI_nlt (a := 5) (by omega) (by decide))) ?_
  refine lv_if_eq (tgt := 28) hx hb dX11_loops_15 (by decide) (fun c15 => absurd c15 (by decide)) (fun c15 => ?_)
  refine lv_iload_n hx hb dX11_loops_18 rfl (lv_at hl 3 rfl) ?_
  refine lv_iconst (v := 1) hx hb dX11_loops_19 (by decide) ?_
  refine lv_bipush (v := 10) hx hb dX11_loops_20 (by decide) ?_
  refine ro (va_runS (As := [.int (nI (lf + 1)), .int 1, .int 10]) (rest := []) ⟨hx, hb, hml, hown, hts⟩ (c_isIn l D cI cR cM _ (nI (lf + 1)) 1 10) (va_cwS 3 hts gX11_loops_X11_isIn rfl rfl rfl (by decide +kernel) ⟨Nat.le_of_ble_eq_true rfl, Nat.le_of_ble_eq_true rfl⟩) (pre_S hK va_P_nil (va_D_nil (A := fun _ => True))) rfl rfl hl.1 rfl (lv_room (Nat.le_of_ble_eq_true rfl)) dX11_loops_22 ⟨Nat.le_of_ble_eq_true rfl, Nat.le_of_ble_eq_true rfl⟩) hS hA hP (fun H locs hP hS => ?_)
  refine lv_eqi (y := 1) (inI_1 (nI_nlt (b := 1) (by omega) (by omega)) (nI_nlt (a := 10) (by omega) (by decide))) ?_
  refine lv_if_ne (tgt := 30) hx hb dX11_loops_25 (by decide) (fun c25 => ?_) (fun c25 => absurd c25 (by decide))
  refine lv_iconst (v := 0) hx hb dX11_loops_30 (by decide) ?_
  refine lv_eqi (y := nI (sumH 0 (fun s => if bc s = bits then lpn s hi (lf + 1) s [s] else 0))) (rfl) ?_
  refine lv_istore (lv' := [(4, .int (nI (sumH 0 (fun s => if bc s = bits then lpn s hi (lf + 1) s [s] else 0)))), (0, .ref mm), (1, .int (nI bits)), (2, .int (nI hi)), (3, .int (nI (lf + 1)))]) hx hb dX11_loops_31 hl (by decide) rfl (fun ls hl => ?_)
  refine lv_iconst (v := 0) hx hb dX11_loops_33 (by decide) ?_
  refine lv_eqi (y := nI 0) (jx_c0) ?_
  refine lv_istore (lv' := [(5, .int (nI 0)), (4, .int (nI (sumH 0 (fun s => if bc s = bits then lpn s hi (lf + 1) s [s] else 0)))), (0, .ref mm), (1, .int (nI bits)), (2, .int (nI hi)), (3, .int (nI (lf + 1)))]) hx hb dX11_loops_34 hl (by decide) rfl (fun ls hl => ?_)
  have loop : ∀ (dd : Nat) (k : Nat) (wk : Nat → Int32) (tr : Nat → Int32) (H : Heap) (locs : List Loc) (ls : Array Slot), 2 ^ hi - k < dd → (k ≤ 2 ^ hi) → va_P D vwCl [(mm, .inr (11, fs)), (a1, .inl (cI, 11, .inl wk)), (a2, .inl (cI, 11, .inl tr))] H → va_D A [(mm, .inr (11, fs)), (a1, .inl (cI, 11, .inl wk)), (a2, .inl (cI, 11, .inl tr))] → va_S A s.heap H locs → lv_has ls 6 [(0, .ref mm), (1, .int (nI bits)), (2, .int (nI hi)), (3, .int (nI (lf + 1))), (4, .int (nI (sumH k (fun s => if bc s = bits then lpn s hi (lf + 1) s [s] else 0)))), (5, .int (nI k))] → W p l e ({ frames := 2, cells := 0, slots := 0, locals := 49 }) s m args below meth c H locs 0 0 Q (F0 m 36 ls []) := by
    intro dd
    induction dd with
    | zero =>
      intro k wk tr H locs ls hdd
      exact absurd hdd (Nat.not_lt_zero _)
    | succ dd ih =>
      intro k wk tr H locs ls hdd hk hP hD hS hl
      refine lv_iload hx hb dX11_loops_36 (lv_at hl 5 rfl) ?_
      refine lv_iconst (v := 1) hx hb dX11_loops_38 (by decide) ?_
      refine lv_iload_n hx hb dX11_loops_39 rfl (lv_at hl 2 rfl) ?_
      refine lv_ishl hx hb dX11_loops_40 ?_
      refine lv_eqi (y := nI (2 ^ hi)) (jx_pow hi hhi) ?_
      refine lv_icmp_ge (tgt := 72) hx hb dX11_loops_41 (by decide) (fun c41 => ?_) (fun c41 => ?_)
      · have hk9 : k = 2 ^ hi := by have := (nI_leI (by omega) (by omega)).mp c41; omega
        subst hk9
        refine lv_iload hx hb dX11_loops_72 (lv_at hl 4 rfl) ?_
        exact g_iret ((wk, tr)) hx hb hr hlocks hS rfl (trivial) (hP.sub [0, 1, 2] rfl) (hD.sub [0, 1, 2] (by decide) rfl) hQ (Nat.le_of_ble_eq_true rfl) (Nat.le_of_ble_eq_true rfl) dX11_loops_74
      · have hk9 : k < 2 ^ hi := Nat.lt_of_not_le fun q => c41 (nI_le q (by omega))
        refine lv_iload hx hb dX11_loops_44 (lv_at hl 5 rfl) ?_
        refine ro (va_runS (As := [.int (nI k)]) (rest := []) ⟨hx, hb, hml, hown, hts⟩ (c_bitsOf l D cI cR cM _ (by omega)) (va_cwS 1 hts gX11_loops_X11_bitsOf rfl rfl rfl (by decide +kernel) ⟨Nat.le_of_ble_eq_true rfl, Nat.le_of_ble_eq_true rfl⟩) (pre_S hK va_P_nil (va_D_nil (A := fun _ => True))) rfl rfl hl.1 rfl (lv_room (Nat.le_of_ble_eq_true rfl)) dX11_loops_46 ⟨Nat.le_of_ble_eq_true rfl, Nat.le_of_ble_eq_true rfl⟩) hS hA hP (fun H locs hP hS => ?_)
        refine lv_iload_n hx hb dX11_loops_49 rfl (lv_at hl 1 rfl) ?_
        refine lv_icmp_ne (tgt := 66) hx hb dX11_loops_50 (by decide) (fun c50 => ?_) (fun c50 => ?_)
        · have hbc : ¬ bc k = bits := fun q => c50 (by rw [q])
          refine lv_iinc (v := nI (k + 1)) (lv' := [(5, .int (nI (k + 1))), (0, .ref mm), (1, .int (nI bits)), (2, .int (nI hi)), (3, .int (nI (lf + 1))), (4, .int (nI (sumH k (fun s => if bc s = bits then lpn s hi (lf + 1) s [s] else 0))))]) hx hb dX11_loops_66 hl (k := 5) rfl (jx_inc) (by decide) rfl (fun ls hl => ?_)
          refine lv_goto (tgt := 36) hx hb dX11_loops_69 (by decide) ?_
          have hl := lv_re (i := 4) (y := nI (sumH (k + 1) (fun s => if bc s = bits then lpn s hi (lf + 1) s [s] else 0))) hl 5 rfl (jx_z (if_neg (show ¬ bc k = bits from hbc)))
          have hl : lv_has ls 6 [(5, .int (nI (k + 1))), (0, .ref mm), (1, .int (nI bits)), (2, .int (nI hi)), (3, .int (nI (lf + 1))), (4, .int (nI (sumH (k + 1) (fun s => if bc s = bits then lpn s hi (lf + 1) s [s] else 0))))] := hl
          exact ih (k + 1) wk tr _ _ _ (by omega) (by omega) hP hD hS (lv_sub hl [1, 2, 3, 4, 5, 0] rfl)
        · have hbk : bc k < 100 := bc_lt k
          have hbc : bc k = bits := (nI_eq (by omega) (by omega)).mp c50
          refine lv_iload hx hb dX11_loops_53 (lv_at hl 4 rfl) ?_
          refine lv_aload_n hx hb dX11_loops_55 rfl (lv_at hl 0 rfl) ?_
          refine lv_iload hx hb dX11_loops_56 (lv_at hl 5 rfl) ?_
          refine lv_iload_n hx hb dX11_loops_58 rfl (lv_at hl 2 rfl) ?_
          refine lv_iload_n hx hb dX11_loops_59 rfl (lv_at hl 3 rfl) ?_
          have hPc := hP.sub (ws' := [(mm, .inr (11, fs)), (a1, .inl (cI, 11, .inl wk)), (a2, .inl (cI, 11, .inl tr))]) [0, 1, 2] rfl
          have hDc := hD.sub (ws' := [(mm, .inr (11, fs)), (a1, .inl (cI, 11, .inl wk)), (a2, .inl (cI, 11, .inl tr))]) [0, 1, 2] (by decide) rfl
          refine call_g (wr := []) (va_runV (As := [.int (nI k), .int (nI hi), .int (nI (lf + 1))]) (rest := [.int (nI (sumH k (fun s => if bc s = bits then lpn s hi (lf + 1) s [s] else 0)))]) ⟨hx, hb, hml, hown, hts⟩ (c_loopsFrom l D cI cR cM _ hhi hk9 hlf mm fs a1 a2 hf_walked hf_tried wk tr) (cwV 3 hts gX11_loops_X11_loopsFrom rfl rfl rfl (by decide +kernel) ⟨Nat.le_of_ble_eq_true rfl, Nat.le_of_ble_eq_true rfl⟩) (pre_V hK hPc hDc 0 11 rfl rfl) rfl rfl hl.1 rfl (lv_room (Nat.le_of_ble_eq_true rfl)) dX11_loops_60 ⟨Nat.le_of_ble_eq_true rfl, Nat.le_of_ble_eq_true rfl⟩) hP hD hS hA [0, 1, 2] [] rfl rfl (by decide) (by decide) (fun u1 H locs hw hP hD hS => ?_)
          obtain ⟨wk2, tr2⟩ := u1
          have hP : va_P D vwCl [(mm, .inr (11, fs)), (a1, .inl (cI, 11, .inl wk2)), (a2, .inl (cI, 11, .inl tr2))] H := hP
          have hD : va_D A [(mm, .inr (11, fs)), (a1, .inl (cI, 11, .inl wk2)), (a2, .inl (cI, 11, .inl tr2))] := hD
          refine lv_iadd hx hb dX11_loops_63 ?_
          refine lv_eqi (y := nI (sumH k (fun s => if bc s = bits then lpn s hi (lf + 1) s [s] else 0) + lpn k hi (lf + 1) k [k])) (nI_add _ _) ?_
          refine lv_istore (lv' := [(4, .int (nI (sumH k (fun s => if bc s = bits then lpn s hi (lf + 1) s [s] else 0) + lpn k hi (lf + 1) k [k]))), (0, .ref mm), (1, .int (nI bits)), (2, .int (nI hi)), (3, .int (nI (lf + 1))), (5, .int (nI k))]) hx hb dX11_loops_64 hl (by decide) rfl (fun ls hl => ?_)
          refine lv_iinc (v := nI (k + 1)) (lv' := [(5, .int (nI (k + 1))), (4, .int (nI (sumH k (fun s => if bc s = bits then lpn s hi (lf + 1) s [s] else 0) + lpn k hi (lf + 1) k [k]))), (0, .ref mm), (1, .int (nI bits)), (2, .int (nI hi)), (3, .int (nI (lf + 1)))]) hx hb dX11_loops_66 hl (k := 5) rfl (jx_inc) (by decide) rfl (fun ls hl => ?_)
          refine lv_goto (tgt := 36) hx hb dX11_loops_69 (by decide) ?_
          have hl := lv_re (i := 4) (y := nI (sumH (k + 1) (fun s => if bc s = bits then lpn s hi (lf + 1) s [s] else 0))) hl 1 rfl (by show nI (_ + _) = nI (_ + (if bc k = bits then lpn k hi (lf + 1) k [k] else 0)); rw [if_pos hbc])
          have hl : lv_has ls 6 [(5, .int (nI (k + 1))), (4, .int (nI (sumH (k + 1) (fun s => if bc s = bits then lpn s hi (lf + 1) s [s] else 0)))), (0, .ref mm), (1, .int (nI bits)), (2, .int (nI hi)), (3, .int (nI (lf + 1)))] := hl
          exact ih (k + 1) wk2 tr2 _ _ _ (by omega) (by omega) hP hD hS (lv_sub hl [2, 3, 4, 5, 1, 0] rfl)
  exact loop (2 ^ hi + 1) 0 wk0 tr0 _ _ _ (Nat.lt_succ_of_le (Nat.sub_le _ _)) (Nat.zero_le _) hP hD hS (lv_sub hl [2, 3, 4, 5, 1, 0] rfl)
theorem inI_n0 {x lo hi : Int32} (h : ¬ inI x lo hi = 0) : ¬ x < lo ∧ ¬ hi < x := by
  unfold inI at h
  by_cases h1 : x < lo
  · rw [if_pos h1] at h; exact absurd rfl h
  · rw [if_neg h1] at h
    by_cases h2 : hi < x
    · rw [if_pos h2] at h; exact absurd rfl h
    · exact ⟨h1, h2⟩
set_option maxRecDepth 100000 in
set_option maxHeartbeats 4000000 in
theorem c_mloops_out (l : Launch) (D : va_G) (cI cR cM : ClassId) (sz : Nat) {b h sx : Int32} (hout : ¬ LIn b h sx) (mm : Nat) (fs : List Value) : Met l yX11_loops wsX11_loops ({ frames := 2, cells := 0, slots := 0, locals := 49 }) (P0 D cI cR cM [.ref mm, .int b, .int h, .int sx] sz [(mm, .inr (11, fs))]) (QE (some (.int (-1))) sz) 0 0 (va_A [] sz) := by
  refine go (cc := cX11_loops) (maxL := 6) (ret := (some .int)) (by decide) rfl (Nat.le_of_ble_eq_true rfl) ?_
  intro p e s m below meth c ls args Q hQ hsz hx hb hr hml hts hown hlocks hnm hP hK hD hl
  subst hsz
  have hS : va_S (va_A [] s.heap.size) s.heap s.heap [] := va_S.rf
  have hA : ∀ q, s.heap.size ≤ q → va_A [] s.heap.size q := fun q h => Or.inr h
  have hl : lv_has ls 6 [(0, .ref mm), (1, .int b), (2, .int h), (3, .int sx)] := hl
  refine lv_iload_n hx hb dX11_loops_0 rfl (lv_at hl 1 rfl) ?_
  refine lv_iconst (v := 0) hx hb dX11_loops_1 (by decide) ?_
  refine lv_iconst (v := 5) hx hb dX11_loops_2 (by decide) ?_
  refine ro (va_runS (As := [.int b, .int 0, .int 5]) (rest := []) ⟨hx, hb, hml, hown, hts⟩ (c_isIn l D cI cR cM _ b 0 5) (va_cwS 3 hts gX11_loops_X11_isIn rfl rfl rfl (by decide +kernel) ⟨Nat.le_of_ble_eq_true rfl, Nat.le_of_ble_eq_true rfl⟩) (pre_S hK va_P_nil (va_D_nil (A := fun _ => True))) rfl rfl hl.1 rfl (lv_room (Nat.le_of_ble_eq_true rfl)) dX11_loops_3 ⟨Nat.le_of_ble_eq_true rfl, Nat.le_of_ble_eq_true rfl⟩) hS hA hP (fun H locs hP hS => ?_)
  refine lv_if_eq (tgt := 28) hx hb dX11_loops_6 (by decide) (fun c6 => ?_) (fun c6 => ?_)
  · refine lv_iconst (v := (-1)) hx hb dX11_loops_28 (by decide) ?_
    exact ro_iret hx hb hr hlocks hS (rfl) hQ dX11_loops_29
  · refine lv_iload_n hx hb dX11_loops_9 rfl (lv_at hl 2 rfl) ?_
    refine lv_iconst (v := 1) hx hb dX11_loops_10 (by decide) ?_
    refine lv_iconst (v := 5) hx hb dX11_loops_11 (by decide) ?_
    refine ro (va_runS (As := [.int h, .int 1, .int 5]) (rest := []) ⟨hx, hb, hml, hown, hts⟩ (c_isIn l D cI cR cM _ h 1 5) (va_cwS 3 hts gX11_loops_X11_isIn rfl rfl rfl (by decide +kernel) ⟨Nat.le_of_ble_eq_true rfl, Nat.le_of_ble_eq_true rfl⟩) (pre_S hK va_P_nil (va_D_nil (A := fun _ => True))) rfl rfl hl.1 rfl (lv_room (Nat.le_of_ble_eq_true rfl)) dX11_loops_12 ⟨Nat.le_of_ble_eq_true rfl, Nat.le_of_ble_eq_true rfl⟩) hS hA hP (fun H locs hP hS => ?_)
    refine lv_if_eq (tgt := 28) hx hb dX11_loops_15 (by decide) (fun c15 => ?_) (fun c15 => ?_)
    · refine lv_iconst (v := (-1)) hx hb dX11_loops_28 (by decide) ?_
      exact ro_iret hx hb hr hlocks hS (rfl) hQ dX11_loops_29
    · refine lv_iload_n hx hb dX11_loops_18 rfl (lv_at hl 3 rfl) ?_
      refine lv_iconst (v := 1) hx hb dX11_loops_19 (by decide) ?_
      refine lv_bipush (v := 10) hx hb dX11_loops_20 (by decide) ?_
      refine ro (va_runS (As := [.int sx, .int 1, .int 10]) (rest := []) ⟨hx, hb, hml, hown, hts⟩ (c_isIn l D cI cR cM _ sx 1 10) (va_cwS 3 hts gX11_loops_X11_isIn rfl rfl rfl (by decide +kernel) ⟨Nat.le_of_ble_eq_true rfl, Nat.le_of_ble_eq_true rfl⟩) (pre_S hK va_P_nil (va_D_nil (A := fun _ => True))) rfl rfl hl.1 rfl (lv_room (Nat.le_of_ble_eq_true rfl)) dX11_loops_22 ⟨Nat.le_of_ble_eq_true rfl, Nat.le_of_ble_eq_true rfl⟩) hS hA hP (fun H locs hP hS => ?_)
      refine lv_if_ne (tgt := 30) hx hb dX11_loops_25 (by decide) (fun c25 => ?_) (fun c25 => ?_)
      · exact absurd (by
            obtain ⟨b9, -, b1, b2⟩ := jx_rng (lo := 0) (hi := 5) (by decide) (inI_n0 c6).1 (inI_n0 c6).2 (by decide)
            obtain ⟨h9, h1, h2, h3⟩ := jx_rng (lo := 1) (hi := 5) (by decide) (inI_n0 c15).1 (inI_n0 c15).2 (by decide)
            obtain ⟨s9, s1, s2, s3⟩ := jx_rng (lo := 1) (hi := 10) (by decide) (inI_n0 c25).1 (inI_n0 c25).2 (by decide)
            exact ⟨b9, h9, s9 - 1, by omega, h1, by omega, by omega, b2, h3, by rw [s3, Nat.sub_add_cancel s1]⟩) hout
      · refine lv_iconst (v := (-1)) hx hb dX11_loops_28 (by decide) ?_
        exact ro_iret hx hb hr hlocks hS (rfl) hQ dX11_loops_29
