theorem dX11_weigh_0 : decode cX11_weigh 0 = .ok (.aload_n 0, 1) := by decide +kernel
theorem dX11_weigh_1 : decode cX11_weigh 1 = .ok (.getfield 8, 3) := by decide +kernel
theorem dX11_weigh_4 : decode cX11_weigh 4 = .ok (.iload_n 1, 1) := by decide +kernel
theorem dX11_weigh_5 : decode cX11_weigh 5 = .ok (.iaload, 1) := by decide +kernel
theorem dX11_weigh_6 : decode cX11_weigh 6 = .ok (.istore_n 2, 1) := by decide +kernel
theorem dX11_weigh_7 : decode cX11_weigh 7 = .ok (.iconst 0, 1) := by decide +kernel
theorem dX11_weigh_8 : decode cX11_weigh 8 = .ok (.istore_n 3, 1) := by decide +kernel
theorem dX11_weigh_9 : decode cX11_weigh 9 = .ok (.iload_n 3, 1) := by decide +kernel
theorem dX11_weigh_10 : decode cX11_weigh 10 = .ok (.iconst 3, 1) := by decide +kernel
theorem dX11_weigh_11 : decode cX11_weigh 11 = .ok (.iload_n 2, 1) := by decide +kernel
theorem dX11_weigh_12 : decode cX11_weigh 12 = .ok (.imul, 1) := by decide +kernel
theorem dX11_weigh_13 : decode cX11_weigh 13 = .ok (.if_icmp .ge 16, 3) := by decide +kernel
theorem dX11_weigh_16 : decode cX11_weigh 16 = .ok (.aload_n 0, 1) := by decide +kernel
theorem dX11_weigh_17 : decode cX11_weigh 17 = .ok (.getfield 54, 3) := by decide +kernel
theorem dX11_weigh_20 : decode cX11_weigh 20 = .ok (.iload_n 3, 1) := by decide +kernel
theorem dX11_weigh_21 : decode cX11_weigh 21 = .ok (.iconst 0, 1) := by decide +kernel
theorem dX11_weigh_22 : decode cX11_weigh 22 = .ok (.iastore, 1) := by decide +kernel
theorem dX11_weigh_23 : decode cX11_weigh 23 = .ok (.iinc 3 1, 3) := by decide +kernel
theorem dX11_weigh_26 : decode cX11_weigh 26 = .ok (.goto (-17), 3) := by decide +kernel
theorem dX11_weigh_29 : decode cX11_weigh 29 = .ok (.aload_n 0, 1) := by decide +kernel
theorem dX11_weigh_30 : decode cX11_weigh 30 = .ok (.iconst 0, 1) := by decide +kernel
theorem dX11_weigh_31 : decode cX11_weigh 31 = .ok (.putfield 246, 3) := by decide +kernel
theorem dX11_weigh_34 : decode cX11_weigh 34 = .ok (.iconst 0, 1) := by decide +kernel
theorem dX11_weigh_35 : decode cX11_weigh 35 = .ok (.istore_n 3, 1) := by decide +kernel
theorem dX11_weigh_36 : decode cX11_weigh 36 = .ok (.iload_n 3, 1) := by decide +kernel
theorem dX11_weigh_37 : decode cX11_weigh 37 = .ok (.iload_n 2, 1) := by decide +kernel
theorem dX11_weigh_38 : decode cX11_weigh 38 = .ok (.if_icmp .ge 109, 3) := by decide +kernel
theorem dX11_weigh_41 : decode cX11_weigh 41 = .ok (.iconst 0, 1) := by decide +kernel
theorem dX11_weigh_42 : decode cX11_weigh 42 = .ok (.istore 4, 2) := by decide +kernel
theorem dX11_weigh_44 : decode cX11_weigh 44 = .ok (.iload 4, 2) := by decide +kernel
theorem dX11_weigh_46 : decode cX11_weigh 46 = .ok (.bipush 6, 2) := by decide +kernel
theorem dX11_weigh_48 : decode cX11_weigh 48 = .ok (.if_icmp .ge 93, 3) := by decide +kernel
theorem dX11_weigh_51 : decode cX11_weigh 51 = .ok (.aload_n 0, 1) := by decide +kernel
theorem dX11_weigh_52 : decode cX11_weigh 52 = .ok (.iload_n 1, 1) := by decide +kernel
theorem dX11_weigh_53 : decode cX11_weigh 53 = .ok (.iload_n 3, 1) := by decide +kernel
theorem dX11_weigh_54 : decode cX11_weigh 54 = .ok (.iload 4, 2) := by decide +kernel
theorem dX11_weigh_56 : decode cX11_weigh 56 = .ok (.iconst 2, 1) := by decide +kernel
theorem dX11_weigh_57 : decode cX11_weigh 57 = .ok (.idiv, 1) := by decide +kernel
theorem dX11_weigh_58 : decode cX11_weigh 58 = .ok (.iload 4, 2) := by decide +kernel
theorem dX11_weigh_60 : decode cX11_weigh 60 = .ok (.iconst 2, 1) := by decide +kernel
theorem dX11_weigh_61 : decode cX11_weigh 61 = .ok (.irem, 1) := by decide +kernel
theorem dX11_weigh_62 : decode cX11_weigh 62 = .ok (.invokevirtual 239, 3) := by decide +kernel
theorem dX11_weigh_65 : decode cX11_weigh 65 = .ok (.istore 5, 2) := by decide +kernel
theorem dX11_weigh_67 : decode cX11_weigh 67 = .ok (.iload 5, 2) := by decide +kernel
theorem dX11_weigh_69 : decode cX11_weigh 69 = .ok (.ifCond .ne 6, 3) := by decide +kernel
theorem dX11_weigh_72 : decode cX11_weigh 72 = .ok (.goto 63, 3) := by decide +kernel
theorem dX11_weigh_75 : decode cX11_weigh 75 = .ok (.aload_n 0, 1) := by decide +kernel
theorem dX11_weigh_76 : decode cX11_weigh 76 = .ok (.dup, 1) := by decide +kernel
theorem dX11_weigh_77 : decode cX11_weigh 77 = .ok (.getfield 246, 3) := by decide +kernel
theorem dX11_weigh_80 : decode cX11_weigh 80 = .ok (.iload 5, 2) := by decide +kernel
theorem dX11_weigh_82 : decode cX11_weigh 82 = .ok (.iadd, 1) := by decide +kernel
theorem dX11_weigh_83 : decode cX11_weigh 83 = .ok (.putfield 246, 3) := by decide +kernel
theorem dX11_weigh_86 : decode cX11_weigh 86 = .ok (.aload_n 0, 1) := by decide +kernel
theorem dX11_weigh_87 : decode cX11_weigh 87 = .ok (.getfield 54, 3) := by decide +kernel
theorem dX11_weigh_90 : decode cX11_weigh 90 = .ok (.iconst 3, 1) := by decide +kernel
theorem dX11_weigh_91 : decode cX11_weigh 91 = .ok (.iload_n 3, 1) := by decide +kernel
theorem dX11_weigh_92 : decode cX11_weigh 92 = .ok (.imul, 1) := by decide +kernel
theorem dX11_weigh_93 : decode cX11_weigh 93 = .ok (.iload 4, 2) := by decide +kernel
theorem dX11_weigh_95 : decode cX11_weigh 95 = .ok (.iconst 2, 1) := by decide +kernel
theorem dX11_weigh_96 : decode cX11_weigh 96 = .ok (.idiv, 1) := by decide +kernel
theorem dX11_weigh_97 : decode cX11_weigh 97 = .ok (.iadd, 1) := by decide +kernel
theorem dX11_weigh_98 : decode cX11_weigh 98 = .ok (.dup2, 1) := by decide +kernel
theorem dX11_weigh_99 : decode cX11_weigh 99 = .ok (.iaload, 1) := by decide +kernel
theorem dX11_weigh_100 : decode cX11_weigh 100 = .ok (.iconst 1, 1) := by decide +kernel
theorem dX11_weigh_101 : decode cX11_weigh 101 = .ok (.isub, 1) := by decide +kernel
theorem dX11_weigh_102 : decode cX11_weigh 102 = .ok (.iastore, 1) := by decide +kernel
theorem dX11_weigh_103 : decode cX11_weigh 103 = .ok (.aload_n 0, 1) := by decide +kernel
theorem dX11_weigh_104 : decode cX11_weigh 104 = .ok (.getfield 54, 3) := by decide +kernel
theorem dX11_weigh_107 : decode cX11_weigh 107 = .ok (.iconst 3, 1) := by decide +kernel
theorem dX11_weigh_108 : decode cX11_weigh 108 = .ok (.iload_n 3, 1) := by decide +kernel
theorem dX11_weigh_109 : decode cX11_weigh 109 = .ok (.iload 5, 2) := by decide +kernel
theorem dX11_weigh_111 : decode cX11_weigh 111 = .ok (.iadd, 1) := by decide +kernel
theorem dX11_weigh_112 : decode cX11_weigh 112 = .ok (.iload_n 2, 1) := by decide +kernel
theorem dX11_weigh_113 : decode cX11_weigh 113 = .ok (.irem, 1) := by decide +kernel
theorem dX11_weigh_114 : decode cX11_weigh 114 = .ok (.imul, 1) := by decide +kernel
theorem dX11_weigh_115 : decode cX11_weigh 115 = .ok (.aload_n 0, 1) := by decide +kernel
theorem dX11_weigh_116 : decode cX11_weigh 116 = .ok (.iload_n 1, 1) := by decide +kernel
theorem dX11_weigh_117 : decode cX11_weigh 117 = .ok (.iload_n 3, 1) := by decide +kernel
theorem dX11_weigh_118 : decode cX11_weigh 118 = .ok (.iload 4, 2) := by decide +kernel
theorem dX11_weigh_120 : decode cX11_weigh 120 = .ok (.iconst 2, 1) := by decide +kernel
theorem dX11_weigh_121 : decode cX11_weigh 121 = .ok (.idiv, 1) := by decide +kernel
theorem dX11_weigh_122 : decode cX11_weigh 122 = .ok (.iload 4, 2) := by decide +kernel
theorem dX11_weigh_124 : decode cX11_weigh 124 = .ok (.iconst 2, 1) := by decide +kernel
theorem dX11_weigh_125 : decode cX11_weigh 125 = .ok (.irem, 1) := by decide +kernel
theorem dX11_weigh_126 : decode cX11_weigh 126 = .ok (.invokevirtual 243, 3) := by decide +kernel
theorem dX11_weigh_129 : decode cX11_weigh 129 = .ok (.iadd, 1) := by decide +kernel
theorem dX11_weigh_130 : decode cX11_weigh 130 = .ok (.dup2, 1) := by decide +kernel
theorem dX11_weigh_131 : decode cX11_weigh 131 = .ok (.iaload, 1) := by decide +kernel
theorem dX11_weigh_132 : decode cX11_weigh 132 = .ok (.iconst 1, 1) := by decide +kernel
theorem dX11_weigh_133 : decode cX11_weigh 133 = .ok (.iadd, 1) := by decide +kernel
theorem dX11_weigh_134 : decode cX11_weigh 134 = .ok (.iastore, 1) := by decide +kernel
theorem dX11_weigh_135 : decode cX11_weigh 135 = .ok (.iinc 4 1, 3) := by decide +kernel
theorem dX11_weigh_138 : decode cX11_weigh 138 = .ok (.goto (-94), 3) := by decide +kernel
theorem dX11_weigh_141 : decode cX11_weigh 141 = .ok (.iinc 3 1, 3) := by decide +kernel
theorem dX11_weigh_144 : decode cX11_weigh 144 = .ok (.goto (-108), 3) := by decide +kernel
theorem dX11_weigh_147 : decode cX11_weigh 147 = .ok (.aload_n 0, 1) := by decide +kernel
theorem dX11_weigh_148 : decode cX11_weigh 148 = .ok (.iconst (-1), 1) := by decide +kernel
theorem dX11_weigh_149 : decode cX11_weigh 149 = .ok (.putfield 249, 3) := by decide +kernel
theorem dX11_weigh_152 : decode cX11_weigh 152 = .ok (.iconst 3, 1) := by decide +kernel
theorem dX11_weigh_153 : decode cX11_weigh 153 = .ok (.iload_n 2, 1) := by decide +kernel
theorem dX11_weigh_154 : decode cX11_weigh 154 = .ok (.imul, 1) := by decide +kernel
theorem dX11_weigh_155 : decode cX11_weigh 155 = .ok (.iconst 1, 1) := by decide +kernel
theorem dX11_weigh_156 : decode cX11_weigh 156 = .ok (.isub, 1) := by decide +kernel
theorem dX11_weigh_157 : decode cX11_weigh 157 = .ok (.istore_n 3, 1) := by decide +kernel
theorem dX11_weigh_158 : decode cX11_weigh 158 = .ok (.iload_n 3, 1) := by decide +kernel
theorem dX11_weigh_159 : decode cX11_weigh 159 = .ok (.ifCond .lt 23, 3) := by decide +kernel
theorem dX11_weigh_162 : decode cX11_weigh 162 = .ok (.aload_n 0, 1) := by decide +kernel
theorem dX11_weigh_163 : decode cX11_weigh 163 = .ok (.getfield 54, 3) := by decide +kernel
theorem dX11_weigh_166 : decode cX11_weigh 166 = .ok (.iload_n 3, 1) := by decide +kernel
theorem dX11_weigh_167 : decode cX11_weigh 167 = .ok (.iaload, 1) := by decide +kernel
theorem dX11_weigh_168 : decode cX11_weigh 168 = .ok (.ifCond .eq 8, 3) := by decide +kernel
theorem dX11_weigh_171 : decode cX11_weigh 171 = .ok (.aload_n 0, 1) := by decide +kernel
theorem dX11_weigh_172 : decode cX11_weigh 172 = .ok (.iload_n 3, 1) := by decide +kernel
theorem dX11_weigh_173 : decode cX11_weigh 173 = .ok (.putfield 249, 3) := by decide +kernel
theorem dX11_weigh_176 : decode cX11_weigh 176 = .ok (.iinc 3 (-1), 3) := by decide +kernel
theorem dX11_weigh_179 : decode cX11_weigh 179 = .ok (.goto (-21), 3) := by decide +kernel
theorem dX11_weigh_182 : decode cX11_weigh 182 = .ok (.return_, 1) := by decide +kernel
set_option maxRecDepth 20000 in
theorem ggX11_weigh_X11_heightAt : GoodIn wsX11_weigh wsX11_heightAt := goodIn_r _ [9, 1, 14, 15, 16, 17, 18, 19, 20, 21, 22, 23, 24, 25, 26, 27, 28, 29, 30, 31, 32, 33, 34, 35, 36, 37, 38, 39, 40, 41, 42, 43, 44, 45, 46, 47, 48, 49, 50, 51, 52, 53, 54, 55, 56, 57, 58, 59, 60] (by decide +kernel) (by decide +kernel)
set_option maxRecDepth 20000 in
theorem gX11_weigh_X11_heightAt : GoodIn wsX11_weigh (wsV RX11 239 RX11 yX11_heightAt wsX11_heightAt) := goodIn_app (goodIn_of _ (by decide +kernel)) ggX11_weigh_X11_heightAt
set_option maxRecDepth 20000 in
theorem ggX11_weigh_X11_toAt : GoodIn wsX11_weigh wsX11_toAt := goodIn_r _ [13, 1, 14, 15, 16, 17, 18, 19, 20, 21, 22, 23, 24, 25, 26, 27, 28, 29, 30, 31, 32, 33, 34, 35, 36, 37, 38, 39, 40, 41, 42, 43, 44, 45, 46, 47, 48, 49, 50, 51, 52, 53, 54, 55, 56, 57, 58, 59, 60] (by decide +kernel) (by decide +kernel)
set_option maxRecDepth 20000 in
theorem gX11_weigh_X11_toAt : GoodIn wsX11_weigh (wsV RX11 243 RX11 yX11_toAt wsX11_toAt) := goodIn_app (goodIn_of _ (by decide +kernel)) ggX11_weigh_X11_toAt
/-- a cell of a row: its number -/
def cN (R : Nat → Int32) (r t : Nat) : Nat := (R (r + 1 + t)).toNatClampNeg
def cellsOk (jn : Nat) (R : Nat → Int32) (r n : Nat) : Prop := ∀ k, k < 6 * n → ∃ c, c < 40 ∧ c % 4 < jn ∧ R (r + 1 + k) = nI c
theorem cN_spec {jn : Nat} {R : Nat → Int32} {r n t : Nat} (h : cellsOk jn R r n) (ht : t < 6 * n) : R (r + 1 + t) = nI (cN R r t) ∧ cN R r t < 40 ∧ cN R r t % 4 < jn := by
  obtain ⟨c, c1, c2, c3⟩ := h t ht
  have : cN R r t = c := by unfold cN; rw [c3, nI_clamp (by omega)]
  rw [this]
  exact ⟨c3, c1, c2⟩
/-- what a throw does to the count of a place: one lands, one is thrown -/
def dlt (R : Nat → Int32) (r n t k : Nat) : Int32 := if cN R r t / 4 = 0 then 0 else (if k = 3 * ((t / 6 + cN R r t / 4) % n) + cN R r t % 4 then 1 else 0) - (if k = 3 * (t / 6) + t % 6 / 2 then 1 else 0)
def ldS (R : Nat → Int32) (r n : Nat) : Nat → Nat → Int32
  | 0, _ => 0
  | m + 1, k => ldS R r n m k + dlt R r n m k
def smS (R : Nat → Int32) (r : Nat) : Nat → Int32
  | 0 => 0
  | m + 1 => smS R r m + nI (cN R r m / 4)
theorem jx_aa (x : Int32) : x - 1 + 1 = x + (1 - 1) := by rw [Int32.sub_eq_add_neg, Int32.add_assoc]; rfl
theorem jx_ab (x : Int32) : x - 1 = x + (0 - 1) := by rw [Int32.sub_eq_add_neg]; rfl
theorem jx_ac (x : Int32) : x + 1 = x + (1 - 0) := rfl
theorem jx_ad (x : Int32) : x = x + (0 - 0) := (Int32.add_zero x).symm
theorem ldS_step {R : Nat → Int32} {r n t : Nat} {g : Nat → Int32} {N : Nat} (hh : ¬ cN R r t / 4 = 0) (hg : ∀ k, k < N → g k = ldS R r n t k) : ∀ k, k < N → upd (upd g (3 * (t / 6) + t % 6 / 2) (g (3 * (t / 6) + t % 6 / 2) - 1)) (3 * ((t / 6 + cN R r t / 4) % n) + cN R r t % 4) (upd g (3 * (t / 6) + t % 6 / 2) (g (3 * (t / 6) + t % 6 / 2) - 1) (3 * ((t / 6 + cN R r t / 4) % n) + cN R r t % 4) + 1) k = ldS R r n (t + 1) k := by
  intro k hk
  generalize ha : 3 * (t / 6) + t % 6 / 2 = a
  generalize hb : 3 * ((t / 6 + cN R r t / 4) % n) + cN R r t % 4 = b
  show _ = ldS R r n t k + dlt R r n t k
  unfold dlt
  rw [if_neg hh, ha, hb, ← hg k hk]
  by_cases e1 : k = b
  · subst e1
    rw [pk_us]
    by_cases e2 : k = a
    · subst e2
      rw [pk_us, if_pos rfl]
      exact jx_aa _
    · rw [pk_un e2, if_pos rfl, if_neg e2]
      exact jx_ac _
  · rw [pk_un e1]
    by_cases e2 : k = a
    · subst e2
      rw [pk_us, if_neg e1, if_pos rfl]
      exact jx_ab _
    · rw [pk_un e2, if_neg e1, if_neg e2]
      exact jx_ad _
theorem ldS_same {R : Nat → Int32} {r n t : Nat} {g : Nat → Int32} {N : Nat} (hh : cN R r t / 4 = 0) (hg : ∀ k, k < N → g k = ldS R r n t k) : ∀ k, k < N → g k = ldS R r n (t + 1) k := by
  intro k hk
  show _ = ldS R r n t k + dlt R r n t k
  unfold dlt
  rw [if_pos hh, ← hg k hk]
  exact (Int32.add_zero _).symm
/-- what weigh leaves behind: BAD PLACE and sum -/
def Weighed (R : Nat → Int32) (r n : Nat) (bd sm : Int32) : Prop := sm = smS R r (6 * n) ∧ ((bd = -1 ∧ ∀ k, k < 3 * n → ldS R r n (6 * n) k = 0) ∨ ∃ k, k < 3 * n ∧ bd = nI k ∧ ¬ ldS R r n (6 * n) k = 0)
theorem jx_m1' (x : Int32) : x + Int32.ofInt (-1) = x - 1 := by rw [Int32.sub_eq_add_neg]; rfl
theorem jx_inc' {k : Nat} : nI k + Int32.ofInt 1 = nI (k + 1) := (nI_succ k).symm
set_option maxRecDepth 100000 in
set_option maxHeartbeats 4000000 in
/-- the reference: weigh -/
theorem c_weigh (l : Launch) (D : va_G) (cI cR cM : ClassId) (sz : Nat) {jn : Nat} (mm : Nat) (q : Nat → Nat) (v : Nat → Int32) (F : Nat → Nat → Int32) {r n : Nat} (hr9 : r + 150 ≤ 73200) (hn1 : 1 ≤ n) (hn2 : n ≤ 24) (hn3 : F 0 r = nI n) (hc : cellsOk jn (F 0) r n) (hj3 : jn ≤ 3) : Met l yX11_weigh wsX11_weigh ({ frames := 1, cells := 0, slots := 0, locals := 24 }) (P0 D cI cR cM [.ref mm, .int (nI r)] sz (mW mm q jn cI v F)) (QG (S := (Nat → Int32) × (Nat → Nat → Int32)) (fun _ => none) (fun u => mW mm q jn cI u.1 u.2) (fun u => ∃ (bd sm : Int32) (g : Nat → Int32), u.1 = upd (upd v 15 bd) 16 sm ∧ u.2 = updA F 12 g ∧ Weighed (F 0) r n bd sm) D (va_A (mW mm q jn cI v F) sz)) 0 0 (va_A (mW mm q jn cI v F) sz) := by
  refine go (cc := cX11_weigh) (maxL := 6) (ret := none) (by decide) rfl (Nat.le_of_ble_eq_true rfl) ?_
  intro p e s m below meth c ls args Q hQ hsz hx hb hr hml hts hown hlocks hnm hP hK hD hl
  subst hsz
  have hD := hD.self (sz := s.heap.size)
  generalize hAe : va_A (mW mm q jn cI v F) s.heap.size = A at hD hQ
  have hA : ∀ q, s.heap.size ≤ q → A q := fun q h => by rw [← hAe]; exact Or.inr h
  have hS : va_S A s.heap s.heap [] := va_S.rf
  have hl : lv_has ls 6 [(0, .ref mm), (1, .int (nI r))] := hl
  refine lv_aload_n hx hb dX11_weigh_0 rfl (lv_at hl 0 rfl) ?_
  refine va_get (D := D) (ci := 11) (v := .ref (q 0)) (C := RX11) (T := TX11) (N := 47) hx hb hts (by decide +kernel) hown hK.1 hP 0 rfl rfl 1 (by decide) (hts (.fieldLink RX11 8 "JugglingHallModel" "rows" "[I") (by decide +kernel)) (fun _ h9 => h9) rfl dX11_weigh_1 ?_
  refine lv_iload_n hx hb dX11_weigh_4 rfl (lv_at hl 1 rfl) ?_
  refine ald_n (k := r) hx hb hK.1 hP 1 0 rfl rfl (by omega) (by decide) dX11_weigh_5 ?_
  refine lv_eqi (y := nI n) (hn3) ?_
  refine lv_istore_n (lv' := [(2, .int (nI n)), (0, .ref mm), (1, .int (nI r))]) hx hb dX11_weigh_6 rfl hl (by decide) rfl (fun ls hl => ?_)
  refine lv_iconst (v := 0) hx hb dX11_weigh_7 (by decide) ?_
  refine lv_eqi (y := nI 0) (rfl) ?_
  refine lv_istore_n (lv' := [(3, .int (nI 0)), (2, .int (nI n)), (0, .ref mm), (1, .int (nI r))]) hx hb dX11_weigh_8 rfl hl (by decide) rfl (fun ls hl => ?_)
  have loopA : ∀ (ddA : Nat) (k : Nat) (g : Nat → Int32) (H : Heap) (locs : List Loc) (ls : Array Slot), 3 * n - k < ddA → (k ≤ 3 * n) → (∀ j, j < k → g j = 0) → va_P D vwCl (mW mm q jn cI v (updA F 12 g)) H → va_D A (mW mm q jn cI v (updA F 12 g)) → va_S A s.heap H locs → lv_has ls 6 [(0, .ref mm), (1, .int (nI r)), (2, .int (nI n)), (3, .int (nI k))] → W p l e ({ frames := 1, cells := 0, slots := 0, locals := 24 }) s m args below meth c H locs 0 0 Q (F0 m 9 ls []) := by
    intro ddA
    induction ddA with
    | zero =>
      intro k g H locs ls hdd
      exact absurd hdd (Nat.not_lt_zero _)
    | succ ddA ihA =>
      intro k g H locs ls hdd hk hg hP hD hS hl
      refine lv_iload_n hx hb dX11_weigh_9 rfl (lv_at hl 3 rfl) ?_
      refine lv_iconst (v := 3) hx hb dX11_weigh_10 (by decide) ?_
      refine lv_eqi (y := nI 3) (rfl) ?_
      refine lv_iload_n hx hb dX11_weigh_11 rfl (lv_at hl 2 rfl) ?_
      refine lv_imul hx hb dX11_weigh_12 ?_
      refine lv_eqi (y := nI (3 * n)) (pk_mul 3 n) ?_
      refine lv_icmp_ge (tgt := 29) hx hb dX11_weigh_13 (by decide) (fun c13 => ?_) (fun c13 => ?_)
      · have hk9 : k = 3 * n := by have := (nI_leI (by omega) (by omega)).mp c13; omega
        refine lv_aload_n hx hb dX11_weigh_29 rfl (lv_at hl 0 rfl) ?_
        refine lv_iconst (v := 0) hx hb dX11_weigh_30 (by decide) ?_
        refine va_put (D := D) (ci := 11) (v := .int 0) (ty := .int) (C := RX11) (T := TX11) (N := 47) hx hb hts (by decide +kernel) tyX11 tyX11_ok nmX11 hown hK.1 hP hD hS 0 rfl rfl 29 (by decide) (hts (.fieldLink RX11 246 "JugglingHallModel" "sum" "I") (by decide +kernel)) (fun _ h9 => h9) rfl (by decide +kernel) rfl rfl (Nat.le_of_ble_eq_true rfl) dX11_weigh_31 (fun H locs hP hD hS => ?_)
        have hP : va_P D vwCl (mW mm q jn cI (upd v 16 0) (updA F 12 g)) H := hP
        have hD : va_D A (mW mm q jn cI (upd v 16 0) (updA F 12 g)) := hD
        refine lv_iconst (v := 0) hx hb dX11_weigh_34 (by decide) ?_
        refine lv_eqi (y := nI 0) (rfl) ?_
        refine lv_istore_n (lv' := [(3, .int (nI 0)), (0, .ref mm), (1, .int (nI r)), (2, .int (nI n))]) hx hb dX11_weigh_35 rfl hl (by decide) rfl (fun ls hl => ?_)
        have loopB : ∀ (ddB : Nat) (i : Nat) (g : Nat → Int32) (sm : Int32) (H : Heap) (locs : List Loc) (ls : Array Slot), n - i < ddB → (i ≤ n) → (∀ k, k < 3 * n → g k = ldS (F 0) r n (6 * i) k) → (sm = smS (F 0) r (6 * i)) → va_P D vwCl (mW mm q jn cI (upd v 16 sm) (updA F 12 g)) H → va_D A (mW mm q jn cI (upd v 16 sm) (updA F 12 g)) → va_S A s.heap H locs → lv_has ls 6 [(0, .ref mm), (1, .int (nI r)), (2, .int (nI n)), (3, .int (nI i))] → W p l e ({ frames := 1, cells := 0, slots := 0, locals := 24 }) s m args below meth c H locs 0 0 Q (F0 m 36 ls []) := by
          intro ddB
          induction ddB with
          | zero =>
            intro i g sm H locs ls hdd
            exact absurd hdd (Nat.not_lt_zero _)
          | succ ddB ihB =>
            intro i g sm H locs ls hdd hi hg hsm hP hD hS hl
            refine lv_iload_n hx hb dX11_weigh_36 rfl (lv_at hl 3 rfl) ?_
            refine lv_iload_n hx hb dX11_weigh_37 rfl (lv_at hl 2 rfl) ?_
            refine lv_icmp_ge (tgt := 147) hx hb dX11_weigh_38 (by decide) (fun c38 => ?_) (fun c38 => ?_)
            · have hi9 : i = n := by have := (nI_leI (by omega) (by omega)).mp c38; omega
              rw [hi9] at hg hsm
              refine lv_aload_n hx hb dX11_weigh_147 rfl (lv_at hl 0 rfl) ?_
              refine lv_iconst (v := (-1)) hx hb dX11_weigh_148 (by decide) ?_
              refine va_put (D := D) (ci := 11) (v := .int (-1)) (ty := .int) (C := RX11) (T := TX11) (N := 47) hx hb hts (by decide +kernel) tyX11 tyX11_ok nmX11 hown hK.1 hP hD hS 0 rfl rfl 28 (by decide) (hts (.fieldLink RX11 249 "JugglingHallModel" "bad" "I") (by decide +kernel)) (fun _ h9 => h9) rfl (by decide +kernel) rfl rfl (Nat.le_of_ble_eq_true rfl) dX11_weigh_149 (fun H locs hP hD hS => ?_)
              have hP : va_P D vwCl (mW mm q jn cI (upd (upd v 15 (-1)) 16 sm) (updA F 12 g)) H := hP
              have hD : va_D A (mW mm q jn cI (upd (upd v 15 (-1)) 16 sm) (updA F 12 g)) := hD
              refine lv_iconst (v := 3) hx hb dX11_weigh_152 (by decide) ?_
              refine lv_eqi (y := nI 3) (rfl) ?_
              refine lv_iload_n hx hb dX11_weigh_153 rfl (lv_at hl 2 rfl) ?_
              refine lv_imul hx hb dX11_weigh_154 ?_
              refine lv_eqi (y := nI (3 * n)) (pk_mul 3 n) ?_
              refine lv_iconst (v := 1) hx hb dX11_weigh_155 (by decide) ?_
              refine lv_isub hx hb dX11_weigh_156 ?_
              refine lv_istore_n (lv' := [(3, .int ((nI (3 * n)) - 1)), (0, .ref mm), (1, .int (nI r)), (2, .int (nI n))]) hx hb dX11_weigh_157 rfl hl (by decide) rfl (fun ls hl => ?_)
              have loopE : ∀ (ddE : Nat) (k : Nat) (bd : Int32) (H : Heap) (locs : List Loc) (ls : Array Slot), k < ddE → (k ≤ 3 * n) → ((bd = -1 ∧ ∀ j, k ≤ j → j < 3 * n → g j = 0) ∨ ∃ j, j < 3 * n ∧ bd = nI j ∧ ¬ g j = 0) → va_P D vwCl (mW mm q jn cI (upd (upd v 15 bd) 16 sm) (updA F 12 g)) H → va_D A (mW mm q jn cI (upd (upd v 15 bd) 16 sm) (updA F 12 g)) → va_S A s.heap H locs → lv_has ls 6 [(0, .ref mm), (1, .int (nI r)), (2, .int (nI n)), (3, .int (nI k - 1))] → W p l e ({ frames := 1, cells := 0, slots := 0, locals := 24 }) s m args below meth c H locs 0 0 Q (F0 m 158 ls []) := by
                intro ddE
                induction ddE with
                | zero =>
                  intro k bd H locs ls hdd
                  exact absurd hdd (Nat.not_lt_zero _)
                | succ ddE ihE =>
                  intro k bd H locs ls hdd hk hb9 hP hD hS hl
                  rcases k with _ | k9
                  · refine lv_iload_n hx hb dX11_weigh_158 rfl (lv_at hl 3 rfl) ?_
                    refine lv_if_lt (tgt := 182) hx hb dX11_weigh_159 (by decide) (fun c159 => ?_) (fun c159 => absurd (by decide) c159)
                    exact g_vret ((upd (upd v 15 bd) 16 sm), (updA F 12 g)) hx hb hr hlocks hS rfl (⟨bd, sm, g, by funext z; show upd (upd v 15 bd) 16 sm z = _; rfl, rfl, hsm, by
                        rcases hb9 with ⟨z1, z2⟩ | ⟨j, j1, j2, j3⟩
                        · exact Or.inl ⟨z1, fun j hj => by rw [← hg j hj]; exact z2 j (Nat.zero_le j) hj⟩
                        · exact Or.inr ⟨j, j1, j2, by rw [← hg j j1]; exact j3⟩⟩) hP hD hQ (Nat.le_of_ble_eq_true rfl) (Nat.le_of_ble_eq_true rfl) dX11_weigh_182
                  · refine lv_iload_n hx hb dX11_weigh_158 rfl (lv_at hl 3 rfl) ?_
                    refine lv_eqi (y := nI k9) (nI_pred k9) ?_
                    refine lv_if_lt (tgt := 182) hx hb dX11_weigh_159 (by decide) (fun c159 => absurd c159 (nI_pos (by omega))) (fun c159 => ?_)
                    refine lv_aload_n hx hb dX11_weigh_162 rfl (lv_at hl 0 rfl) ?_
                    refine va_get (D := D) (ci := 11) (v := .ref (q 12)) (C := RX11) (T := TX11) (N := 47) hx hb hts (by decide +kernel) hown hK.1 hP 0 rfl rfl 30 (by decide) (hts (.fieldLink RX11 54 "JugglingHallModel" "lands" "[I") (by decide +kernel)) (fun _ h9 => h9) rfl dX11_weigh_163 ?_
                    refine lv_iload_n hx hb dX11_weigh_166 rfl (lv_at hl 3 rfl) ?_
                    refine lv_eqi (y := nI k9) (nI_pred k9) ?_
                    refine ald_n (k := k9) hx hb hK.1 hP 13 0 rfl rfl (by omega) (by decide) dX11_weigh_167 ?_
                    refine lv_if_eq (tgt := 176) hx hb dX11_weigh_168 (by decide) (fun c168 => ?_) (fun c168 => ?_)
                    · refine lv_iinc (v := nI k9 - 1) (lv' := [(3, .int (nI k9 - 1)), (0, .ref mm), (1, .int (nI r)), (2, .int (nI n))]) hx hb dX11_weigh_176 hl (k := 3) rfl (by rw [nI_pred k9]; exact jx_m1' _) (by decide) rfl (fun ls hl => ?_)
                      refine lv_goto (tgt := 158) hx hb dX11_weigh_179 (by decide) ?_
                      exact ihE k9 bd _ _ _ (by omega) (by omega) (hb9.imp (fun z => ⟨z.1, fun j j1 j2 => by
                            by_cases e : j = k9
                            · rw [e]; exact c168
                            · exact z.2 j (by omega) j2⟩) id) hP hD hS (lv_sub hl [1, 2, 3, 0] rfl)
                    · refine lv_aload_n hx hb dX11_weigh_171 rfl (lv_at hl 0 rfl) ?_
                      refine lv_iload_n hx hb dX11_weigh_172 rfl (lv_at hl 3 rfl) ?_
                      refine lv_eqi (y := nI k9) (nI_pred k9) ?_
                      refine va_put (D := D) (ci := 11) (v := .int (nI k9)) (ty := .int) (C := RX11) (T := TX11) (N := 47) hx hb hts (by decide +kernel) tyX11 tyX11_ok nmX11 hown hK.1 hP hD hS 0 rfl rfl 28 (by decide) (hts (.fieldLink RX11 249 "JugglingHallModel" "bad" "I") (by decide +kernel)) (fun _ h9 => h9) rfl (by decide +kernel) rfl rfl (Nat.le_of_ble_eq_true rfl) dX11_weigh_173 (fun H locs hP hD hS => ?_)
                      have hP : va_P D vwCl (mW mm q jn cI (upd (upd v 15 (nI k9)) 16 sm) (updA F 12 g)) H := hP
                      have hD : va_D A (mW mm q jn cI (upd (upd v 15 (nI k9)) 16 sm) (updA F 12 g)) := hD
                      refine lv_iinc (v := nI k9 - 1) (lv' := [(3, .int (nI k9 - 1)), (0, .ref mm), (1, .int (nI r)), (2, .int (nI n))]) hx hb dX11_weigh_176 hl (k := 3) rfl (by rw [nI_pred k9]; exact jx_m1' _) (by decide) rfl (fun ls hl => ?_)
                      refine lv_goto (tgt := 158) hx hb dX11_weigh_179 (by decide) ?_
                      exact ihE k9 (nI k9) _ _ _ (by omega) (by omega) (Or.inr ⟨k9, by omega, rfl, c168⟩) hP hD hS (lv_sub hl [1, 2, 3, 0] rfl)
              exact loopE (3 * n + 1) (3 * n) (-1) _ _ _ (by omega) (Nat.le_refl _) (Or.inl ⟨rfl, fun j h1 h2 => by omega⟩) hP hD hS (lv_sub hl [1, 2, 3, 0] rfl)
            · have hi9 : i < n := Nat.lt_of_not_le fun q => c38 (nI_le q (by omega))
              refine lv_iconst (v := 0) hx hb dX11_weigh_41 (by decide) ?_
              refine lv_eqi (y := nI 0) (rfl) ?_
              refine lv_istore (lv' := [(4, .int (nI 0)), (0, .ref mm), (1, .int (nI r)), (2, .int (nI n)), (3, .int (nI i))]) hx hb dX11_weigh_42 hl (by decide) rfl (fun ls hl => ?_)
              have loopC : ∀ (ddC : Nat) (x : Nat) (g : Nat → Int32) (sm : Int32) (H : Heap) (locs : List Loc) (ls : Array Slot), 6 - x < ddC → (x ≤ 6) → (∀ k, k < 3 * n → g k = ldS (F 0) r n (6 * i + x) k) → (sm = smS (F 0) r (6 * i + x)) → va_P D vwCl (mW mm q jn cI (upd v 16 sm) (updA F 12 g)) H → va_D A (mW mm q jn cI (upd v 16 sm) (updA F 12 g)) → va_S A s.heap H locs → lv_has ls 6 [(0, .ref mm), (1, .int (nI r)), (2, .int (nI n)), (3, .int (nI i)), (4, .int (nI x))] → W p l e ({ frames := 1, cells := 0, slots := 0, locals := 24 }) s m args below meth c H locs 0 0 Q (F0 m 44 ls []) := by
                intro ddC
                induction ddC with
                | zero =>
                  intro x g sm H locs ls hdd
                  exact absurd hdd (Nat.not_lt_zero _)
                | succ ddC ihC =>
                  intro x g sm H locs ls hdd hx9 hg hsm hP hD hS hl
                  refine lv_iload hx hb dX11_weigh_44 (lv_at hl 4 rfl) ?_
                  refine lv_bipush (v := 6) hx hb dX11_weigh_46 (by decide) ?_
                  refine lv_icmp_ge (tgt := 141) hx hb dX11_weigh_48 (by decide) (fun c48 => ?_) (fun c48 => ?_)
                  · have hx6 : x = 6 := by have := (nI_leI (a := 6) (by decide) (by omega)).mp c48; omega
                    rw [hx6] at hg hsm
                    refine lv_iinc (v := nI (i + 1)) (lv' := [(3, .int (nI (i + 1))), (0, .ref mm), (1, .int (nI r)), (2, .int (nI n)), (4, .int (nI x))]) hx hb dX11_weigh_141 hl (k := 3) rfl (jx_inc') (by decide) rfl (fun ls hl => ?_)
                    refine lv_goto (tgt := 36) hx hb dX11_weigh_144 (by decide) ?_
                    exact ihB (i + 1) g sm _ _ _ (by omega) (hi9) (hg) (hsm) hP hD hS (lv_sub hl [1, 2, 3, 0] rfl)
                  · have hx6 : x < 6 := Nat.lt_of_not_le fun q => c48 (nI_le (a := 6) q (by omega))
                    obtain ⟨hc1, hc2, hc3⟩ := cN_spec hc (show 6 * i + x < 6 * n by omega)
                    generalize hcc : cN (F 0) r (6 * i + x) = cc at hc1 hc2 hc3
                    have hid : r + 1 + 6 * i + 2 * (x / 2) + x % 2 = r + 1 + (6 * i + x) := by omega
                    have ht6 : (6 * i + x) / 6 = i := by omega
                    have hm6 : (6 * i + x) % 6 / 2 = x / 2 := by omega
                    have hmn : (i + cc / 4) % n < n := Nat.mod_lt _ (by omega)
                    refine lv_aload_n hx hb dX11_weigh_51 rfl (lv_at hl 0 rfl) ?_
                    refine lv_iload_n hx hb dX11_weigh_52 rfl (lv_at hl 1 rfl) ?_
                    refine lv_iload_n hx hb dX11_weigh_53 rfl (lv_at hl 3 rfl) ?_
                    refine lv_iload hx hb dX11_weigh_54 (lv_at hl 4 rfl) ?_
                    refine lv_iconst (v := 2) hx hb dX11_weigh_56 (by decide) ?_
                    refine lv_eqi (y := nI 2) (rfl) ?_
                    refine lv_idiv hx hb dX11_weigh_57 (by decide) ?_
                    refine lv_eqi (y := nI (x / 2)) (pk_div (by omega) (by decide) (by decide)) ?_
                    refine lv_iload hx hb dX11_weigh_58 (lv_at hl 4 rfl) ?_
                    refine lv_iconst (v := 2) hx hb dX11_weigh_60 (by decide) ?_
                    refine lv_eqi (y := nI 2) (rfl) ?_
                    refine lv_irem hx hb dX11_weigh_61 (by decide) ?_
                    refine lv_eqi (y := nI (x % 2)) (pk_rem (by omega) (by decide) (by decide)) ?_
                    refine ro (va_runV (As := [.int (nI r), .int (nI i), .int (nI (x / 2)), .int (nI (x % 2))]) (rest := []) ⟨hx, hb, hml, hown, hts⟩ (c_heightAt l D cI cR cM _ mm q (upd v 16 sm) (updA F 12 g) (r := r) (b := i) (j := x / 2) (k := x % 2) (by omega)) (cwV 4 hts gX11_weigh_X11_heightAt rfl rfl rfl (by decide +kernel) ⟨Nat.le_of_ble_eq_true rfl, Nat.le_of_ble_eq_true rfl⟩) (pre_V hK hP hD 0 11 rfl rfl) rfl rfl hl.1 rfl (lv_room (Nat.le_of_ble_eq_true rfl)) dX11_weigh_62 ⟨Nat.le_of_ble_eq_true rfl, Nat.le_of_ble_eq_true rfl⟩) hS hA hP (fun H locs hP hS => ?_)
                    refine lv_eqi (y := nI (cc / 4)) (by show F 0 _ / 4 = _; rw [hid, hc1]; exact pk_div (by omega) (by decide) (by decide)) ?_
                    refine lv_istore (lv' := [(5, .int (nI (cc / 4))), (0, .ref mm), (1, .int (nI r)), (2, .int (nI n)), (3, .int (nI i)), (4, .int (nI x))]) hx hb dX11_weigh_65 hl (by decide) rfl (fun ls hl => ?_)
                    refine lv_iload hx hb dX11_weigh_67 (lv_at hl 0 rfl) ?_
                    refine lv_if_ne (tgt := 75) hx hb dX11_weigh_69 (by decide) (fun c69 => ?_) (fun c69 => ?_)
                    · have hh : ¬ cc / 4 = 0 := fun q => c69 (by rw [q]; rfl)
                      refine lv_aload_n hx hb dX11_weigh_75 rfl (lv_at hl 1 rfl) ?_
                      refine lv_dup hx hb dX11_weigh_76 rfl ?_
                      refine va_get (D := D) (ci := 11) (v := .int sm) (C := RX11) (T := TX11) (N := 47) hx hb hts (by decide +kernel) hown hK.1 hP 0 rfl rfl 29 (by decide) (hts (.fieldLink RX11 246 "JugglingHallModel" "sum" "I") (by decide +kernel)) (fun _ h9 => h9) rfl dX11_weigh_77 ?_
                      refine lv_iload hx hb dX11_weigh_80 (lv_at hl 0 rfl) ?_
                      refine lv_iadd hx hb dX11_weigh_82 ?_
                      refine lv_eqi (y := sm + nI (cc / 4)) (rfl) ?_
                      refine va_put (D := D) (ci := 11) (v := .int (sm + nI (cc / 4))) (ty := .int) (C := RX11) (T := TX11) (N := 47) hx hb hts (by decide +kernel) tyX11 tyX11_ok nmX11 hown hK.1 hP hD hS 0 rfl rfl 29 (by decide) (hts (.fieldLink RX11 246 "JugglingHallModel" "sum" "I") (by decide +kernel)) (fun _ h9 => h9) rfl (by decide +kernel) rfl rfl (Nat.le_of_ble_eq_true rfl) dX11_weigh_83 (fun H locs hP hD hS => ?_)
                      have hP : va_P D vwCl (mW mm q jn cI (upd v 16 (sm + nI (cc / 4))) (updA F 12 g)) H := hP
                      have hD : va_D A (mW mm q jn cI (upd v 16 (sm + nI (cc / 4))) (updA F 12 g)) := hD
                      refine lv_aload_n hx hb dX11_weigh_86 rfl (lv_at hl 1 rfl) ?_
                      refine va_get (D := D) (ci := 11) (v := .ref (q 12)) (C := RX11) (T := TX11) (N := 47) hx hb hts (by decide +kernel) hown hK.1 hP 0 rfl rfl 30 (by decide) (hts (.fieldLink RX11 54 "JugglingHallModel" "lands" "[I") (by decide +kernel)) (fun _ h9 => h9) rfl dX11_weigh_87 ?_
                      refine lv_iconst (v := 3) hx hb dX11_weigh_90 (by decide) ?_
                      refine lv_eqi (y := nI 3) (rfl) ?_
                      refine lv_iload_n hx hb dX11_weigh_91 rfl (lv_at hl 4 rfl) ?_
                      refine lv_imul hx hb dX11_weigh_92 ?_
                      refine lv_eqi (y := nI (3 * i)) (pk_mul 3 i) ?_
                      refine lv_iload hx hb dX11_weigh_93 (lv_at hl 5 rfl) ?_
                      refine lv_iconst (v := 2) hx hb dX11_weigh_95 (by decide) ?_
                      refine lv_eqi (y := nI 2) (rfl) ?_
                      refine lv_idiv hx hb dX11_weigh_96 (by decide) ?_
                      refine lv_eqi (y := nI (x / 2)) (pk_div (by omega) (by decide) (by decide)) ?_
                      refine lv_iadd hx hb dX11_weigh_97 ?_
                      refine lv_eqi (y := nI (3 * i + x / 2)) (nI_add _ _) ?_
                      refine lv_dup2_11 hx hb dX11_weigh_98 rfl rfl ?_
                      refine ald_n (k := 3 * i + x / 2) hx hb hK.1 hP 13 0 rfl rfl (by omega) (by decide) dX11_weigh_99 ?_
                      refine lv_iconst (v := 1) hx hb dX11_weigh_100 (by decide) ?_
                      refine lv_isub hx hb dX11_weigh_101 ?_
                      refine ast_n (k := 3 * i + x / 2) hx hb hK.1 hP hD hS 13 0 rfl rfl (by omega) (by decide) dX11_weigh_102 (fun H locs hP hD hS => ?_)
                      have hP : va_P D vwCl (mW mm q jn cI (upd v 16 (sm + nI (cc / 4))) (updA F 12 (upd g (3 * i + x / 2) ((g (3 * i + x / 2)) - 1)))) H := hP
                      have hD : va_D A (mW mm q jn cI (upd v 16 (sm + nI (cc / 4))) (updA F 12 (upd g (3 * i + x / 2) ((g (3 * i + x / 2)) - 1)))) := hD
                      refine lv_aload_n hx hb dX11_weigh_103 rfl (lv_at hl 1 rfl) ?_
                      refine va_get (D := D) (ci := 11) (v := .ref (q 12)) (C := RX11) (T := TX11) (N := 47) hx hb hts (by decide +kernel) hown hK.1 hP 0 rfl rfl 30 (by decide) (hts (.fieldLink RX11 54 "JugglingHallModel" "lands" "[I") (by decide +kernel)) (fun _ h9 => h9) rfl dX11_weigh_104 ?_
                      refine lv_iconst (v := 3) hx hb dX11_weigh_107 (by decide) ?_
                      refine lv_eqi (y := nI 3) (rfl) ?_
                      refine lv_iload_n hx hb dX11_weigh_108 rfl (lv_at hl 4 rfl) ?_
                      refine lv_iload hx hb dX11_weigh_109 (lv_at hl 0 rfl) ?_
                      refine lv_iadd hx hb dX11_weigh_111 ?_
                      refine lv_eqi (y := nI (i + cc / 4)) (nI_add _ _) ?_
                      refine lv_iload_n hx hb dX11_weigh_112 rfl (lv_at hl 3 rfl) ?_
                      refine lv_irem hx hb dX11_weigh_113 (nI_ne0 (by omega) (by omega)) ?_
                      refine lv_eqi (y := nI ((i + cc / 4) % n)) (pk_rem (by omega) (by omega) (by omega)) ?_
                      refine lv_imul hx hb dX11_weigh_114 ?_
                      refine lv_eqi (y := nI (3 * ((i + cc / 4) % n))) (pk_mul _ _) ?_
                      refine lv_aload_n hx hb dX11_weigh_115 rfl (lv_at hl 1 rfl) ?_
                      refine lv_iload_n hx hb dX11_weigh_116 rfl (lv_at hl 2 rfl) ?_
                      refine lv_iload_n hx hb dX11_weigh_117 rfl (lv_at hl 4 rfl) ?_
                      refine lv_iload hx hb dX11_weigh_118 (lv_at hl 5 rfl) ?_
                      refine lv_iconst (v := 2) hx hb dX11_weigh_120 (by decide) ?_
                      refine lv_eqi (y := nI 2) (rfl) ?_
                      refine lv_idiv hx hb dX11_weigh_121 (by decide) ?_
                      refine lv_eqi (y := nI (x / 2)) (pk_div (by omega) (by decide) (by decide)) ?_
                      refine lv_iload hx hb dX11_weigh_122 (lv_at hl 5 rfl) ?_
                      refine lv_iconst (v := 2) hx hb dX11_weigh_124 (by decide) ?_
                      refine lv_eqi (y := nI 2) (rfl) ?_
                      refine lv_irem hx hb dX11_weigh_125 (by decide) ?_
                      refine lv_eqi (y := nI (x % 2)) (pk_rem (by omega) (by decide) (by decide)) ?_
                      have hF9 := hP
                      refine ro (va_runV (As := [.int (nI r), .int (nI i), .int (nI (x / 2)), .int (nI (x % 2))]) (rest := [.int (nI (3 * ((i + cc / 4) % n))), .ref (q 12)]) ⟨hx, hb, hml, hown, hts⟩ (c_toAt l D cI cR cM _ mm q (upd v 16 (sm + nI (cc / 4))) (updA F 12 (upd g (3 * i + x / 2) ((g (3 * i + x / 2)) - 1))) (r := r) (b := i) (j := x / 2) (k := x % 2) (by omega)) (cwV 4 hts gX11_weigh_X11_toAt rfl rfl rfl (by decide +kernel) ⟨Nat.le_of_ble_eq_true rfl, Nat.le_of_ble_eq_true rfl⟩) (pre_V hK hP hD 0 11 rfl rfl) rfl rfl hl.1 rfl (lv_room (Nat.le_of_ble_eq_true rfl)) dX11_weigh_126 ⟨Nat.le_of_ble_eq_true rfl, Nat.le_of_ble_eq_true rfl⟩) hS hA hP (fun H locs hP hS => ?_)
                      refine lv_eqi (y := nI (cc % 4)) (by show F 0 _ - F 0 _ / 4 * 4 = _; rw [hid, hc1]; exact pk_rem (by omega) (by decide) (by decide)) ?_
                      refine lv_iadd hx hb dX11_weigh_129 ?_
                      refine lv_eqi (y := nI (3 * ((i + cc / 4) % n) + cc % 4)) (nI_add _ _) ?_
                      refine lv_dup2_11 hx hb dX11_weigh_130 rfl rfl ?_
                      refine ald_n (k := 3 * ((i + cc / 4) % n) + cc % 4) hx hb hK.1 hP 13 0 rfl rfl (by omega) (by decide) dX11_weigh_131 ?_
                      refine lv_iconst (v := 1) hx hb dX11_weigh_132 (by decide) ?_
                      refine lv_iadd hx hb dX11_weigh_133 ?_
                      refine ast_n (k := 3 * ((i + cc / 4) % n) + cc % 4) hx hb hK.1 hP hD hS 13 0 rfl rfl (by omega) (by decide) dX11_weigh_134 (fun H locs hP hD hS => ?_)
                      have hP : va_P D vwCl (mW mm q jn cI (upd v 16 (sm + nI (cc / 4))) (updA F 12 (upd (upd g (3 * i + x / 2) ((g (3 * i + x / 2)) - 1)) (3 * ((i + cc / 4) % n) + cc % 4) (((upd g (3 * i + x / 2) ((g (3 * i + x / 2)) - 1)) (3 * ((i + cc / 4) % n) + cc % 4)) + 1)))) H := hP
                      have hD : va_D A (mW mm q jn cI (upd v 16 (sm + nI (cc / 4))) (updA F 12 (upd (upd g (3 * i + x / 2) ((g (3 * i + x / 2)) - 1)) (3 * ((i + cc / 4) % n) + cc % 4) (((upd g (3 * i + x / 2) ((g (3 * i + x / 2)) - 1)) (3 * ((i + cc / 4) % n) + cc % 4)) + 1)))) := hD
                      refine lv_iinc (v := nI (x + 1)) (lv' := [(4, .int (nI (x + 1))), (5, .int (nI (cc / 4))), (0, .ref mm), (1, .int (nI r)), (2, .int (nI n)), (3, .int (nI i))]) hx hb dX11_weigh_135 hl (k := 5) rfl (jx_inc') (by decide) rfl (fun ls hl => ?_)
                      refine lv_goto (tgt := 44) hx hb dX11_weigh_138 (by decide) ?_
                      exact ihC (x + 1) (upd (upd g (3 * i + x / 2) (g (3 * i + x / 2) - 1)) (3 * ((i + cc / 4) % n) + cc % 4) (upd g (3 * i + x / 2) (g (3 * i + x / 2) - 1) (3 * ((i + cc / 4) % n) + cc % 4) + 1)) (sm + nI (cc / 4)) _ _ _ (by omega) (by omega) (by have := ldS_step (t := 6 * i + x) (by rw [hcc]; exact hh) hg; rw [hcc, ht6, hm6] at this; exact this) (by rw [hsm]; show _ = smS (F 0) r (6 * i + x) + nI (cN (F 0) r (6 * i + x) / 4); rw [hcc]) hP hD hS (lv_sub hl [2, 3, 4, 5, 0] rfl)
                    · have hh : cc / 4 = 0 := (nI_eq (b := 0) (by omega) (by decide)).mp c69
                      refine lv_goto (tgt := 135) hx hb dX11_weigh_72 (by decide) ?_
                      refine lv_iinc (v := nI (x + 1)) (lv' := [(4, .int (nI (x + 1))), (5, .int (nI (cc / 4))), (0, .ref mm), (1, .int (nI r)), (2, .int (nI n)), (3, .int (nI i))]) hx hb dX11_weigh_135 hl (k := 5) rfl (jx_inc') (by decide) rfl (fun ls hl => ?_)
                      refine lv_goto (tgt := 44) hx hb dX11_weigh_138 (by decide) ?_
                      exact ihC (x + 1) g sm _ _ _ (by omega) (by omega) (ldS_same (t := 6 * i + x) (by rw [hcc]; exact hh) hg) (by rw [hsm]; show _ = smS (F 0) r (6 * i + x) + nI (cN (F 0) r (6 * i + x) / 4); rw [hcc, hh]; exact (Int32.add_zero _).symm) hP hD hS (lv_sub hl [2, 3, 4, 5, 0] rfl)
              exact loopC 7 0 g sm _ _ _ (by omega) (by omega) (hg) (hsm) hP hD hS (lv_sub hl [1, 2, 3, 4, 0] rfl)
        exact loopB (n + 1) 0 g 0 _ _ _ (by omega) (Nat.zero_le _) (fun k hk => hg k (by omega)) (rfl) hP hD hS (lv_sub hl [1, 2, 3, 0] rfl)
      · have hk9 : k < 3 * n := Nat.lt_of_not_le fun q => c13 (nI_le q (by omega))
        refine lv_aload_n hx hb dX11_weigh_16 rfl (lv_at hl 0 rfl) ?_
        refine va_get (D := D) (ci := 11) (v := .ref (q 12)) (C := RX11) (T := TX11) (N := 47) hx hb hts (by decide +kernel) hown hK.1 hP 0 rfl rfl 30 (by decide) (hts (.fieldLink RX11 54 "JugglingHallModel" "lands" "[I") (by decide +kernel)) (fun _ h9 => h9) rfl dX11_weigh_17 ?_
        refine lv_iload_n hx hb dX11_weigh_20 rfl (lv_at hl 3 rfl) ?_
        refine lv_iconst (v := 0) hx hb dX11_weigh_21 (by decide) ?_
        refine ast_n (k := k) hx hb hK.1 hP hD hS 13 0 rfl rfl (by omega) (by decide) dX11_weigh_22 (fun H locs hP hD hS => ?_)
        have hP : va_P D vwCl (mW mm q jn cI v (updA F 12 (upd g k 0))) H := hP
        have hD : va_D A (mW mm q jn cI v (updA F 12 (upd g k 0))) := hD
        refine lv_iinc (v := nI (k + 1)) (lv' := [(3, .int (nI (k + 1))), (0, .ref mm), (1, .int (nI r)), (2, .int (nI n))]) hx hb dX11_weigh_23 hl (k := 3) rfl (jx_inc') (by decide) rfl (fun ls hl => ?_)
        refine lv_goto (tgt := 9) hx hb dX11_weigh_26 (by decide) ?_
        exact ihA (k + 1) (upd g k 0) _ _ _ (by omega) (hk9) (lt_s (fun j hj => by rw [pk_un (by omega)]; exact hg j hj) pk_us) hP hD hS (lv_sub hl [1, 2, 3, 0] rfl)
  exact loopA (3 * n + 1) 0 (F 12) _ _ _ (by omega) (Nat.zero_le _) (fun j q => by omega) hP hD hS (lv_sub hl [2, 3, 1, 0] rfl)
