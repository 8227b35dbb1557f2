theorem dX11_rowAt_0 : decode cX11_rowAt 0 = .ok (.sipush 150, 3) := by decide +kernel
theorem dX11_rowAt_3 : decode cX11_rowAt 3 = .ok (.bipush 8, 2) := by decide +kernel
theorem dX11_rowAt_5 : decode cX11_rowAt 5 = .ok (.iload_n 0, 1) := by decide +kernel
theorem dX11_rowAt_6 : decode cX11_rowAt 6 = .ok (.imul, 1) := by decide +kernel
theorem dX11_rowAt_7 : decode cX11_rowAt 7 = .ok (.iload_n 1, 1) := by decide +kernel
theorem dX11_rowAt_8 : decode cX11_rowAt 8 = .ok (.iadd, 1) := by decide +kernel
theorem dX11_rowAt_9 : decode cX11_rowAt 9 = .ok (.imul, 1) := by decide +kernel
theorem dX11_rowAt_10 : decode cX11_rowAt 10 = .ok (.ireturn, 1) := by decide +kernel
theorem dX11_latest_0 : decode cX11_latest 0 = .ok (.iload_n 2, 1) := by decide +kernel
theorem dX11_latest_1 : decode cX11_latest 1 = .ok (.istore_n 3, 1) := by decide +kernel
theorem dX11_latest_2 : decode cX11_latest 2 = .ok (.iload_n 3, 1) := by decide +kernel
theorem dX11_latest_3 : decode cX11_latest 3 = .ok (.ifCond .le 28, 3) := by decide +kernel
theorem dX11_latest_6 : decode cX11_latest 6 = .ok (.aload_n 0, 1) := by decide +kernel
theorem dX11_latest_7 : decode cX11_latest 7 = .ok (.getfield 8, 3) := by decide +kernel
theorem dX11_latest_10 : decode cX11_latest 10 = .ok (.iload_n 3, 1) := by decide +kernel
theorem dX11_latest_11 : decode cX11_latest 11 = .ok (.iload_n 1, 1) := by decide +kernel
theorem dX11_latest_12 : decode cX11_latest 12 = .ok (.invokestatic 96, 3) := by decide +kernel
theorem dX11_latest_15 : decode cX11_latest 15 = .ok (.iaload, 1) := by decide +kernel
theorem dX11_latest_16 : decode cX11_latest 16 = .ok (.ifCond .le 9, 3) := by decide +kernel
theorem dX11_latest_19 : decode cX11_latest 19 = .ok (.iload_n 3, 1) := by decide +kernel
theorem dX11_latest_20 : decode cX11_latest 20 = .ok (.iload_n 1, 1) := by decide +kernel
theorem dX11_latest_21 : decode cX11_latest 21 = .ok (.invokestatic 96, 3) := by decide +kernel
theorem dX11_latest_24 : decode cX11_latest 24 = .ok (.ireturn, 1) := by decide +kernel
theorem dX11_latest_25 : decode cX11_latest 25 = .ok (.iinc 3 (-1), 3) := by decide +kernel
theorem dX11_latest_28 : decode cX11_latest 28 = .ok (.goto (-26), 3) := by decide +kernel
theorem dX11_latest_31 : decode cX11_latest 31 = .ok (.iconst (-1), 1) := by decide +kernel
theorem dX11_latest_32 : decode cX11_latest 32 = .ok (.ireturn, 1) := by decide +kernel
theorem dX11_rowOf_0 : decode cX11_rowOf 0 = .ok (.iload_n 1, 1) := by decide +kernel
theorem dX11_rowOf_1 : decode cX11_rowOf 1 = .ok (.iconst 0, 1) := by decide +kernel
theorem dX11_rowOf_2 : decode cX11_rowOf 2 = .ok (.bipush 7, 2) := by decide +kernel
theorem dX11_rowOf_4 : decode cX11_rowOf 4 = .ok (.invokestatic 100, 3) := by decide +kernel
theorem dX11_rowOf_7 : decode cX11_rowOf 7 = .ok (.ifCond .eq 15, 3) := by decide +kernel
theorem dX11_rowOf_10 : decode cX11_rowOf 10 = .ok (.aload_n 0, 1) := by decide +kernel
theorem dX11_rowOf_11 : decode cX11_rowOf 11 = .ok (.iload_n 1, 1) := by decide +kernel
theorem dX11_rowOf_12 : decode cX11_rowOf 12 = .ok (.aload_n 0, 1) := by decide +kernel
theorem dX11_rowOf_13 : decode cX11_rowOf 13 = .ok (.getfield 104, 3) := by decide +kernel
theorem dX11_rowOf_16 : decode cX11_rowOf 16 = .ok (.invokevirtual 107, 3) := by decide +kernel
theorem dX11_rowOf_19 : decode cX11_rowOf 19 = .ok (.goto 4, 3) := by decide +kernel
theorem dX11_rowOf_22 : decode cX11_rowOf 22 = .ok (.iconst (-1), 1) := by decide +kernel
theorem dX11_rowOf_23 : decode cX11_rowOf 23 = .ok (.ireturn, 1) := by decide +kernel
theorem dX11_heightAt_0 : decode cX11_heightAt 0 = .ok (.aload_n 0, 1) := by decide +kernel
theorem dX11_heightAt_1 : decode cX11_heightAt 1 = .ok (.getfield 8, 3) := by decide +kernel
theorem dX11_heightAt_4 : decode cX11_heightAt 4 = .ok (.iload_n 1, 1) := by decide +kernel
theorem dX11_heightAt_5 : decode cX11_heightAt 5 = .ok (.iconst 1, 1) := by decide +kernel
theorem dX11_heightAt_6 : decode cX11_heightAt 6 = .ok (.iadd, 1) := by decide +kernel
theorem dX11_heightAt_7 : decode cX11_heightAt 7 = .ok (.bipush 6, 2) := by decide +kernel
theorem dX11_heightAt_9 : decode cX11_heightAt 9 = .ok (.iload_n 2, 1) := by decide +kernel
theorem dX11_heightAt_10 : decode cX11_heightAt 10 = .ok (.imul, 1) := by decide +kernel
theorem dX11_heightAt_11 : decode cX11_heightAt 11 = .ok (.iadd, 1) := by decide +kernel
theorem dX11_heightAt_12 : decode cX11_heightAt 12 = .ok (.iconst 2, 1) := by decide +kernel
theorem dX11_heightAt_13 : decode cX11_heightAt 13 = .ok (.iload_n 3, 1) := by decide +kernel
theorem dX11_heightAt_14 : decode cX11_heightAt 14 = .ok (.imul, 1) := by decide +kernel
theorem dX11_heightAt_15 : decode cX11_heightAt 15 = .ok (.iadd, 1) := by decide +kernel
theorem dX11_heightAt_16 : decode cX11_heightAt 16 = .ok (.iload 4, 2) := by decide +kernel
theorem dX11_heightAt_18 : decode cX11_heightAt 18 = .ok (.iadd, 1) := by decide +kernel
theorem dX11_heightAt_19 : decode cX11_heightAt 19 = .ok (.iaload, 1) := by decide +kernel
theorem dX11_heightAt_20 : decode cX11_heightAt 20 = .ok (.iconst 4, 1) := by decide +kernel
theorem dX11_heightAt_21 : decode cX11_heightAt 21 = .ok (.idiv, 1) := by decide +kernel
theorem dX11_heightAt_22 : decode cX11_heightAt 22 = .ok (.ireturn, 1) := by decide +kernel
theorem dX11_toAt_0 : decode cX11_toAt 0 = .ok (.aload_n 0, 1) := by decide +kernel
theorem dX11_toAt_1 : decode cX11_toAt 1 = .ok (.getfield 8, 3) := by decide +kernel
theorem dX11_toAt_4 : decode cX11_toAt 4 = .ok (.iload_n 1, 1) := by decide +kernel
theorem dX11_toAt_5 : decode cX11_toAt 5 = .ok (.iconst 1, 1) := by decide +kernel
theorem dX11_toAt_6 : decode cX11_toAt 6 = .ok (.iadd, 1) := by decide +kernel
theorem dX11_toAt_7 : decode cX11_toAt 7 = .ok (.bipush 6, 2) := by decide +kernel
theorem dX11_toAt_9 : decode cX11_toAt 9 = .ok (.iload_n 2, 1) := by decide +kernel
theorem dX11_toAt_10 : decode cX11_toAt 10 = .ok (.imul, 1) := by decide +kernel
theorem dX11_toAt_11 : decode cX11_toAt 11 = .ok (.iadd, 1) := by decide +kernel
theorem dX11_toAt_12 : decode cX11_toAt 12 = .ok (.iconst 2, 1) := by decide +kernel
theorem dX11_toAt_13 : decode cX11_toAt 13 = .ok (.iload_n 3, 1) := by decide +kernel
theorem dX11_toAt_14 : decode cX11_toAt 14 = .ok (.imul, 1) := by decide +kernel
theorem dX11_toAt_15 : decode cX11_toAt 15 = .ok (.iadd, 1) := by decide +kernel
theorem dX11_toAt_16 : decode cX11_toAt 16 = .ok (.iload 4, 2) := by decide +kernel
theorem dX11_toAt_18 : decode cX11_toAt 18 = .ok (.iadd, 1) := by decide +kernel
theorem dX11_toAt_19 : decode cX11_toAt 19 = .ok (.iaload, 1) := by decide +kernel
theorem dX11_toAt_20 : decode cX11_toAt 20 = .ok (.iconst 4, 1) := by decide +kernel
theorem dX11_toAt_21 : decode cX11_toAt 21 = .ok (.irem, 1) := by decide +kernel
theorem dX11_toAt_22 : decode cX11_toAt 22 = .ok (.ireturn, 1) := by decide +kernel
theorem dX11_beats_0 : decode cX11_beats 0 = .ok (.aload_n 0, 1) := by decide +kernel
theorem dX11_beats_1 : decode cX11_beats 1 = .ok (.iload_n 1, 1) := by decide +kernel
theorem dX11_beats_2 : decode cX11_beats 2 = .ok (.invokevirtual 233, 3) := by decide +kernel
theorem dX11_beats_5 : decode cX11_beats 5 = .ok (.istore_n 2, 1) := by decide +kernel
theorem dX11_beats_6 : decode cX11_beats 6 = .ok (.iload_n 2, 1) := by decide +kernel
theorem dX11_beats_7 : decode cX11_beats 7 = .ok (.ifCond .ge 7, 3) := by decide +kernel
theorem dX11_beats_10 : decode cX11_beats 10 = .ok (.iconst (-1), 1) := by decide +kernel
theorem dX11_beats_11 : decode cX11_beats 11 = .ok (.goto 9, 3) := by decide +kernel
theorem dX11_beats_14 : decode cX11_beats 14 = .ok (.aload_n 0, 1) := by decide +kernel
theorem dX11_beats_15 : decode cX11_beats 15 = .ok (.getfield 8, 3) := by decide +kernel
theorem dX11_beats_18 : decode cX11_beats 18 = .ok (.iload_n 2, 1) := by decide +kernel
theorem dX11_beats_19 : decode cX11_beats 19 = .ok (.iaload, 1) := by decide +kernel
theorem dX11_beats_20 : decode cX11_beats 20 = .ok (.ireturn, 1) := by decide +kernel
set_option maxRecDepth 20000 in
theorem ggX11_latest_X11_rowAt : GoodIn wsX11_latest wsX11_rowAt := goodIn_r _ [5] (by decide +kernel) (by decide +kernel)
set_option maxRecDepth 20000 in
theorem gX11_latest_X11_rowAt : GoodIn wsX11_latest (va_wsS RX11 96 yX11_rowAt wsX11_rowAt) := goodIn_app (goodIn_of _ (by decide +kernel)) ggX11_latest_X11_rowAt
set_option maxRecDepth 20000 in
theorem ggX11_rowOf_X11_isIn : GoodIn wsX11_rowOf wsX11_isIn := goodIn_r _ [5] (by decide +kernel) (by decide +kernel)
set_option maxRecDepth 20000 in
theorem gX11_rowOf_X11_isIn : GoodIn wsX11_rowOf (va_wsS RX11 100 yX11_isIn wsX11_isIn) := goodIn_app (goodIn_of _ (by decide +kernel)) ggX11_rowOf_X11_isIn
set_option maxRecDepth 20000 in
theorem ggX11_rowOf_X11_latest : GoodIn wsX11_rowOf wsX11_latest := goodIn_r _ [9, 10, 11, 12, 4, 13, 14, 15, 16, 17, 18, 19, 20, 21, 22, 23, 24, 25, 26, 27, 28, 29, 30, 31, 32, 33, 34, 35, 36, 37, 38, 39, 40, 41, 42, 43, 44, 45, 46, 47, 48, 49, 50, 51, 52, 53, 54, 55, 56, 57, 58, 59, 60] (by decide +kernel) (by decide +kernel)
set_option maxRecDepth 20000 in
theorem gX11_rowOf_X11_latest : GoodIn wsX11_rowOf (wsV RX11 107 RX11 yX11_latest wsX11_latest) := goodIn_app (goodIn_of _ (by decide +kernel)) ggX11_rowOf_X11_latest
set_option maxRecDepth 20000 in
theorem ggX11_beats_X11_rowOf : GoodIn wsX11_beats wsX11_rowOf := goodIn_r _ [6, 7, 8, 9, 5, 10, 11, 12, 13, 14, 1, 15, 16, 17, 18, 19, 20, 21, 22, 23, 24, 25, 26, 27, 28, 29, 30, 31, 32, 33, 34, 35, 36, 37, 38, 39, 40, 41, 42, 43, 44, 45, 46, 47, 48, 49, 50, 51, 52, 53, 54, 55, 56, 57, 58, 59, 60, 61, 62, 63, 64] (by decide +kernel) (by decide +kernel)
set_option maxRecDepth 20000 in
theorem gX11_beats_X11_rowOf : GoodIn wsX11_beats (wsV RX11 233 RX11 yX11_rowOf wsX11_rowOf) := goodIn_app (goodIn_of _ (by decide +kernel)) ggX11_beats_X11_rowOf
/-- the reference's fields, by its numbers v and its arrays' addresses q -/
def mF (q : Nat → Nat) (jn : Nat) (v : Nat → Int32) : List Value := [.int (nI jn), .ref (q 0), .ref (q 1), .int (v 0), .int (v 1), .ref (q 2), .int (v 2), .int (v 3), .int (v 4), .int (v 5), .int (v 6), .int (v 7), .int (v 8), .int (v 9), .ref (q 3), .ref (q 4), .ref (q 5), .ref (q 6), .ref (q 7), .int (v 10), .int (v 11), .int (v 12), .ref (q 8), .ref (q 9), .ref (q 10), .int (v 13), .int (v 14), .ref (q 11), .int (v 15), .int (v 16), .ref (q 12), .ref (q 13), .ref (q 14), .ref (q 15), .ref (q 16), .int (v 17), .ref (q 17), .ref (q 18), .ref (q 19), .ref (q 20), .ref (q 21), .ref (q 22), .int (v 18), .int (v 19), .int (v 20), .ref (q 23), .ref (q 24)]
def updA (F : Nat → Nat → Int32) (k : Nat) (g : Nat → Int32) : Nat → Nat → Int32 := fun j => if j = k then g else F j
/-- the reference's world: the object and its arrays -/
def mW (mm : Nat) (q : Nat → Nat) (jn : Nat) (cI : ClassId) (v : Nat → Int32) (F : Nat → Nat → Int32) : va_W := [(mm, .inr (11, mF q jn v)), (q 0, .inl (cI, 73200, .inl (F 0))), (q 1, .inl (cI, 488, .inl (F 1))), (q 2, .inl (cI, 300, .inl (F 2))), (q 3, .inl (cI, 2400, .inl (F 3))), (q 4, .inl (cI, 6, .inl (F 4))), (q 5, .inl (cI, 6, .inl (F 5))), (q 6, .inl (cI, 7, .inl (F 6))), (q 7, .inl (cI, 144, .inl (F 7))), (q 8, .inl (cI, 8, .inl (F 8))), (q 9, .inl (cI, 1152, .inl (F 9))), (q 10, .inl (cI, 8, .inl (F 10))), (q 11, .inl (cI, 8, .inl (F 11))), (q 12, .inl (cI, 72, .inl (F 12))), (q 13, .inl (cI, 144, .inl (F 13))), (q 14, .inl (cI, 144, .inl (F 14))), (q 15, .inl (cI, 144, .inl (F 15))), (q 16, .inl (cI, 6, .inl (F 16))), (q 17, .inl (cI, 512, .inl (F 17))), (q 18, .inl (cI, 512, .inl (F 18))), (q 19, .inl (cI, 11, .inl (F 19))), (q 20, .inl (cI, 11, .inl (F 20))), (q 21, .inl (cI, 300, .inl (F 21))), (q 22, .inl (cI, 300, .inl (F 22))), (q 23, .inl (cI, 8, .inl (F 23))), (q 24, .inl (cI, 8, .inl (F 24)))]
/-- a row of the reference: so many beats, each cell a throw or none -/
def RowM (jn : Nat) (R : Nat → Int32) (r : Nat) : Prop := ∃ n, n ≤ 24 ∧ R r = nI n ∧ ∀ k, k < 6 * n → ∃ c, c < 40 ∧ c % 4 < jn ∧ R (r + 1 + k) = nI c
def MRows (jn : Nat) (R : Nat → Int32) : Prop := ∀ t lt, t ≤ 60 → lt < 8 → RowM jn R (150 * (8 * t + lt))
/-- the latest row of a letter at or ahead of a time -/
def latI (R : Nat → Int32) (lt : Nat) : Nat → Int32
  | 0 => -1
  | t + 1 => if 0 < R (150 * (8 * (t + 1) + lt)) then nI (150 * (8 * (t + 1) + lt)) else latI R lt t
theorem latI_spec {jn : Nat} {R : Nat → Int32} {lt : Nat} (hR : MRows jn R) (hl : lt < 8) : ∀ t, t ≤ 60 → latI R lt t = -1 ∨ ∃ r n, latI R lt t = nI r ∧ r + 150 ≤ 73200 ∧ 1 ≤ n ∧ n ≤ 24 ∧ R r = nI n ∧ ∀ k, k < 6 * n → ∃ c, c < 40 ∧ c % 4 < jn ∧ R (r + 1 + k) = nI c := by
  intro t
  induction t with
  | zero => intro _; exact Or.inl rfl
  | succ t ih =>
    intro ht
    unfold latI
    by_cases h : 0 < R (150 * (8 * (t + 1) + lt))
    · rw [if_pos h]
      obtain ⟨n, n1, n2, n3⟩ := hR (t + 1) lt ht hl
      refine Or.inr ⟨_, n, rfl, by omega, Nat.pos_of_ne_zero fun q => ?_, n1, n2, n3⟩
      rw [n2, q] at h
      exact absurd h (by decide)
    · rw [if_neg h]
      exact ih (by omega)
def rowI (R : Nat → Int32) (lk : Nat) (x : Int32) : Int32 := if inI x 0 7 = 0 then -1 else latI R x.toNatClampNeg lk
theorem in7 {x : Int32} (h : ¬ inI x 0 7 = 0) : ∃ k, k < 8 ∧ x = nI k := by
  unfold inI at h
  by_cases h1 : x < 0
  · rw [if_pos h1] at h; exact absurd rfl h
  · rw [if_neg h1] at h
    by_cases h2 : 7 < x
    · rw [if_pos h2] at h; exact absurd rfl h
    · obtain ⟨j, hj, e⟩ := nI_of2 (M := 7) (n := 7) (by decide) h1 (Int32.not_lt.mp h2)
      exact ⟨j, by omega, e⟩
theorem rowI_spec {jn : Nat} {R : Nat → Int32} {lk : Nat} (hR : MRows jn R) (hl : lk ≤ 60) (x : Int32) : rowI R lk x = -1 ∨ ∃ r n, rowI R lk x = nI r ∧ r + 150 ≤ 73200 ∧ 1 ≤ n ∧ n ≤ 24 ∧ R r = nI n ∧ ∀ k, k < 6 * n → ∃ c, c < 40 ∧ c % 4 < jn ∧ R (r + 1 + k) = nI c := by
  unfold rowI
  by_cases h : inI x 0 7 = 0
  · rw [if_pos h]; exact Or.inl rfl
  · rw [if_neg h]
    obtain ⟨k, hk, e⟩ := in7 h
    rw [e, nI_clamp (by omega)]
    exact latI_spec hR hk lk hl
set_option maxRecDepth 100000 in
set_option maxHeartbeats 4000000 in
theorem c_rowAtN (l : Launch) (D : va_G) (cI cR cM : ClassId) (sz : Nat) (t lt : Nat) : Met l yX11_rowAt wsX11_rowAt ({ frames := 0, cells := 0, slots := 0, locals := 0 }) (P0 D cI cR cM [.int (nI t), .int (nI lt)] sz []) (QE (some (.int (nI (150 * (8 * t + lt))))) sz) 0 0 (va_A [] sz) := by
  refine go (cc := cX11_rowAt) (maxL := 2) (ret := (some .int)) (by decide) rfl (Nat.le_of_ble_eq_true rfl) ?_
  intro p e s m below meth c ls args Q hQ hsz hx hb hr hml hts hown hlocks hnm hP hK hD hl
  subst hsz
  have hS : va_S (va_A [] s.heap.size) s.heap s.heap [] := va_S.rf
  have hA : ∀ q, s.heap.size ≤ q → va_A [] s.heap.size q := fun q h => Or.inr h
  have hl : lv_has ls 2 [(0, .int (nI t)), (1, .int (nI lt))] := hl
  refine lv_sipush (v := 150) hx hb dX11_rowAt_0 (by decide) ?_
  refine lv_eqi (y := nI 150) (rfl) ?_
  refine lv_bipush (v := 8) hx hb dX11_rowAt_3 (by decide) ?_
  refine lv_eqi (y := nI 8) (rfl) ?_
  refine lv_iload_n hx hb dX11_rowAt_5 rfl (lv_at hl 0 rfl) ?_
  refine lv_imul hx hb dX11_rowAt_6 ?_
  refine lv_eqi (y := nI (8 * t)) (pk_mul 8 t) ?_
  refine lv_iload_n hx hb dX11_rowAt_7 rfl (lv_at hl 1 rfl) ?_
  refine lv_iadd hx hb dX11_rowAt_8 ?_
  refine lv_eqi (y := nI (8 * t + lt)) (nI_add _ _) ?_
  refine lv_imul hx hb dX11_rowAt_9 ?_
  refine lv_eqi (y := nI (150 * (8 * t + lt))) (pk_mul _ _) ?_
  exact ro_iret hx hb hr hlocks hS (rfl) hQ dX11_rowAt_10
set_option maxRecDepth 100000 in
set_option maxHeartbeats 4000000 in
theorem c_latestG (l : Launch) (D : va_G) (cI cR cM : ClassId) (sz : Nat) {jn : Nat} (mm : Nat) (q : Nat → Nat) (v : Nat → Int32) (F : Nat → Nat → Int32) {lt tb : Nat} (hlt : lt < 8) (htb : tb ≤ 60) : Met l yX11_latest wsX11_latest ({ frames := 1, cells := 0, slots := 0, locals := 21 }) (P0 D cI cR cM [.ref mm, .int (nI lt), .int (nI tb)] sz (mW mm q jn cI v F)) (QE (some (.int (latI (F 0) lt tb))) sz) 0 0 (va_A [] sz) := by
  refine go (cc := cX11_latest) (maxL := 4) (ret := (some .int)) (by decide) rfl (Nat.le_of_ble_eq_true rfl) ?_
  intro p e s m below meth c ls args Q hQ hsz hx hb hr hml hts hown hlocks hnm hP hK hD hl
  subst hsz
  have hS : va_S (va_A [] s.heap.size) s.heap s.heap [] := va_S.rf
  have hA : ∀ q, s.heap.size ≤ q → va_A [] s.heap.size q := fun q h => Or.inr h
  have hl : lv_has ls 4 [(0, .ref mm), (1, .int (nI lt)), (2, .int (nI tb))] := hl
  refine lv_iload_n hx hb dX11_latest_0 rfl (lv_at hl 2 rfl) ?_
  refine lv_istore_n (lv' := [(3, .int (nI tb)), (0, .ref mm), (1, .int (nI lt)), (2, .int (nI tb))]) hx hb dX11_latest_1 rfl hl (by decide) rfl (fun ls hl => ?_)
  have loop : ∀ (dd : Nat) (t : Nat) (H : Heap) (locs : List Loc) (ls : Array Slot), t < dd → t ≤ 60 → latI (F 0) lt t = latI (F 0) lt tb → va_P D vwCl (mW mm q jn cI v F) H → va_S (va_A [] s.heap.size) s.heap H locs → lv_has ls 4 [(0, .ref mm), (1, .int (nI lt)), (2, .int (nI tb)), (3, .int (nI t))] → W p l e ({ frames := 1, cells := 0, slots := 0, locals := 21 }) s m args below meth c H locs 0 0 Q (F0 m 2 ls []) := by
    intro dd
    induction dd with
    | zero =>
      intro t H locs ls hdd
      exact absurd hdd (Nat.not_lt_zero _)
    | succ dd ih =>
      intro t H locs ls hdd ht he hP hS hl
      rcases t with _ | t9
      · have he : -1 = latI (F 0) lt tb := he
        refine lv_iload_n hx hb dX11_latest_2 rfl (lv_at hl 3 rfl) ?_
        refine lv_if_le (tgt := 31) hx hb dX11_latest_3 (by decide) (fun c3 => ?_) (fun c3 => absurd (by decide) c3)
        refine lv_iconst (v := (-1)) hx hb dX11_latest_31 (by decide) ?_
        exact ro_iret hx hb hr hlocks hS (he) hQ dX11_latest_32
      · refine lv_iload_n hx hb dX11_latest_2 rfl (lv_at hl 3 rfl) ?_
        refine lv_if_le (tgt := 31) hx hb dX11_latest_3 (by decide) (fun c3 => absurd c3 (nI_nle (by omega) (by omega))) (fun c3 => ?_)
        refine lv_aload_n hx hb dX11_latest_6 rfl (lv_at hl 0 rfl) ?_
        refine va_get (D := D) (ci := 11) (v := .ref (q 0)) (C := RX11) (T := TX11) (N := 47) hx hb hts (by decide +kernel) hown hK.1 hP 0 rfl rfl 1 (by decide) (hts (.fieldLink RX11 8 "JugglingHallModel" "rows" "[I") (by decide +kernel)) (fun _ h9 => h9) rfl dX11_latest_7 ?_
        refine lv_iload_n hx hb dX11_latest_10 rfl (lv_at hl 3 rfl) ?_
        refine lv_iload_n hx hb dX11_latest_11 rfl (lv_at hl 1 rfl) ?_
        refine ro (va_runS (As := [.int (nI (t9 + 1)), .int (nI lt)]) (rest := [.ref (q 0)]) ⟨hx, hb, hml, hown, hts⟩ (c_rowAtN l D cI cR cM _ (t9 + 1) lt) (va_cwS 2 hts gX11_latest_X11_rowAt rfl rfl rfl (by decide +kernel) ⟨Nat.le_of_ble_eq_true rfl, Nat.le_of_ble_eq_true rfl⟩) (pre_S hK va_P_nil (va_D_nil (A := fun _ => True))) rfl rfl hl.1 rfl (lv_room (Nat.le_of_ble_eq_true rfl)) dX11_latest_12 ⟨Nat.le_of_ble_eq_true rfl, Nat.le_of_ble_eq_true rfl⟩) hS hA hP (fun H locs hP hS => ?_)
        refine ald_n (k := 150 * (8 * (t9 + 1) + lt)) hx hb hK.1 hP 1 0 rfl rfl (by omega) (by decide) dX11_latest_15 ?_
        refine lv_if_le (tgt := 25) hx hb dX11_latest_16 (by decide) (fun c16 => ?_) (fun c16 => ?_)
        · refine lv_iinc (v := nI t9) (lv' := [(3, .int (nI t9)), (0, .ref mm), (1, .int (nI lt)), (2, .int (nI tb))]) hx hb dX11_latest_25 hl (k := 3) rfl (pk_m1 t9) (by decide) rfl (fun ls hl => ?_)
          refine lv_goto (tgt := 2) hx hb dX11_latest_28 (by decide) ?_
          exact ih t9 _ _ _ (by omega) (by omega) (by rw [← he]; show _ = if _ then _ else _; rw [if_neg (fun q => absurd c16 (Int32.not_le.mpr q))]) hP hS (lv_sub hl [1, 2, 3, 0] rfl)
        · refine lv_iload_n hx hb dX11_latest_19 rfl (lv_at hl 3 rfl) ?_
          refine lv_iload_n hx hb dX11_latest_20 rfl (lv_at hl 1 rfl) ?_
          refine ro (va_runS (As := [.int (nI (t9 + 1)), .int (nI lt)]) (rest := []) ⟨hx, hb, hml, hown, hts⟩ (c_rowAtN l D cI cR cM _ (t9 + 1) lt) (va_cwS 2 hts gX11_latest_X11_rowAt rfl rfl rfl (by decide +kernel) ⟨Nat.le_of_ble_eq_true rfl, Nat.le_of_ble_eq_true rfl⟩) (pre_S hK va_P_nil (va_D_nil (A := fun _ => True))) rfl rfl hl.1 rfl (lv_room (Nat.le_of_ble_eq_true rfl)) dX11_latest_21 ⟨Nat.le_of_ble_eq_true rfl, Nat.le_of_ble_eq_true rfl⟩) hS hA hP (fun H locs hP hS => ?_)
          exact ro_iret hx hb hr hlocks hS (by rw [← he]; show _ = if _ then _ else _; rw [if_pos (Int32.not_le.mp c16)]) hQ dX11_latest_24
  exact loop (tb + 1) tb _ _ _ (by omega) htb rfl hP hS (lv_sub hl [1, 2, 3, 0] rfl)
set_option maxRecDepth 100000 in
set_option maxHeartbeats 4000000 in
theorem c_rowOfG (l : Launch) (D : va_G) (cI cR cM : ClassId) (sz : Nat) {jn : Nat} (mm : Nat) (q : Nat → Nat) (v : Nat → Int32) (F : Nat → Nat → Int32) {lk : Nat} (hlk : lk ≤ 60) (elk : v 1 = nI lk) (x : Int32) : Met l yX11_rowOf wsX11_rowOf ({ frames := 2, cells := 0, slots := 0, locals := 44 }) (P0 D cI cR cM [.ref mm, .int x] sz (mW mm q jn cI v F)) (QE (some (.int (rowI (F 0) lk x))) sz) 0 0 (va_A [] sz) := by
  refine go (cc := cX11_rowOf) (maxL := 2) (ret := (some .int)) (by decide) rfl (Nat.le_of_ble_eq_true rfl) ?_
  intro p e s m below meth c ls args Q hQ hsz hx hb hr hml hts hown hlocks hnm hP hK hD hl
  subst hsz
  have hS : va_S (va_A [] s.heap.size) s.heap s.heap [] := va_S.rf
  have hA : ∀ q, s.heap.size ≤ q → va_A [] s.heap.size q := fun q h => Or.inr h
  have hl : lv_has ls 2 [(0, .ref mm), (1, .int x)] := hl
  refine lv_iload_n hx hb dX11_rowOf_0 rfl (lv_at hl 1 rfl) ?_
  refine lv_iconst (v := 0) hx hb dX11_rowOf_1 (by decide) ?_
  refine lv_bipush (v := 7) hx hb dX11_rowOf_2 (by decide) ?_
  refine ro (va_runS (As := [.int x, .int 0, .int 7]) (rest := []) ⟨hx, hb, hml, hown, hts⟩ (c_isIn l D cI cR cM _ x 0 7) (va_cwS 3 hts gX11_rowOf_X11_isIn rfl rfl rfl (by decide +kernel) ⟨Nat.le_of_ble_eq_true rfl, Nat.le_of_ble_eq_true rfl⟩) (pre_S hK va_P_nil (va_D_nil (A := fun _ => True))) rfl rfl hl.1 rfl (lv_room (Nat.le_of_ble_eq_true rfl)) dX11_rowOf_4 ⟨Nat.le_of_ble_eq_true rfl, Nat.le_of_ble_eq_true rfl⟩) hS hA hP (fun H locs hP hS => ?_)
  refine lv_if_eq (tgt := 22) hx hb dX11_rowOf_7 (by decide) (fun c7 => ?_) (fun c7 => ?_)
  · refine lv_iconst (v := (-1)) hx hb dX11_rowOf_22 (by decide) ?_
    exact ro_iret hx hb hr hlocks hS (by unfold rowI; rw [if_pos c7]) hQ dX11_rowOf_23
  · obtain ⟨k9, hk9, rfl⟩ := in7 c7
    refine lv_aload_n hx hb dX11_rowOf_10 rfl (lv_at hl 0 rfl) ?_
    refine lv_iload_n hx hb dX11_rowOf_11 rfl (lv_at hl 1 rfl) ?_
    refine lv_aload_n hx hb dX11_rowOf_12 rfl (lv_at hl 0 rfl) ?_
    refine va_get (D := D) (ci := 11) (v := .int (v 1)) (C := RX11) (T := TX11) (N := 47) hx hb hts (by decide +kernel) hown hK.1 hP 0 rfl rfl 4 (by decide) (hts (.fieldLink RX11 104 "JugglingHallModel" "looked" "I") (by decide +kernel)) (fun _ h9 => h9) rfl dX11_rowOf_13 ?_
    refine lv_eqi (y := nI lk) (elk) ?_
    refine ro (va_runV (As := [.int (nI k9), .int (nI lk)]) (rest := []) ⟨hx, hb, hml, hown, hts⟩ (c_latestG l D cI cR cM _ mm q v F hk9 hlk) (cwV 2 hts gX11_rowOf_X11_latest rfl rfl rfl (by decide +kernel) ⟨Nat.le_of_ble_eq_true rfl, Nat.le_of_ble_eq_true rfl⟩) (pre_V hK hP hD 0 11 rfl rfl) rfl rfl hl.1 rfl (lv_room (Nat.le_of_ble_eq_true rfl)) dX11_rowOf_16 ⟨Nat.le_of_ble_eq_true rfl, Nat.le_of_ble_eq_true rfl⟩) hS hA hP (fun H locs hP hS => ?_)
    refine lv_goto (tgt := 23) hx hb dX11_rowOf_19 (by decide) ?_
    exact ro_iret hx hb hr hlocks hS (by unfold rowI; rw [if_neg c7, nI_clamp (by omega)]) hQ dX11_rowOf_23
set_option maxRecDepth 100000 in
set_option maxHeartbeats 4000000 in
theorem c_heightAt (l : Launch) (D : va_G) (cI cR cM : ClassId) (sz : Nat) {jn : Nat} (mm : Nat) (q : Nat → Nat) (v : Nat → Int32) (F : Nat → Nat → Int32) {r b j k : Nat} (hix : r + 1 + 6 * b + 2 * j + k < 73200) : Met l yX11_heightAt wsX11_heightAt ({ frames := 0, cells := 0, slots := 0, locals := 0 }) (P0 D cI cR cM [.ref mm, .int (nI r), .int (nI b), .int (nI j), .int (nI k)] sz (mW mm q jn cI v F)) (QE (some (.int (F 0 (r + 1 + 6 * b + 2 * j + k) / 4))) sz) 0 0 (va_A [] sz) := by
  refine go (cc := cX11_heightAt) (maxL := 5) (ret := (some .int)) (by decide) rfl (Nat.le_of_ble_eq_true rfl) ?_
  intro p e s m below meth c ls args Q hQ hsz hx hb hr hml hts hown hlocks hnm hP hK hD hl
  subst hsz
  have hS : va_S (va_A [] s.heap.size) s.heap s.heap [] := va_S.rf
  have hA : ∀ q, s.heap.size ≤ q → va_A [] s.heap.size q := fun q h => Or.inr h
  have hl : lv_has ls 5 [(0, .ref mm), (1, .int (nI r)), (2, .int (nI b)), (3, .int (nI j)), (4, .int (nI k))] := hl
  refine lv_aload_n hx hb dX11_heightAt_0 rfl (lv_at hl 0 rfl) ?_
  refine va_get (D := D) (ci := 11) (v := .ref (q 0)) (C := RX11) (T := TX11) (N := 47) hx hb hts (by decide +kernel) hown hK.1 hP 0 rfl rfl 1 (by decide) (hts (.fieldLink RX11 8 "JugglingHallModel" "rows" "[I") (by decide +kernel)) (fun _ h9 => h9) rfl dX11_heightAt_1 ?_
  refine lv_iload_n hx hb dX11_heightAt_4 rfl (lv_at hl 1 rfl) ?_
  refine lv_iconst (v := 1) hx hb dX11_heightAt_5 (by decide) ?_
  refine lv_eqi (y := nI 1) (rfl) ?_
  refine lv_iadd hx hb dX11_heightAt_6 ?_
  refine lv_eqi (y := nI (r + 1)) (nI_add _ _) ?_
  refine lv_bipush (v := 6) hx hb dX11_heightAt_7 (by decide) ?_
  refine lv_eqi (y := nI 6) (rfl) ?_
  refine lv_iload_n hx hb dX11_heightAt_9 rfl (lv_at hl 2 rfl) ?_
  refine lv_imul hx hb dX11_heightAt_10 ?_
  refine lv_eqi (y := nI (6 * b)) (pk_mul _ _) ?_
  refine lv_iadd hx hb dX11_heightAt_11 ?_
  refine lv_eqi (y := nI (r + 1 + 6 * b)) (nI_add _ _) ?_
  refine lv_iconst (v := 2) hx hb dX11_heightAt_12 (by decide) ?_
  refine lv_eqi (y := nI 2) (rfl) ?_
  refine lv_iload_n hx hb dX11_heightAt_13 rfl (lv_at hl 3 rfl) ?_
  refine lv_imul hx hb dX11_heightAt_14 ?_
  refine lv_eqi (y := nI (2 * j)) (pk_mul _ _) ?_
  refine lv_iadd hx hb dX11_heightAt_15 ?_
  refine lv_eqi (y := nI (r + 1 + 6 * b + 2 * j)) (nI_add _ _) ?_
  refine lv_iload hx hb dX11_heightAt_16 (lv_at hl 4 rfl) ?_
  refine lv_iadd hx hb dX11_heightAt_18 ?_
  refine lv_eqi (y := nI (r + 1 + 6 * b + 2 * j + k)) (nI_add _ _) ?_
  refine ald_n (k := r + 1 + 6 * b + 2 * j + k) hx hb hK.1 hP 1 0 rfl rfl (hix) (by decide) dX11_heightAt_19 ?_
  refine lv_iconst (v := 4) hx hb dX11_heightAt_20 (by decide) ?_
  refine lv_idiv hx hb dX11_heightAt_21 (by decide) ?_
  exact ro_iret hx hb hr hlocks hS (rfl) hQ dX11_heightAt_22
set_option maxRecDepth 100000 in
set_option maxHeartbeats 4000000 in
theorem c_toAt (l : Launch) (D : va_G) (cI cR cM : ClassId) (sz : Nat) {jn : Nat} (mm : Nat) (q : Nat → Nat) (v : Nat → Int32) (F : Nat → Nat → Int32) {r b j k : Nat} (hix : r + 1 + 6 * b + 2 * j + k < 73200) : Met l yX11_toAt wsX11_toAt ({ frames := 0, cells := 0, slots := 0, locals := 0 }) (P0 D cI cR cM [.ref mm, .int (nI r), .int (nI b), .int (nI j), .int (nI k)] sz (mW mm q jn cI v F)) (QE (some (.int (F 0 (r + 1 + 6 * b + 2 * j + k) - F 0 (r + 1 + 6 * b + 2 * j + k) / 4 * 4))) sz) 0 0 (va_A [] sz) := by
  refine go (cc := cX11_toAt) (maxL := 5) (ret := (some .int)) (by decide) rfl (Nat.le_of_ble_eq_true rfl) ?_
  intro p e s m below meth c ls args Q hQ hsz hx hb hr hml hts hown hlocks hnm hP hK hD hl
  subst hsz
  have hS : va_S (va_A [] s.heap.size) s.heap s.heap [] := va_S.rf
  have hA : ∀ q, s.heap.size ≤ q → va_A [] s.heap.size q := fun q h => Or.inr h
  have hl : lv_has ls 5 [(0, .ref mm), (1, .int (nI r)), (2, .int (nI b)), (3, .int (nI j)), (4, .int (nI k))] := hl
  refine lv_aload_n hx hb dX11_toAt_0 rfl (lv_at hl 0 rfl) ?_
  refine va_get (D := D) (ci := 11) (v := .ref (q 0)) (C := RX11) (T := TX11) (N := 47) hx hb hts (by decide +kernel) hown hK.1 hP 0 rfl rfl 1 (by decide) (hts (.fieldLink RX11 8 "JugglingHallModel" "rows" "[I") (by decide +kernel)) (fun _ h9 => h9) rfl dX11_toAt_1 ?_
  refine lv_iload_n hx hb dX11_toAt_4 rfl (lv_at hl 1 rfl) ?_
  refine lv_iconst (v := 1) hx hb dX11_toAt_5 (by decide) ?_
  refine lv_eqi (y := nI 1) (rfl) ?_
  refine lv_iadd hx hb dX11_toAt_6 ?_
  refine lv_eqi (y := nI (r + 1)) (nI_add _ _) ?_
  refine lv_bipush (v := 6) hx hb dX11_toAt_7 (by decide) ?_
  refine lv_eqi (y := nI 6) (rfl) ?_
  refine lv_iload_n hx hb dX11_toAt_9 rfl (lv_at hl 2 rfl) ?_
  refine lv_imul hx hb dX11_toAt_10 ?_
  refine lv_eqi (y := nI (6 * b)) (pk_mul _ _) ?_
  refine lv_iadd hx hb dX11_toAt_11 ?_
  refine lv_eqi (y := nI (r + 1 + 6 * b)) (nI_add _ _) ?_
  refine lv_iconst (v := 2) hx hb dX11_toAt_12 (by decide) ?_
  refine lv_eqi (y := nI 2) (rfl) ?_
  refine lv_iload_n hx hb dX11_toAt_13 rfl (lv_at hl 3 rfl) ?_
  refine lv_imul hx hb dX11_toAt_14 ?_
  refine lv_eqi (y := nI (2 * j)) (pk_mul _ _) ?_
  refine lv_iadd hx hb dX11_toAt_15 ?_
  refine lv_eqi (y := nI (r + 1 + 6 * b + 2 * j)) (nI_add _ _) ?_
  refine lv_iload hx hb dX11_toAt_16 (lv_at hl 4 rfl) ?_
  refine lv_iadd hx hb dX11_toAt_18 ?_
  refine lv_eqi (y := nI (r + 1 + 6 * b + 2 * j + k)) (nI_add _ _) ?_
  refine ald_n (k := r + 1 + 6 * b + 2 * j + k) hx hb hK.1 hP 1 0 rfl rfl (hix) (by decide) dX11_toAt_19 ?_
  refine lv_iconst (v := 4) hx hb dX11_toAt_20 (by decide) ?_
  refine lv_irem hx hb dX11_toAt_21 (by decide) ?_
  exact ro_iret hx hb hr hlocks hS (rfl) hQ dX11_toAt_22
set_option maxRecDepth 100000 in
set_option maxHeartbeats 4000000 in
theorem c_beatsG (l : Launch) (D : va_G) (cI cR cM : ClassId) (sz : Nat) {jn : Nat} (mm : Nat) (q : Nat → Nat) (v : Nat → Int32) (F : Nat → Nat → Int32) {lk : Nat} (hlk : lk ≤ 60) (elk : v 1 = nI lk) (hR : MRows jn (F 0)) (x : Int32) : Met l yX11_beats wsX11_beats ({ frames := 3, cells := 0, slots := 0, locals := 65 }) (P0 D cI cR cM [.ref mm, .int x] sz (mW mm q jn cI v F)) (QE (some (.int (if rowI (F 0) lk x < 0 then -1 else F 0 (rowI (F 0) lk x).toNatClampNeg))) sz) 0 0 (va_A [] sz) := by
  refine go (cc := cX11_beats) (maxL := 3) (ret := (some .int)) (by decide) rfl (Nat.le_of_ble_eq_true rfl) ?_
  intro p e s m below meth c ls args Q hQ hsz hx hb hr hml hts hown hlocks hnm hP hK hD hl
  subst hsz
  have hS : va_S (va_A [] s.heap.size) s.heap s.heap [] := va_S.rf
  have hA : ∀ q, s.heap.size ≤ q → va_A [] s.heap.size q := fun q h => Or.inr h
  have hl : lv_has ls 3 [(0, .ref mm), (1, .int x)] := hl
  refine lv_aload_n hx hb dX11_beats_0 rfl (lv_at hl 0 rfl) ?_
  refine lv_iload_n hx hb dX11_beats_1 rfl (lv_at hl 1 rfl) ?_
  refine ro (va_runV (As := [.int x]) (rest := []) ⟨hx, hb, hml, hown, hts⟩ (c_rowOfG l D cI cR cM _ mm q v F hlk elk x) (cwV 1 hts gX11_beats_X11_rowOf rfl rfl rfl (by decide +kernel) ⟨Nat.le_of_ble_eq_true rfl, Nat.le_of_ble_eq_true rfl⟩) (pre_V hK hP hD 0 11 rfl rfl) rfl rfl hl.1 rfl (lv_room (Nat.le_of_ble_eq_true rfl)) dX11_beats_2 ⟨Nat.le_of_ble_eq_true rfl, Nat.le_of_ble_eq_true rfl⟩) hS hA hP (fun H locs hP hS => ?_)
  rcases rowI_spec hR hlk x with e0 | ⟨r9, n9, e0, hr9, -, -, -, -⟩
  · refine lv_eqi (y := (-1)) (e0) ?_
    refine lv_istore_n (lv' := [(2, .int (-1)), (0, .ref mm), (1, .int x)]) hx hb dX11_beats_5 rfl hl (by decide) rfl (fun ls hl => ?_)
    refine lv_iload_n hx hb dX11_beats_6 rfl (lv_at hl 0 rfl) ?_
    refine lv_if_ge (tgt := 14) hx hb dX11_beats_7 (by decide) (fun c7 => absurd c7 (by decide)) (fun c7 => ?_)
    refine lv_iconst (v := (-1)) hx hb dX11_beats_10 (by decide) ?_
    refine lv_goto (tgt := 20) hx hb dX11_beats_11 (by decide) ?_
    exact ro_iret hx hb hr hlocks hS (by rw [e0]; rfl) hQ dX11_beats_20
  · refine lv_eqi (y := nI r9) (e0) ?_
    refine lv_istore_n (lv' := [(2, .int (nI r9)), (0, .ref mm), (1, .int x)]) hx hb dX11_beats_5 rfl hl (by decide) rfl (fun ls hl => ?_)
    refine lv_iload_n hx hb dX11_beats_6 rfl (lv_at hl 0 rfl) ?_
    refine lv_if_ge (tgt := 14) hx hb dX11_beats_7 (by decide) (fun c7 => ?_) (fun c7 => absurd (nI_pos' (by omega)) c7)
    refine lv_aload_n hx hb dX11_beats_14 rfl (lv_at hl 1 rfl) ?_
    refine va_get (D := D) (ci := 11) (v := .ref (q 0)) (C := RX11) (T := TX11) (N := 47) hx hb hts (by decide +kernel) hown hK.1 hP 0 rfl rfl 1 (by decide) (hts (.fieldLink RX11 8 "JugglingHallModel" "rows" "[I") (by decide +kernel)) (fun _ h9 => h9) rfl dX11_beats_15 ?_
    refine lv_iload_n hx hb dX11_beats_18 rfl (lv_at hl 0 rfl) ?_
    refine ald_n (k := r9) hx hb hK.1 hP 1 0 rfl rfl (by omega) (by decide) dX11_beats_19 ?_
    exact ro_iret hx hb hr hlocks hS (by rw [e0, if_neg (nI_pos (by omega)), nI_clamp (by omega)]) hQ dX11_beats_20
