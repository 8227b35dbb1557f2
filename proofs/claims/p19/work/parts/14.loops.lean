theorem dX9_countLoops_0 : decode cX9_countLoops 0 = .ok (.iconst 0, 1) := by decide +kernel
theorem dX9_countLoops_1 : decode cX9_countLoops 1 = .ok (.istore_n 3, 1) := by decide +kernel
theorem dX9_countLoops_2 : decode cX9_countLoops 2 = .ok (.iconst 0, 1) := by decide +kernel
theorem dX9_countLoops_3 : decode cX9_countLoops 3 = .ok (.istore 4, 2) := by decide +kernel
theorem dX9_countLoops_5 : decode cX9_countLoops 5 = .ok (.iload 4, 2) := by decide +kernel
theorem dX9_countLoops_7 : decode cX9_countLoops 7 = .ok (.iconst 1, 1) := by decide +kernel
theorem dX9_countLoops_8 : decode cX9_countLoops 8 = .ok (.iload_n 1, 1) := by decide +kernel
theorem dX9_countLoops_9 : decode cX9_countLoops 9 = .ok (.ishl, 1) := by decide +kernel
theorem dX9_countLoops_10 : decode cX9_countLoops 10 = .ok (.if_icmp .ge 34, 3) := by decide +kernel
theorem dX9_countLoops_13 : decode cX9_countLoops 13 = .ok (.iload 4, 2) := by decide +kernel
theorem dX9_countLoops_15 : decode cX9_countLoops 15 = .ok (.invokestatic 37, 3) := by decide +kernel
theorem dX9_countLoops_18 : decode cX9_countLoops 18 = .ok (.iload_n 0, 1) := by decide +kernel
theorem dX9_countLoops_19 : decode cX9_countLoops 19 = .ok (.if_icmp .ne 19, 3) := by decide +kernel
theorem dX9_countLoops_22 : decode cX9_countLoops 22 = .ok (.iload_n 3, 1) := by decide +kernel
theorem dX9_countLoops_23 : decode cX9_countLoops 23 = .ok (.iload 4, 2) := by decide +kernel
theorem dX9_countLoops_25 : decode cX9_countLoops 25 = .ok (.iload 4, 2) := by decide +kernel
theorem dX9_countLoops_27 : decode cX9_countLoops 27 = .ok (.iconst 1, 1) := by decide +kernel
theorem dX9_countLoops_28 : decode cX9_countLoops 28 = .ok (.iload 4, 2) := by decide +kernel
theorem dX9_countLoops_30 : decode cX9_countLoops 30 = .ok (.ishl, 1) := by decide +kernel
theorem dX9_countLoops_31 : decode cX9_countLoops 31 = .ok (.iload_n 1, 1) := by decide +kernel
theorem dX9_countLoops_32 : decode cX9_countLoops 32 = .ok (.iload_n 2, 1) := by decide +kernel
theorem dX9_countLoops_33 : decode cX9_countLoops 33 = .ok (.invokestatic 59, 3) := by decide +kernel
theorem dX9_countLoops_36 : decode cX9_countLoops 36 = .ok (.iadd, 1) := by decide +kernel
theorem dX9_countLoops_37 : decode cX9_countLoops 37 = .ok (.istore_n 3, 1) := by decide +kernel
theorem dX9_countLoops_38 : decode cX9_countLoops 38 = .ok (.iinc 4 1, 3) := by decide +kernel
theorem dX9_countLoops_41 : decode cX9_countLoops 41 = .ok (.goto (-36), 3) := by decide +kernel
theorem dX9_countLoops_44 : decode cX9_countLoops 44 = .ok (.iload_n 3, 1) := by decide +kernel
theorem dX9_countLoops_45 : decode cX9_countLoops 45 = .ok (.ireturn, 1) := by decide +kernel
theorem dX9_loopsOn_0 : decode cX9_loopsOn 0 = .ok (.iconst 0, 1) := by decide +kernel
theorem dX9_loopsOn_1 : decode cX9_loopsOn 1 = .ok (.istore 5, 2) := by decide +kernel
theorem dX9_loopsOn_3 : decode cX9_loopsOn 3 = .ok (.iconst 0, 1) := by decide +kernel
theorem dX9_loopsOn_4 : decode cX9_loopsOn 4 = .ok (.istore 6, 2) := by decide +kernel
theorem dX9_loopsOn_6 : decode cX9_loopsOn 6 = .ok (.iload 6, 2) := by decide +kernel
theorem dX9_loopsOn_8 : decode cX9_loopsOn 8 = .ok (.iload_n 3, 1) := by decide +kernel
theorem dX9_loopsOn_9 : decode cX9_loopsOn 9 = .ok (.if_icmp .gt 75, 3) := by decide +kernel
theorem dX9_loopsOn_12 : decode cX9_loopsOn 12 = .ok (.iload_n 1, 1) := by decide +kernel
theorem dX9_loopsOn_13 : decode cX9_loopsOn 13 = .ok (.iload 6, 2) := by decide +kernel
theorem dX9_loopsOn_15 : decode cX9_loopsOn 15 = .ok (.invokestatic 56, 3) := by decide +kernel
theorem dX9_loopsOn_18 : decode cX9_loopsOn 18 = .ok (.istore 7, 2) := by decide +kernel
theorem dX9_loopsOn_20 : decode cX9_loopsOn 20 = .ok (.iload 7, 2) := by decide +kernel
theorem dX9_loopsOn_22 : decode cX9_loopsOn 22 = .ok (.iload_n 0, 1) := by decide +kernel
theorem dX9_loopsOn_23 : decode cX9_loopsOn 23 = .ok (.if_icmp .ne 12, 3) := by decide +kernel
theorem dX9_loopsOn_26 : decode cX9_loopsOn 26 = .ok (.iload 4, 2) := by decide +kernel
theorem dX9_loopsOn_28 : decode cX9_loopsOn 28 = .ok (.iconst 1, 1) := by decide +kernel
theorem dX9_loopsOn_29 : decode cX9_loopsOn 29 = .ok (.if_icmp .ne 6, 3) := by decide +kernel
theorem dX9_loopsOn_32 : decode cX9_loopsOn 32 = .ok (.iinc 5 1, 3) := by decide +kernel
theorem dX9_loopsOn_35 : decode cX9_loopsOn 35 = .ok (.iload 7, 2) := by decide +kernel
theorem dX9_loopsOn_37 : decode cX9_loopsOn 37 = .ok (.iload_n 0, 1) := by decide +kernel
theorem dX9_loopsOn_38 : decode cX9_loopsOn 38 = .ok (.if_icmp .le 40, 3) := by decide +kernel
theorem dX9_loopsOn_41 : decode cX9_loopsOn 41 = .ok (.iload 4, 2) := by decide +kernel
theorem dX9_loopsOn_43 : decode cX9_loopsOn 43 = .ok (.iconst 1, 1) := by decide +kernel
theorem dX9_loopsOn_44 : decode cX9_loopsOn 44 = .ok (.if_icmp .le 34, 3) := by decide +kernel
theorem dX9_loopsOn_47 : decode cX9_loopsOn 47 = .ok (.iload_n 2, 1) := by decide +kernel
theorem dX9_loopsOn_48 : decode cX9_loopsOn 48 = .ok (.iload 7, 2) := by decide +kernel
theorem dX9_loopsOn_50 : decode cX9_loopsOn 50 = .ok (.ishr, 1) := by decide +kernel
theorem dX9_loopsOn_51 : decode cX9_loopsOn 51 = .ok (.iconst 1, 1) := by decide +kernel
theorem dX9_loopsOn_52 : decode cX9_loopsOn 52 = .ok (.iand, 1) := by decide +kernel
theorem dX9_loopsOn_53 : decode cX9_loopsOn 53 = .ok (.ifCond .ne 25, 3) := by decide +kernel
theorem dX9_loopsOn_56 : decode cX9_loopsOn 56 = .ok (.iload 5, 2) := by decide +kernel
theorem dX9_loopsOn_58 : decode cX9_loopsOn 58 = .ok (.iload_n 0, 1) := by decide +kernel
theorem dX9_loopsOn_59 : decode cX9_loopsOn 59 = .ok (.iload 7, 2) := by decide +kernel
theorem dX9_loopsOn_61 : decode cX9_loopsOn 61 = .ok (.iload_n 2, 1) := by decide +kernel
theorem dX9_loopsOn_62 : decode cX9_loopsOn 62 = .ok (.iconst 1, 1) := by decide +kernel
theorem dX9_loopsOn_63 : decode cX9_loopsOn 63 = .ok (.iload 7, 2) := by decide +kernel
theorem dX9_loopsOn_65 : decode cX9_loopsOn 65 = .ok (.ishl, 1) := by decide +kernel
theorem dX9_loopsOn_66 : decode cX9_loopsOn 66 = .ok (.ior, 1) := by decide +kernel
theorem dX9_loopsOn_67 : decode cX9_loopsOn 67 = .ok (.iload_n 3, 1) := by decide +kernel
theorem dX9_loopsOn_68 : decode cX9_loopsOn 68 = .ok (.iload 4, 2) := by decide +kernel
theorem dX9_loopsOn_70 : decode cX9_loopsOn 70 = .ok (.iconst 1, 1) := by decide +kernel
theorem dX9_loopsOn_71 : decode cX9_loopsOn 71 = .ok (.isub, 1) := by decide +kernel
theorem dX9_loopsOn_72 : decode cX9_loopsOn 72 = .ok (.invokestatic 59, 3) := by decide +kernel
theorem dX9_loopsOn_75 : decode cX9_loopsOn 75 = .ok (.iadd, 1) := by decide +kernel
theorem dX9_loopsOn_76 : decode cX9_loopsOn 76 = .ok (.istore 5, 2) := by decide +kernel
theorem dX9_loopsOn_78 : decode cX9_loopsOn 78 = .ok (.iinc 6 1, 3) := by decide +kernel
theorem dX9_loopsOn_81 : decode cX9_loopsOn 81 = .ok (.goto (-75), 3) := by decide +kernel
theorem dX9_loopsOn_84 : decode cX9_loopsOn 84 = .ok (.iload 5, 2) := by decide +kernel
theorem dX9_loopsOn_86 : decode cX9_loopsOn 86 = .ok (.ireturn, 1) := by decide +kernel
theorem dX10_loops_0 : decode cX10_loops 0 = .ok (.iload_n 1, 1) := by decide +kernel
theorem dX10_loops_1 : decode cX10_loops 1 = .ok (.ifCond .lt 29, 3) := by decide +kernel
theorem dX10_loops_4 : decode cX10_loops 4 = .ok (.iload_n 1, 1) := by decide +kernel
theorem dX10_loops_5 : decode cX10_loops 5 = .ok (.iconst 5, 1) := by decide +kernel
theorem dX10_loops_6 : decode cX10_loops 6 = .ok (.if_icmp .gt 24, 3) := by decide +kernel
theorem dX10_loops_9 : decode cX10_loops 9 = .ok (.iload_n 2, 1) := by decide +kernel
theorem dX10_loops_10 : decode cX10_loops 10 = .ok (.iconst 1, 1) := by decide +kernel
theorem dX10_loops_11 : decode cX10_loops 11 = .ok (.if_icmp .lt 19, 3) := by decide +kernel
theorem dX10_loops_14 : decode cX10_loops 14 = .ok (.iload_n 2, 1) := by decide +kernel
theorem dX10_loops_15 : decode cX10_loops 15 = .ok (.iconst 5, 1) := by decide +kernel
theorem dX10_loops_16 : decode cX10_loops 16 = .ok (.if_icmp .gt 14, 3) := by decide +kernel
theorem dX10_loops_19 : decode cX10_loops 19 = .ok (.iload_n 3, 1) := by decide +kernel
theorem dX10_loops_20 : decode cX10_loops 20 = .ok (.iconst 1, 1) := by decide +kernel
theorem dX10_loops_21 : decode cX10_loops 21 = .ok (.if_icmp .lt 9, 3) := by decide +kernel
theorem dX10_loops_24 : decode cX10_loops 24 = .ok (.iload_n 3, 1) := by decide +kernel
theorem dX10_loops_25 : decode cX10_loops 25 = .ok (.bipush 10, 2) := by decide +kernel
theorem dX10_loops_27 : decode cX10_loops 27 = .ok (.if_icmp .le 5, 3) := by decide +kernel
theorem dX10_loops_30 : decode cX10_loops 30 = .ok (.iconst (-1), 1) := by decide +kernel
theorem dX10_loops_31 : decode cX10_loops 31 = .ok (.ireturn, 1) := by decide +kernel
theorem dX10_loops_32 : decode cX10_loops 32 = .ok (.iload_n 1, 1) := by decide +kernel
theorem dX10_loops_33 : decode cX10_loops 33 = .ok (.iload_n 2, 1) := by decide +kernel
theorem dX10_loops_34 : decode cX10_loops 34 = .ok (.iload_n 3, 1) := by decide +kernel
theorem dX10_loops_35 : decode cX10_loops 35 = .ok (.invokestatic 197, 3) := by decide +kernel
theorem dX10_loops_38 : decode cX10_loops 38 = .ok (.ireturn, 1) := by decide +kernel
set_option maxRecDepth 20000 in
theorem ggX9_countLoops_J6_bitCount_0f7a4 : GoodIn wsX9_countLoops wsJ6_bitCount_0f7a4 := goodIn_r _ [4, 5, 6, 7] (by decide +kernel) (by decide +kernel)
set_option maxRecDepth 20000 in
theorem gX9_countLoops_J6_bitCount_0f7a4 : GoodIn wsX9_countLoops (va_wsS RX9 37 yJ6_bitCount_0f7a4 wsJ6_bitCount_0f7a4) := goodIn_app (goodIn_of _ (by decide +kernel)) ggX9_countLoops_J6_bitCount_0f7a4
set_option maxRecDepth 20000 in
theorem ggX9_countLoops_X9_loopsOn : GoodIn wsX9_countLoops wsX9_loopsOn := goodIn_r _ [11, 12, 13, 10, 14, 8, 9] (by decide +kernel) (by decide +kernel)
set_option maxRecDepth 20000 in
theorem gX9_countLoops_X9_loopsOn : GoodIn wsX9_countLoops (va_wsS RX9 59 yX9_loopsOn wsX9_loopsOn) := goodIn_app (goodIn_of _ (by decide +kernel)) ggX9_countLoops_X9_loopsOn
set_option maxRecDepth 20000 in
theorem ggX9_loopsOn_X9_after : GoodIn wsX9_loopsOn wsX9_after := goodIn_r _ [4] (by decide +kernel) (by decide +kernel)
set_option maxRecDepth 20000 in
theorem gX9_loopsOn_X9_after : GoodIn wsX9_loopsOn (va_wsS RX9 56 yX9_after wsX9_after) := goodIn_app (goodIn_of _ (by decide +kernel)) ggX9_loopsOn_X9_after
set_option maxRecDepth 20000 in
theorem ggX9_loopsOn_X9_loopsOn : GoodIn wsX9_loopsOn wsX9_loopsOn := goodIn_r _ [0, 1, 2, 3, 4, 5, 6] (by decide +kernel) (by decide +kernel)
set_option maxRecDepth 20000 in
theorem gX9_loopsOn_X9_loopsOn : GoodIn wsX9_loopsOn (va_wsS RX9 59 yX9_loopsOn wsX9_loopsOn) := goodIn_app (goodIn_of _ (by decide +kernel)) ggX9_loopsOn_X9_loopsOn
set_option maxRecDepth 20000 in
theorem ggX10_loops_X9_countLoops : GoodIn wsX10_loops wsX9_countLoops := goodIn_r _ [4, 5, 6, 7, 8, 9, 10, 11, 12, 13, 3, 14, 15, 16, 17] (by decide +kernel) (by decide +kernel)
set_option maxRecDepth 20000 in
theorem gX10_loops_X9_countLoops : GoodIn wsX10_loops (va_wsS RX10 197 yX9_countLoops wsX9_countLoops) := goodIn_app (goodIn_of _ (by decide +kernel)) ggX10_loops_X9_countLoops
def bt (x : Int32) (i : Nat) : Bool := x.toBitVec.getLsbD i
theorem b_ext {x y : Int32} (h : ∀ i, i < 32 → bt x i = bt y i) : x = y := Int32.toBitVec_inj.mp (BitVec.eq_of_getLsbD_eq (fun i hi => h i hi))
theorem b_or (x y : Int32) (i : Nat) : bt (x ||| y) i = (bt x i || bt y i) := by unfold bt; rw [Int32.toBitVec_or, BitVec.getLsbD_or]
theorem b_and (x y : Int32) (i : Nat) : bt (x &&& y) i = (bt x i && bt y i) := by unfold bt; rw [Int32.toBitVec_and, BitVec.getLsbD_and]
theorem b_0 (i : Nat) : bt 0 i = false := BitVec.getLsbD_zero
theorem s_l : ∀ n, n < 32 → ((nI n &&& 31).toBitVec.smod 32).toNat = n := by decide +kernel
theorem b_shl (n : Nat) (hn : n < 32) (x : Int32) {i : Nat} (hi : i < 32) : bt (x <<< (nI n &&& 31)) i = (decide (n ≤ i) && bt x (i - n)) := by
  unfold bt
  rw [Int32.toBitVec_shiftLeft]
  show (x.toBitVec <<< ((nI n &&& 31).toBitVec.smod 32).toNat).getLsbD i = _
  rw [s_l n hn, BitVec.getLsbD_shiftLeft]
  rcases Nat.lt_or_ge i n with h | h
  · simp [h, Nat.not_le.mpr h]
  · simp [hi, h, Nat.not_lt.mpr h]
theorem b_sshr (n : Nat) (hn : n < 32) (x : Int32) {i : Nat} (hi : i < 32) : bt (x >>> (nI n &&& 31)) i = if n + i < 32 then bt x (n + i) else bt x 31 := by
  unfold bt
  rw [Int32.toBitVec_shiftRight]
  show (x.toBitVec.sshiftRight ((nI n &&& 31).toBitVec.smod 32).toNat).getLsbD i = _
  rw [s_l n hn, BitVec.getLsbD_sshiftRight, BitVec.msb_eq_getLsbD_last]
  simp [hi]
theorem b_1 : ∀ i, i < 32 → bt 1 i = decide (i = 0) := by decide +kernel
theorem b_and1 (x : Int32) : x &&& 1 = 0 ↔ bt x 0 = false := by
  constructor
  · intro h
    have := b_and x 1 0
    rw [h, b_0, b_1 0 (by decide)] at this
    simpa using this.symm
  · intro h
    refine b_ext fun i hi => ?_
    rw [b_and, b_0, b_1 i hi]
    by_cases q : i = 0
    · subst q; simp [h]
    · simp [q]
/-- the states that were on the way, as bits -/
def VB (v : Int32) (vis : List Nat) : Prop := ∀ t, t < 32 → (bt v t = false ↔ ¬ t ∈ vis)
theorem VB.bit {v : Int32} {vis : List Nat} (h : VB v vis) {t : Nat} (ht : t < 32) : (v >>> (nI t &&& 31)) &&& 1 = 0 ↔ ¬ t ∈ vis := by
  rw [b_and1, b_sshr t ht v (by decide), if_pos (by omega)]
  exact h t ht
theorem VB.cons {v : Int32} {vis : List Nat} (h : VB v vis) {t : Nat} (ht : t < 32) : VB (v ||| ((1 : Int32) <<< (nI t &&& 31))) (t :: vis) := by
  intro u hu
  rw [b_or, b_shl t ht 1 hu]
  have h1 := h u hu
  by_cases q : u = t
  · subst q
    simp [b_1 0 (by decide)]
  · have : (decide (t ≤ u) && bt 1 (u - t)) = false := by
      by_cases z : t ≤ u
      · rw [b_1 (u - t) (by omega)]; simp; omega
      · simp [z]
    rw [this, Bool.or_false, h1]
    simp [q]
theorem VB.one {t : Nat} (ht : t < 32) : VB ((1 : Int32) <<< (nI t &&& 31)) [t] := by
  intro u hu
  rw [b_shl t ht 1 hu]
  by_cases q : u = t
  · subst q
    simp [b_1 0 (by decide)]
  · have : (decide (t ≤ u) && bt 1 (u - t)) = false := by
      by_cases z : t ≤ u
      · rw [b_1 (u - t) (by omega)]; simp; omega
      · simp [z]
    rw [this]
    simp [q]
theorem jx_pow : ∀ hi, hi < 6 → (1 : Int32) <<< (nI hi &&& 31) = nI (2 ^ hi) := by decide +kernel
theorem jx_p32 {hi : Nat} (h : hi < 6) : 2 ^ hi ≤ 32 := Nat.pow_le_pow_right (n := 2) (by decide) (show hi ≤ 5 by omega)
theorem lpc_none {st hi left x h : Nat} {vis : List Nat} (e : stp x h = none) : lpc st hi left x vis h = 0 := by unfold lpc; rw [e]
theorem lpc_0 {st hi x h t : Nat} {vis : List Nat} (e : stp x h = some t) : lpc st hi 0 x vis h = if t = st then 1 else 0 := by unfold lpc; rw [e]; rfl
theorem lpc_s {st hi l x h t : Nat} {vis : List Nat} (e : stp x h = some t) : lpc st hi (l + 1) x vis h = if st < t ∧ ¬ t ∈ vis then lpn st hi (l + 1) t (t :: vis) else 0 := by unfold lpc; rw [e]; rfl
theorem jx_z {a b : Nat} (h : b = 0) : nI a = nI (a + b) := by rw [h]; rfl
theorem jx_o {a b : Nat} (h : b = 1) : nI (a + 1) = nI (a + b) := by rw [h]
theorem jx_m1ne {k : Nat} (h : k < 2 ^ 31) : ¬ (-1 : Int32) = nI k := fun q => nI_m1 h q.symm
theorem jx_m1le {k : Nat} (h : k < 2 ^ 31) : (-1 : Int32) ≤ nI k := Int32.le_trans (show (-1 : Int32) ≤ 0 by decide) (nI_pos' h)
theorem lv_re {ls : Array Slot} {nL i : Nat} {lv : List (Nat × Value)} {x y : Int32} (h : lv_has ls nL lv) (k : Nat) (hk : lv[k]? = some (i, .int x)) (e : x = y) : lv_has ls nL (lv.set k (i, .int y)) := by
  subst e
  have : lv.set k (i, .int x) = lv := by
    apply List.ext_getElem?
    intro j
    rw [List.getElem?_set]
    split
    · rename_i q
      subst q
      split
      · exact hk.symm
      · rename_i q2
        rw [List.getElem?_eq_none (Nat.le_of_not_lt q2)]
    · rfl
  rw [this]
  exact h
set_option maxRecDepth 100000 in
set_option maxHeartbeats 4000000 in
theorem c_loopsOn0 (l : Launch) (D : va_G) (cI cR cM : ClassId) (sz : Nat) {st x hi : Nat} {v : Int32} {vis : List Nat} (hst : st < 32) (hhi : hi < 6) (hx5 : x < 2 ^ hi) (hv : VB v vis) : Met l yX9_loopsOn wsX9_loopsOn ({ frames := 1, cells := 0, slots := 0, locals := 22 }) (P0 D cI cR cM [.int (nI st), .int (nI x), .int v, .int (nI hi), .int 1] sz []) (QE (some (.int (nI (lpn st hi 1 x vis)))) sz) 0 0 (va_A [] sz) := by
  refine go (cc := cX9_loopsOn) (maxL := 8) (ret := (some .int)) (by decide) rfl (Nat.le_of_ble_eq_true rfl) ?_
  intro p e s m below meth c ls args Q hQ hsz hx hb hr hml hts hown hlocks hnm hP hK hD hl
  subst hsz
  have hS : va_S (va_A [] s.heap.size) s.heap s.heap [] := va_S.rf
  have hA : ∀ q, s.heap.size ≤ q → va_A [] s.heap.size q := fun q h => Or.inr h
  have hl : lv_has ls 8 [(0, .int (nI st)), (1, .int (nI x)), (2, .int v), (3, .int (nI hi)), (4, .int 1)] := hl
  have h32 := jx_p32 hhi
  refine lv_iconst (v := 0) hx hb dX9_loopsOn_0 (by decide) ?_
  refine lv_eqi (y := nI (sumH 0 (lpc st hi 0 x vis))) (rfl) ?_
  refine lv_istore (lv' := [(5, .int (nI (sumH 0 (lpc st hi 0 x vis)))), (0, .int (nI st)), (1, .int (nI x)), (2, .int v), (3, .int (nI hi)), (4, .int 1)]) hx hb dX9_loopsOn_1 hl (by decide) rfl (fun ls hl => ?_)
  refine lv_iconst (v := 0) hx hb dX9_loopsOn_3 (by decide) ?_
  refine lv_eqi (y := nI 0) (jx_c0) ?_
  refine lv_istore (lv' := [(6, .int (nI 0)), (5, .int (nI (sumH 0 (lpc st hi 0 x vis)))), (0, .int (nI st)), (1, .int (nI x)), (2, .int v), (3, .int (nI hi)), (4, .int 1)]) hx hb dX9_loopsOn_4 hl (by decide) rfl (fun ls hl => ?_)
  have loop : ∀ (dd : Nat) (h : Nat) (H : Heap) (locs : List Loc) (ls : Array Slot), hi + 1 - h < dd → (h ≤ hi + 1) → va_P D vwCl [] H → va_S (va_A [] s.heap.size) s.heap H locs → lv_has ls 8 [(0, .int (nI st)), (1, .int (nI x)), (2, .int v), (3, .int (nI hi)), (4, .int 1), (5, .int (nI (sumH h (lpc st hi 0 x vis)))), (6, .int (nI h))] → W p l e ({ frames := 1, cells := 0, slots := 0, locals := 22 }) s m args below meth c H locs 0 0 Q (F0 m 6 ls []) := by
    intro dd
    induction dd with
    | zero =>
      intro h H locs ls hdd
      exact absurd hdd (Nat.not_lt_zero _)
    | succ dd ih =>
      intro h H locs ls hdd hh hP hS hl
      refine lv_iload hx hb dX9_loopsOn_6 (lv_at hl 6 rfl) ?_
      refine lv_iload_n hx hb dX9_loopsOn_8 rfl (lv_at hl 3 rfl) ?_
      refine lv_icmp_gt (tgt := 84) hx hb dX9_loopsOn_9 (by decide) (fun c9 => ?_) (fun c9 => ?_)
      · have h10 : h = hi + 1 := by have := (nI_ltI (by omega) (by omega)).mp c9; omega
        subst h10
        refine lv_iload hx hb dX9_loopsOn_84 (lv_at hl 5 rfl) ?_
        exact ro_iret hx hb hr hlocks hS (by rw [lpn_eq]) hQ dX9_loopsOn_86
      · have h10 : h < hi + 1 := Nat.lt_of_not_le fun q => c9 (nI_lt (by omega) (by omega))
        refine lv_iload_n hx hb dX9_loopsOn_12 rfl (lv_at hl 1 rfl) ?_
        refine lv_iload hx hb dX9_loopsOn_13 (lv_at hl 6 rfl) ?_
        refine ro (va_runS (As := [.int (nI x), .int (nI h)]) (rest := []) ⟨hx, hb, hml, hown, hts⟩ (c_after l D cI cR cM _ (Nat.lt_of_lt_of_le hx5 (by omega)) (by omega)) (va_cwS 2 hts gX9_loopsOn_X9_after rfl rfl rfl (by decide +kernel) ⟨Nat.le_of_ble_eq_true rfl, Nat.le_of_ble_eq_true rfl⟩) (pre_S hK va_P_nil (va_D_nil (A := fun _ => True))) rfl rfl hl.1 rfl (lv_room (Nat.le_of_ble_eq_true rfl)) dX9_loopsOn_15 ⟨Nat.le_of_ble_eq_true rfl, Nat.le_of_ble_eq_true rfl⟩) hS hA hP (fun H locs hP hS => ?_)
        rcases est : stp x h with _ | t
        · refine lv_eqi (y := (-1)) (stI_none est) ?_
          refine lv_istore (lv' := [(7, .int (-1)), (0, .int (nI st)), (1, .int (nI x)), (2, .int v), (3, .int (nI hi)), (4, .int 1), (5, .int (nI (sumH h (lpc st hi 0 x vis)))), (6, .int (nI h))]) hx hb dX9_loopsOn_18 hl (by decide) rfl (fun ls hl => ?_)
          refine lv_iload hx hb dX9_loopsOn_20 (lv_at hl 0 rfl) ?_
          refine lv_iload_n hx hb dX9_loopsOn_22 rfl (lv_at hl 1 rfl) ?_
          refine lv_icmp_ne (tgt := 35) hx hb dX9_loopsOn_23 (by decide) (fun c23 => ?_) (fun c23 => absurd c23 (jx_m1ne (k := st) (by omega)))
          refine lv_iload hx hb dX9_loopsOn_35 (lv_at hl 0 rfl) ?_
          refine lv_iload_n hx hb dX9_loopsOn_37 rfl (lv_at hl 1 rfl) ?_
          refine lv_icmp_le (tgt := 78) hx hb dX9_loopsOn_38 (by decide) (fun c38 => ?_) (fun c38 => absurd (jx_m1le (by omega)) c38)
          refine lv_iinc (v := nI (h + 1)) (lv' := [(6, .int (nI (h + 1))), (7, .int (-1)), (0, .int (nI st)), (1, .int (nI x)), (2, .int v), (3, .int (nI hi)), (4, .int 1), (5, .int (nI (sumH h (lpc st hi 0 x vis))))]) hx hb dX9_loopsOn_78 hl (k := 7) rfl (jx_inc) (by decide) rfl (fun ls hl => ?_)
          refine lv_goto (tgt := 6) hx hb dX9_loopsOn_81 (by decide) ?_
          have hl := lv_re (i := 5) (y := nI (sumH (h + 1) (lpc st hi 0 x vis))) hl 7 rfl (jx_z (lpc_none est))
          have hl : lv_has ls 8 [(6, .int (nI (h + 1))), (7, .int (-1)), (0, .int (nI st)), (1, .int (nI x)), (2, .int v), (3, .int (nI hi)), (4, .int 1), (5, .int (nI (sumH (h + 1) (lpc st hi 0 x vis))))] := hl
          exact ih (h + 1) _ _ _ (by omega) (by omega) hP hS (lv_sub hl [2, 3, 4, 5, 6, 7, 0] rfl)
        · have htl := stp_sm hhi hx5 h10 est
          refine lv_eqi (y := nI t) (stI_some est) ?_
          refine lv_istore (lv' := [(7, .int (nI t)), (0, .int (nI st)), (1, .int (nI x)), (2, .int v), (3, .int (nI hi)), (4, .int 1), (5, .int (nI (sumH h (lpc st hi 0 x vis)))), (6, .int (nI h))]) hx hb dX9_loopsOn_18 hl (by decide) rfl (fun ls hl => ?_)
          refine lv_iload hx hb dX9_loopsOn_20 (lv_at hl 0 rfl) ?_
          refine lv_iload_n hx hb dX9_loopsOn_22 rfl (lv_at hl 1 rfl) ?_
          refine lv_icmp_ne (tgt := 35) hx hb dX9_loopsOn_23 (by decide) (fun c23 => ?_) (fun c23 => ?_)
          · refine lv_iload hx hb dX9_loopsOn_35 (lv_at hl 0 rfl) ?_
            refine lv_iload_n hx hb dX9_loopsOn_37 rfl (lv_at hl 1 rfl) ?_
            refine lv_icmp_le (tgt := 78) hx hb dX9_loopsOn_38 (by decide) (fun c38 => ?_) (fun c38 => ?_)
            · refine lv_iinc (v := nI (h + 1)) (lv' := [(6, .int (nI (h + 1))), (7, .int (nI t)), (0, .int (nI st)), (1, .int (nI x)), (2, .int v), (3, .int (nI hi)), (4, .int 1), (5, .int (nI (sumH h (lpc st hi 0 x vis))))]) hx hb dX9_loopsOn_78 hl (k := 7) rfl (jx_inc) (by decide) rfl (fun ls hl => ?_)
              refine lv_goto (tgt := 6) hx hb dX9_loopsOn_81 (by decide) ?_
              have hl := lv_re (i := 5) (y := nI (sumH (h + 1) (lpc st hi 0 x vis))) hl 7 rfl (jx_z (by rw [lpc_0 est, if_neg (fun q => c23 (by rw [q]))]))
              have hl : lv_has ls 8 [(6, .int (nI (h + 1))), (7, .int (nI t)), (0, .int (nI st)), (1, .int (nI x)), (2, .int v), (3, .int (nI hi)), (4, .int 1), (5, .int (nI (sumH (h + 1) (lpc st hi 0 x vis))))] := hl
              exact ih (h + 1) _ _ _ (by omega) (by omega) hP hS (lv_sub hl [2, 3, 4, 5, 6, 7, 0] rfl)
            · refine lv_iload hx hb dX9_loopsOn_41 (lv_at hl 5 rfl) ?_
              refine lv_iconst (v := 1) hx hb dX9_loopsOn_43 (by decide) ?_
              refine lv_icmp_le (tgt := 78) hx hb dX9_loopsOn_44 (by decide) (fun c44 => ?_) (fun c44 => absurd (by decide) c44)
              refine lv_iinc (v := nI (h + 1)) (lv' := [(6, .int (nI (h + 1))), (7, .int (nI t)), (0, .int (nI st)), (1, .int (nI x)), (2, .int v), (3, .int (nI hi)), (4, .int 1), (5, .int (nI (sumH h (lpc st hi 0 x vis))))]) hx hb dX9_loopsOn_78 hl (k := 7) rfl (jx_inc) (by decide) rfl (fun ls hl => ?_)
              refine lv_goto (tgt := 6) hx hb dX9_loopsOn_81 (by decide) ?_
              have hl := lv_re (i := 5) (y := nI (sumH (h + 1) (lpc st hi 0 x vis))) hl 7 rfl (jx_z (by rw [lpc_0 est, if_neg (fun q => c23 (by rw [q]))]))
              have hl : lv_has ls 8 [(6, .int (nI (h + 1))), (7, .int (nI t)), (0, .int (nI st)), (1, .int (nI x)), (2, .int v), (3, .int (nI hi)), (4, .int 1), (5, .int (nI (sumH (h + 1) (lpc st hi 0 x vis))))] := hl
              exact ih (h + 1) _ _ _ (by omega) (by omega) hP hS (lv_sub hl [2, 3, 4, 5, 6, 7, 0] rfl)
          · refine lv_iload hx hb dX9_loopsOn_26 (lv_at hl 5 rfl) ?_
            refine lv_iconst (v := 1) hx hb dX9_loopsOn_28 (by decide) ?_
            refine lv_icmp_ne (tgt := 35) hx hb dX9_loopsOn_29 (by decide) (fun c29 => absurd (by decide) c29) (fun c29 => ?_)
            refine lv_iinc (v := nI (sumH h (lpc st hi 0 x vis) + 1)) (lv' := [(5, .int (nI (sumH h (lpc st hi 0 x vis) + 1))), (7, .int (nI t)), (0, .int (nI st)), (1, .int (nI x)), (2, .int v), (3, .int (nI hi)), (4, .int 1), (6, .int (nI h))]) hx hb dX9_loopsOn_32 hl (k := 6) rfl (jx_inc) (by decide) rfl (fun ls hl => ?_)
            refine lv_iload hx hb dX9_loopsOn_35 (lv_at hl 1 rfl) ?_
            refine lv_iload_n hx hb dX9_loopsOn_37 rfl (lv_at hl 2 rfl) ?_
            refine lv_icmp_le (tgt := 78) hx hb dX9_loopsOn_38 (by decide) (fun c38 => ?_) (fun c38 => ?_)
            · refine lv_iinc (v := nI (h + 1)) (lv' := [(6, .int (nI (h + 1))), (5, .int (nI (sumH h (lpc st hi 0 x vis) + 1))), (7, .int (nI t)), (0, .int (nI st)), (1, .int (nI x)), (2, .int v), (3, .int (nI hi)), (4, .int 1)]) hx hb dX9_loopsOn_78 hl (k := 7) rfl (jx_inc) (by decide) rfl (fun ls hl => ?_)
              refine lv_goto (tgt := 6) hx hb dX9_loopsOn_81 (by decide) ?_
              have hl := lv_re (i := 5) (y := nI (sumH (h + 1) (lpc st hi 0 x vis))) hl 1 rfl (jx_o (by rw [lpc_0 est, if_pos ((nI_eq (by omega) (by omega)).mp c23)]))
              have hl : lv_has ls 8 [(6, .int (nI (h + 1))), (5, .int (nI (sumH (h + 1) (lpc st hi 0 x vis)))), (7, .int (nI t)), (0, .int (nI st)), (1, .int (nI x)), (2, .int v), (3, .int (nI hi)), (4, .int 1)] := hl
              exact ih (h + 1) _ _ _ (by omega) (by omega) hP hS (lv_sub hl [3, 4, 5, 6, 7, 1, 0] rfl)
            · refine lv_iload hx hb dX9_loopsOn_41 (lv_at hl 6 rfl) ?_
              refine lv_iconst (v := 1) hx hb dX9_loopsOn_43 (by decide) ?_
              refine lv_icmp_le (tgt := 78) hx hb dX9_loopsOn_44 (by decide) (fun c44 => ?_) (fun c44 => absurd (by decide) c44)
              refine lv_iinc (v := nI (h + 1)) (lv' := [(6, .int (nI (h + 1))), (5, .int (nI (sumH h (lpc st hi 0 x vis) + 1))), (7, .int (nI t)), (0, .int (nI st)), (1, .int (nI x)), (2, .int v), (3, .int (nI hi)), (4, .int 1)]) hx hb dX9_loopsOn_78 hl (k := 7) rfl (jx_inc) (by decide) rfl (fun ls hl => ?_)
              refine lv_goto (tgt := 6) hx hb dX9_loopsOn_81 (by decide) ?_
              have hl := lv_re (i := 5) (y := nI (sumH (h + 1) (lpc st hi 0 x vis))) hl 1 rfl (jx_o (by rw [lpc_0 est, if_pos ((nI_eq (by omega) (by omega)).mp c23)]))
              have hl : lv_has ls 8 [(6, .int (nI (h + 1))), (5, .int (nI (sumH (h + 1) (lpc st hi 0 x vis)))), (7, .int (nI t)), (0, .int (nI st)), (1, .int (nI x)), (2, .int v), (3, .int (nI hi)), (4, .int 1)] := hl
              exact ih (h + 1) _ _ _ (by omega) (by omega) hP hS (lv_sub hl [3, 4, 5, 6, 7, 1, 0] rfl)
  exact loop (hi + 2) 0 _ _ _ (by omega) (by omega) hP hS (lv_sub hl [2, 3, 4, 5, 6, 1, 0] rfl)
set_option maxRecDepth 100000 in
set_option maxHeartbeats 4000000 in
theorem c_loopsOnS (l : Launch) (D : va_G) (cI cR cM : ClassId) (sz : Nat) {l9 : Nat} (hl9 : l9 < 9) (hrec : ∀ (sz : Nat) {st x hi : Nat} {v : Int32} {vis : List Nat}, st < 32 → hi < 6 → x < 2 ^ hi → VB v vis → Met l yX9_loopsOn wsX9_loopsOn { frames := l9 + 1, cells := 0, slots := 0, locals := 22 + 27 * l9 } (P0 D cI cR cM [.int (nI st), .int (nI x), .int v, .int (nI hi), .int (nI (l9 + 1))] sz []) (QE (some (.int (nI (lpn st hi (l9 + 1) x vis)))) sz) 0 0 (va_A [] sz)) {st x hi : Nat} {v : Int32} {vis : List Nat} (hst : st < 32) (hhi : hi < 6) (hx5 : x < 2 ^ hi) (hv : VB v vis) : Met l yX9_loopsOn wsX9_loopsOn ({ frames := l9 + 2, cells := 0, slots := 0, locals := 22 + 27 * (l9 + 1) }) (P0 D cI cR cM [.int (nI st), .int (nI x), .int v, .int (nI hi), .int (nI (l9 + 2))] sz []) (QE (some (.int (nI (lpn st hi (l9 + 2) x vis)))) sz) 0 0 (va_A [] sz) := by
  refine go (cc := cX9_loopsOn) (maxL := 8) (ret := (some .int)) (by decide) rfl (Nat.le_of_ble_eq_true rfl) ?_
  intro p e s m below meth c ls args Q hQ hsz hx hb hr hml hts hown hlocks hnm hP hK hD hl
  subst hsz
  have hS : va_S (va_A [] s.heap.size) s.heap s.heap [] := va_S.rf
  have hA : ∀ q, s.heap.size ≤ q → va_A [] s.heap.size q := fun q h => Or.inr h
  have hl : lv_has ls 8 [(0, .int (nI st)), (1, .int (nI x)), (2, .int v), (3, .int (nI hi)), (4, .int (nI (l9 + 2)))] := hl
  have h32 := jx_p32 hhi
  refine lv_iconst (v := 0) hx hb dX9_loopsOn_0 (by decide) ?_
  refine lv_eqi (y := nI (sumH 0 (lpc st hi (l9 + 1) x vis))) (rfl) ?_
  refine lv_istore (lv' := [(5, .int (nI (sumH 0 (lpc st hi (l9 + 1) x vis)))), (0, .int (nI st)), (1, .int (nI x)), (2, .int v), (3, .int (nI hi)), (4, .int (nI (l9 + 2)))]) hx hb dX9_loopsOn_1 hl (by decide) rfl (fun ls hl => ?_)
  refine lv_iconst (v := 0) hx hb dX9_loopsOn_3 (by decide) ?_
  refine lv_eqi (y := nI 0) (jx_c0) ?_
  refine lv_istore (lv' := [(6, .int (nI 0)), (5, .int (nI (sumH 0 (lpc st hi (l9 + 1) x vis)))), (0, .int (nI st)), (1, .int (nI x)), (2, .int v), (3, .int (nI hi)), (4, .int (nI (l9 + 2)))]) hx hb dX9_loopsOn_4 hl (by decide) rfl (fun ls hl => ?_)
  have loop : ∀ (dd : Nat) (h : Nat) (H : Heap) (locs : List Loc) (ls : Array Slot), hi + 1 - h < dd → (h ≤ hi + 1) → va_P D vwCl [] H → va_S (va_A [] s.heap.size) s.heap H locs → lv_has ls 8 [(0, .int (nI st)), (1, .int (nI x)), (2, .int v), (3, .int (nI hi)), (4, .int (nI (l9 + 2))), (5, .int (nI (sumH h (lpc st hi (l9 + 1) x vis)))), (6, .int (nI h))] → W p l e ({ frames := l9 + 2, cells := 0, slots := 0, locals := 22 + 27 * (l9 + 1) }) s m args below meth c H locs 0 0 Q (F0 m 6 ls []) := by
    intro dd
    induction dd with
    | zero =>
      intro h H locs ls hdd
      exact absurd hdd (Nat.not_lt_zero _)
    | succ dd ih =>
      intro h H locs ls hdd hh hP hS hl
      refine lv_iload hx hb dX9_loopsOn_6 (lv_at hl 6 rfl) ?_
      refine lv_iload_n hx hb dX9_loopsOn_8 rfl (lv_at hl 3 rfl) ?_
      refine lv_icmp_gt (tgt := 84) hx hb dX9_loopsOn_9 (by decide) (fun c9 => ?_) (fun c9 => ?_)
      · have h10 : h = hi + 1 := by have := (nI_ltI (by omega) (by omega)).mp c9; omega
        subst h10
        refine lv_iload hx hb dX9_loopsOn_84 (lv_at hl 5 rfl) ?_
        exact ro_iret hx hb hr hlocks hS (by rw [lpn_eq]) hQ dX9_loopsOn_86
      · have h10 : h < hi + 1 := Nat.lt_of_not_le fun q => c9 (nI_lt (by omega) (by omega))
        refine lv_iload_n hx hb dX9_loopsOn_12 rfl (lv_at hl 1 rfl) ?_
        refine lv_iload hx hb dX9_loopsOn_13 (lv_at hl 6 rfl) ?_
        refine ro (va_runS (As := [.int (nI x), .int (nI h)]) (rest := []) ⟨hx, hb, hml, hown, hts⟩ (c_after l D cI cR cM _ (Nat.lt_of_lt_of_le hx5 (by omega)) (by omega)) (va_cwS 2 hts gX9_loopsOn_X9_after rfl rfl rfl (by decide +kernel) ⟨Nat.succ_le_succ (Nat.zero_le _), by show 8 + (3 + 11) + 0 ≤ 22 + 27 * (l9 + 1); omega⟩) (pre_S hK va_P_nil (va_D_nil (A := fun _ => True))) rfl rfl hl.1 rfl (lv_room (Nat.le_of_ble_eq_true rfl)) dX9_loopsOn_15 ⟨Nat.le_of_ble_eq_true rfl, Nat.le_of_ble_eq_true rfl⟩) hS hA hP (fun H locs hP hS => ?_)
        rcases est : stp x h with _ | t
        · refine lv_eqi (y := (-1)) (stI_none est) ?_
          refine lv_istore (lv' := [(7, .int (-1)), (0, .int (nI st)), (1, .int (nI x)), (2, .int v), (3, .int (nI hi)), (4, .int (nI (l9 + 2))), (5, .int (nI (sumH h (lpc st hi (l9 + 1) x vis)))), (6, .int (nI h))]) hx hb dX9_loopsOn_18 hl (by decide) rfl (fun ls hl => ?_)
          refine lv_iload hx hb dX9_loopsOn_20 (lv_at hl 0 rfl) ?_
          refine lv_iload_n hx hb dX9_loopsOn_22 rfl (lv_at hl 1 rfl) ?_
          refine lv_icmp_ne (tgt := 35) hx hb dX9_loopsOn_23 (by decide) (fun c23 => ?_) (fun c23 => absurd c23 (jx_m1ne (k := st) (by omega)))
          refine lv_iload hx hb dX9_loopsOn_35 (lv_at hl 0 rfl) ?_
          refine lv_iload_n hx hb dX9_loopsOn_37 rfl (lv_at hl 1 rfl) ?_
          refine lv_icmp_le (tgt := 78) hx hb dX9_loopsOn_38 (by decide) (fun c38 => ?_) (fun c38 => absurd (jx_m1le (by omega)) c38)
          refine lv_iinc (v := nI (h + 1)) (lv' := [(6, .int (nI (h + 1))), (7, .int (-1)), (0, .int (nI st)), (1, .int (nI x)), (2, .int v), (3, .int (nI hi)), (4, .int (nI (l9 + 2))), (5, .int (nI (sumH h (lpc st hi (l9 + 1) x vis))))]) hx hb dX9_loopsOn_78 hl (k := 7) rfl (jx_inc) (by decide) rfl (fun ls hl => ?_)
          refine lv_goto (tgt := 6) hx hb dX9_loopsOn_81 (by decide) ?_
          have hl := lv_re (i := 5) (y := nI (sumH (h + 1) (lpc st hi (l9 + 1) x vis))) hl 7 rfl (jx_z (lpc_none est))
          have hl : lv_has ls 8 [(6, .int (nI (h + 1))), (7, .int (-1)), (0, .int (nI st)), (1, .int (nI x)), (2, .int v), (3, .int (nI hi)), (4, .int (nI (l9 + 2))), (5, .int (nI (sumH (h + 1) (lpc st hi (l9 + 1) x vis))))] := hl
          exact ih (h + 1) _ _ _ (by omega) (by omega) hP hS (lv_sub hl [2, 3, 4, 5, 6, 7, 0] rfl)
        · have htl := stp_sm hhi hx5 h10 est
          refine lv_eqi (y := nI t) (stI_some est) ?_
          refine lv_istore (lv' := [(7, .int (nI t)), (0, .int (nI st)), (1, .int (nI x)), (2, .int v), (3, .int (nI hi)), (4, .int (nI (l9 + 2))), (5, .int (nI (sumH h (lpc st hi (l9 + 1) x vis)))), (6, .int (nI h))]) hx hb dX9_loopsOn_18 hl (by decide) rfl (fun ls hl => ?_)
          refine lv_iload hx hb dX9_loopsOn_20 (lv_at hl 0 rfl) ?_
          refine lv_iload_n hx hb dX9_loopsOn_22 rfl (lv_at hl 1 rfl) ?_
          refine lv_icmp_ne (tgt := 35) hx hb dX9_loopsOn_23 (by decide) (fun c23 => ?_) (fun c23 => ?_)
          · refine lv_iload hx hb dX9_loopsOn_35 (lv_at hl 0 rfl) ?_
            refine lv_iload_n hx hb dX9_loopsOn_37 rfl (lv_at hl 1 rfl) ?_
            refine lv_icmp_le (tgt := 78) hx hb dX9_loopsOn_38 (by decide) (fun c38 => ?_) (fun c38 => ?_)
            · refine lv_iinc (v := nI (h + 1)) (lv' := [(6, .int (nI (h + 1))), (7, .int (nI t)), (0, .int (nI st)), (1, .int (nI x)), (2, .int v), (3, .int (nI hi)), (4, .int (nI (l9 + 2))), (5, .int (nI (sumH h (lpc st hi (l9 + 1) x vis))))]) hx hb dX9_loopsOn_78 hl (k := 7) rfl (jx_inc) (by decide) rfl (fun ls hl => ?_)
              refine lv_goto (tgt := 6) hx hb dX9_loopsOn_81 (by decide) ?_
              have hl := lv_re (i := 5) (y := nI (sumH (h + 1) (lpc st hi (l9 + 1) x vis))) hl 7 rfl (jx_z (by rw [lpc_s est, if_neg (fun q => absurd c38 (nI_ge q.1 (by omega)))]))
              have hl : lv_has ls 8 [(6, .int (nI (h + 1))), (7, .int (nI t)), (0, .int (nI st)), (1, .int (nI x)), (2, .int v), (3, .int (nI hi)), (4, .int (nI (l9 + 2))), (5, .int (nI (sumH (h + 1) (lpc st hi (l9 + 1) x vis))))] := hl
              exact ih (h + 1) _ _ _ (by omega) (by omega) hP hS (lv_sub hl [2, 3, 4, 5, 6, 7, 0] rfl)
            · refine lv_iload hx hb dX9_loopsOn_41 (lv_at hl 5 rfl) ?_
              refine lv_iconst (v := 1) hx hb dX9_loopsOn_43 (by decide) ?_
              refine lv_icmp_le (tgt := 78) hx hb dX9_loopsOn_44 (by decide) (fun c44 => absurd c44 (nI_ge (a := 1) (by omega) (by omega))) (fun c44 => ?_)
              refine lv_iload_n hx hb dX9_loopsOn_47 rfl (lv_at hl 3 rfl) ?_
              refine lv_iload hx hb dX9_loopsOn_48 (lv_at hl 0 rfl) ?_
              refine lv_ishr hx hb dX9_loopsOn_50 ?_
              refine lv_iconst (v := 1) hx hb dX9_loopsOn_51 (by decide) ?_
              refine lv_iand hx hb dX9_loopsOn_52 ?_
              refine lv_if_ne (tgt := 78) hx hb dX9_loopsOn_53 (by decide) (fun c53 => ?_) (fun c53 => ?_)
              · refine lv_iinc (v := nI (h + 1)) (lv' := [(6, .int (nI (h + 1))), (7, .int (nI t)), (0, .int (nI st)), (1, .int (nI x)), (2, .int v), (3, .int (nI hi)), (4, .int (nI (l9 + 2))), (5, .int (nI (sumH h (lpc st hi (l9 + 1) x vis))))]) hx hb dX9_loopsOn_78 hl (k := 7) rfl (jx_inc) (by decide) rfl (fun ls hl => ?_)
                refine lv_goto (tgt := 6) hx hb dX9_loopsOn_81 (by decide) ?_
                have hl := lv_re (i := 5) (y := nI (sumH (h + 1) (lpc st hi (l9 + 1) x vis))) hl 7 rfl (jx_z (by rw [lpc_s est, if_neg (fun q => c53 ((hv.bit (by omega)).mpr q.2))]))
                have hl : lv_has ls 8 [(6, .int (nI (h + 1))), (7, .int (nI t)), (0, .int (nI st)), (1, .int (nI x)), (2, .int v), (3, .int (nI hi)), (4, .int (nI (l9 + 2))), (5, .int (nI (sumH (h + 1) (lpc st hi (l9 + 1) x vis))))] := hl
                exact ih (h + 1) _ _ _ (by omega) (by omega) hP hS (lv_sub hl [2, 3, 4, 5, 6, 7, 0] rfl)
              · refine lv_iload hx hb dX9_loopsOn_56 (lv_at hl 6 rfl) ?_
                refine lv_iload_n hx hb dX9_loopsOn_58 rfl (lv_at hl 1 rfl) ?_
                refine lv_iload hx hb dX9_loopsOn_59 (lv_at hl 0 rfl) ?_
                refine lv_iload_n hx hb dX9_loopsOn_61 rfl (lv_at hl 3 rfl) ?_
                refine lv_iconst (v := 1) hx hb dX9_loopsOn_62 (by decide) ?_
                refine lv_iload hx hb dX9_loopsOn_63 (lv_at hl 0 rfl) ?_
                refine lv_ishl hx hb dX9_loopsOn_65 ?_
                refine lv_ior hx hb dX9_loopsOn_66 ?_
                refine lv_iload_n hx hb dX9_loopsOn_67 rfl (lv_at hl 4 rfl) ?_
                refine lv_iload hx hb dX9_loopsOn_68 (lv_at hl 5 rfl) ?_
                refine lv_iconst (v := 1) hx hb dX9_loopsOn_70 (by decide) ?_
                refine lv_isub hx hb dX9_loopsOn_71 ?_
                refine lv_eqi (y := nI (l9 + 1)) (nI_pred (l9 + 1)) ?_
                refine ro (va_runS (As := [.int (nI st), .int (nI t), .int (v ||| ((1 : Int32) <<< ((nI t : Int32) &&& 31))), .int (nI hi), .int (nI (l9 + 1))]) (rest := [.int (nI (sumH h (lpc st hi (l9 + 1) x vis)))]) ⟨hx, hb, hml, hown, hts⟩ (hrec _ hst hhi htl (hv.cons (by omega))) (va_cwS 5 hts gX9_loopsOn_X9_loopsOn rfl rfl rfl (by decide +kernel) ⟨Nat.le_refl _, by show 8 + (8 + 11) + (22 + 27 * l9) ≤ 22 + 27 * (l9 + 1); omega⟩) (pre_S hK va_P_nil (va_D_nil (A := fun _ => True))) rfl rfl hl.1 rfl (lv_room (Nat.le_of_ble_eq_true rfl)) dX9_loopsOn_72 ⟨Nat.le_of_ble_eq_true rfl, Nat.le_of_ble_eq_true rfl⟩) hS hA hP (fun H locs hP hS => ?_)
                refine lv_iadd hx hb dX9_loopsOn_75 ?_
                refine lv_eqi (y := nI (sumH h (lpc st hi (l9 + 1) x vis) + lpn st hi (l9 + 1) t (t :: vis))) (nI_add _ _) ?_
                refine lv_istore (lv' := [(5, .int (nI (sumH h (lpc st hi (l9 + 1) x vis) + lpn st hi (l9 + 1) t (t :: vis)))), (7, .int (nI t)), (0, .int (nI st)), (1, .int (nI x)), (2, .int v), (3, .int (nI hi)), (4, .int (nI (l9 + 2))), (6, .int (nI h))]) hx hb dX9_loopsOn_76 hl (by decide) rfl (fun ls hl => ?_)
                refine lv_iinc (v := nI (h + 1)) (lv' := [(6, .int (nI (h + 1))), (5, .int (nI (sumH h (lpc st hi (l9 + 1) x vis) + lpn st hi (l9 + 1) t (t :: vis)))), (7, .int (nI t)), (0, .int (nI st)), (1, .int (nI x)), (2, .int v), (3, .int (nI hi)), (4, .int (nI (l9 + 2)))]) hx hb dX9_loopsOn_78 hl (k := 7) rfl (jx_inc) (by decide) rfl (fun ls hl => ?_)
                refine lv_goto (tgt := 6) hx hb dX9_loopsOn_81 (by decide) ?_
                have hl := lv_re (i := 5) (y := nI (sumH (h + 1) (lpc st hi (l9 + 1) x vis))) hl 1 rfl (by show nI (_ + _) = nI (_ + _); rw [show lpc st hi (l9 + 1) x vis h = lpn st hi (l9 + 1) t (t :: vis) from by rw [lpc_s est, if_pos ⟨(nI_ltI (by omega) (by omega)).mp (Int32.not_le.mp c38), (hv.bit (by omega)).mp c53⟩]])
                have hl : lv_has ls 8 [(6, .int (nI (h + 1))), (5, .int (nI (sumH (h + 1) (lpc st hi (l9 + 1) x vis)))), (7, .int (nI t)), (0, .int (nI st)), (1, .int (nI x)), (2, .int v), (3, .int (nI hi)), (4, .int (nI (l9 + 2)))] := hl
                exact ih (h + 1) _ _ _ (by omega) (by omega) hP hS (lv_sub hl [3, 4, 5, 6, 7, 1, 0] rfl)
          · refine lv_iload hx hb dX9_loopsOn_26 (lv_at hl 5 rfl) ?_
            refine lv_iconst (v := 1) hx hb dX9_loopsOn_28 (by decide) ?_
            refine lv_icmp_ne (tgt := 35) hx hb dX9_loopsOn_29 (by decide) (fun c29 => ?_) (fun c29 => absurd c29 (fun q => absurd ((nI_eq (b := 1) (by omega) (by decide)).mp q) (by omega)))
            refine lv_iload hx hb dX9_loopsOn_35 (lv_at hl 0 rfl) ?_
            refine lv_iload_n hx hb dX9_loopsOn_37 rfl (lv_at hl 1 rfl) ?_
            refine lv_icmp_le (tgt := 78) hx hb dX9_loopsOn_38 (by decide) (fun c38 => ?_) (fun c38 => ?_)
            · refine lv_iinc (v := nI (h + 1)) (lv' := [(6, .int (nI (h + 1))), (7, .int (nI t)), (0, .int (nI st)), (1, .int (nI x)), (2, .int v), (3, .int (nI hi)), (4, .int (nI (l9 + 2))), (5, .int (nI (sumH h (lpc st hi (l9 + 1) x vis))))]) hx hb dX9_loopsOn_78 hl (k := 7) rfl (jx_inc) (by decide) rfl (fun ls hl => ?_)
              refine lv_goto (tgt := 6) hx hb dX9_loopsOn_81 (by decide) ?_
              have hl := lv_re (i := 5) (y := nI (sumH (h + 1) (lpc st hi (l9 + 1) x vis))) hl 7 rfl (jx_z (by rw [lpc_s est, if_neg (fun q => absurd c38 (nI_ge q.1 (by omega)))]))
              have hl : lv_has ls 8 [(6, .int (nI (h + 1))), (7, .int (nI t)), (0, .int (nI st)), (1, .int (nI x)), (2, .int v), (3, .int (nI hi)), (4, .int (nI (l9 + 2))), (5, .int (nI (sumH (h + 1) (lpc st hi (l9 + 1) x vis))))] := hl
              exact ih (h + 1) _ _ _ (by omega) (by omega) hP hS (lv_sub hl [2, 3, 4, 5, 6, 7, 0] rfl)
            · refine lv_iload hx hb dX9_loopsOn_41 (lv_at hl 5 rfl) ?_
              refine lv_iconst (v := 1) hx hb dX9_loopsOn_43 (by decide) ?_
              refine lv_icmp_le (tgt := 78) hx hb dX9_loopsOn_44 (by decide) (fun c44 => absurd c44 (nI_ge (a := 1) (by omega) (by omega))) (fun c44 => ?_)
              refine lv_iload_n hx hb dX9_loopsOn_47 rfl (lv_at hl 3 rfl) ?_
              refine lv_iload hx hb dX9_loopsOn_48 (lv_at hl 0 rfl) ?_
              refine lv_ishr hx hb dX9_loopsOn_50 ?_
              refine lv_iconst (v := 1) hx hb dX9_loopsOn_51 (by decide) ?_
              refine lv_iand hx hb dX9_loopsOn_52 ?_
              refine lv_if_ne (tgt := 78) hx hb dX9_loopsOn_53 (by decide) (fun c53 => ?_) (fun c53 => ?_)
              · refine lv_iinc (v := nI (h + 1)) (lv' := [(6, .int (nI (h + 1))), (7, .int (nI t)), (0, .int (nI st)), (1, .int (nI x)), (2, .int v), (3, .int (nI hi)), (4, .int (nI (l9 + 2))), (5, .int (nI (sumH h (lpc st hi (l9 + 1) x vis))))]) hx hb dX9_loopsOn_78 hl (k := 7) rfl (jx_inc) (by decide) rfl (fun ls hl => ?_)
                refine lv_goto (tgt := 6) hx hb dX9_loopsOn_81 (by decide) ?_
                have hl := lv_re (i := 5) (y := nI (sumH (h + 1) (lpc st hi (l9 + 1) x vis))) hl 7 rfl (jx_z (by rw [lpc_s est, if_neg (fun q => c53 ((hv.bit (by omega)).mpr q.2))]))
                have hl : lv_has ls 8 [(6, .int (nI (h + 1))), (7, .int (nI t)), (0, .int (nI st)), (1, .int (nI x)), (2, .int v), (3, .int (nI hi)), (4, .int (nI (l9 + 2))), (5, .int (nI (sumH (h + 1) (lpc st hi (l9 + 1) x vis))))] := hl
                exact ih (h + 1) _ _ _ (by omega) (by omega) hP hS (lv_sub hl [2, 3, 4, 5, 6, 7, 0] rfl)
              · refine lv_iload hx hb dX9_loopsOn_56 (lv_at hl 6 rfl) ?_
                refine lv_iload_n hx hb dX9_loopsOn_58 rfl (lv_at hl 1 rfl) ?_
                refine lv_iload hx hb dX9_loopsOn_59 (lv_at hl 0 rfl) ?_
                refine lv_iload_n hx hb dX9_loopsOn_61 rfl (lv_at hl 3 rfl) ?_
                refine lv_iconst (v := 1) hx hb dX9_loopsOn_62 (by decide) ?_
                refine lv_iload hx hb dX9_loopsOn_63 (lv_at hl 0 rfl) ?_
                refine lv_ishl hx hb dX9_loopsOn_65 ?_
                refine lv_ior hx hb dX9_loopsOn_66 ?_
                refine lv_iload_n hx hb dX9_loopsOn_67 rfl (lv_at hl 4 rfl) ?_
                refine lv_iload hx hb dX9_loopsOn_68 (lv_at hl 5 rfl) ?_
                refine lv_iconst (v := 1) hx hb dX9_loopsOn_70 (by decide) ?_
                refine lv_isub hx hb dX9_loopsOn_71 ?_
                refine lv_eqi (y := nI (l9 + 1)) (nI_pred (l9 + 1)) ?_
                refine ro (va_runS (As := [.int (nI st), .int (nI t), .int (v ||| ((1 : Int32) <<< ((nI t : Int32) &&& 31))), .int (nI hi), .int (nI (l9 + 1))]) (rest := [.int (nI (sumH h (lpc st hi (l9 + 1) x vis)))]) ⟨hx, hb, hml, hown, hts⟩ (hrec _ hst hhi htl (hv.cons (by omega))) (va_cwS 5 hts gX9_loopsOn_X9_loopsOn rfl rfl rfl (by decide +kernel) ⟨Nat.le_refl _, by show 8 + (8 + 11) + (22 + 27 * l9) ≤ 22 + 27 * (l9 + 1); omega⟩) (pre_S hK va_P_nil (va_D_nil (A := fun _ => True))) rfl rfl hl.1 rfl (lv_room (Nat.le_of_ble_eq_true rfl)) dX9_loopsOn_72 ⟨Nat.le_of_ble_eq_true rfl, Nat.le_of_ble_eq_true rfl⟩) hS hA hP (fun H locs hP hS => ?_)
                refine lv_iadd hx hb dX9_loopsOn_75 ?_
                refine lv_eqi (y := nI (sumH h (lpc st hi (l9 + 1) x vis) + lpn st hi (l9 + 1) t (t :: vis))) (nI_add _ _) ?_
                refine lv_istore (lv' := [(5, .int (nI (sumH h (lpc st hi (l9 + 1) x vis) + lpn st hi (l9 + 1) t (t :: vis)))), (7, .int (nI t)), (0, .int (nI st)), (1, .int (nI x)), (2, .int v), (3, .int (nI hi)), (4, .int (nI (l9 + 2))), (6, .int (nI h))]) hx hb dX9_loopsOn_76 hl (by decide) rfl (fun ls hl => ?_)
                refine lv_iinc (v := nI (h + 1)) (lv' := [(6, .int (nI (h + 1))), (5, .int (nI (sumH h (lpc st hi (l9 + 1) x vis) + lpn st hi (l9 + 1) t (t :: vis)))), (7, .int (nI t)), (0, .int (nI st)), (1, .int (nI x)), (2, .int v), (3, .int (nI hi)), (4, .int (nI (l9 + 2)))]) hx hb dX9_loopsOn_78 hl (k := 7) rfl (jx_inc) (by decide) rfl (fun ls hl => ?_)
                refine lv_goto (tgt := 6) hx hb dX9_loopsOn_81 (by decide) ?_
                have hl := lv_re (i := 5) (y := nI (sumH (h + 1) (lpc st hi (l9 + 1) x vis))) hl 1 rfl (by show nI (_ + _) = nI (_ + _); rw [show lpc st hi (l9 + 1) x vis h = lpn st hi (l9 + 1) t (t :: vis) from by rw [lpc_s est, if_pos ⟨(nI_ltI (by omega) (by omega)).mp (Int32.not_le.mp c38), (hv.bit (by omega)).mp c53⟩]])
                have hl : lv_has ls 8 [(6, .int (nI (h + 1))), (5, .int (nI (sumH (h + 1) (lpc st hi (l9 + 1) x vis)))), (7, .int (nI t)), (0, .int (nI st)), (1, .int (nI x)), (2, .int v), (3, .int (nI hi)), (4, .int (nI (l9 + 2)))] := hl
                exact ih (h + 1) _ _ _ (by omega) (by omega) hP hS (lv_sub hl [3, 4, 5, 6, 7, 1, 0] rfl)
  exact loop (hi + 2) 0 _ _ _ (by omega) (by omega) hP hS (lv_sub hl [2, 3, 4, 5, 6, 1, 0] rfl)
/-- Ways.loopsOn: how many loops go on from here -/
theorem c_loopsOn (l : Launch) (D : va_G) (cI cR cM : ClassId) : ∀ (left : Nat), left < 10 → ∀ (sz : Nat) {st x hi : Nat} {v : Int32} {vis : List Nat}, st < 32 → hi < 6 → x < 2 ^ hi → VB v vis → Met l yX9_loopsOn wsX9_loopsOn { frames := left + 1, cells := 0, slots := 0, locals := 22 + 27 * left } (P0 D cI cR cM [.int (nI st), .int (nI x), .int v, .int (nI hi), .int (nI (left + 1))] sz []) (QE (some (.int (nI (lpn st hi (left + 1) x vis)))) sz) 0 0 (va_A [] sz) := by
  intro left
  induction left with
  | zero => intro _ sz st x hi v vis h1 h2 h3 h4; exact c_loopsOn0 l D cI cR cM sz h1 h2 h3 h4
  | succ l9 ih => intro hl sz st x hi v vis h1 h2 h3 h4; exact c_loopsOnS l D cI cR cM sz (by omega) (ih (by omega)) h1 h2 h3 h4
theorem bcF_le (k n : Nat) : bcF k n ≤ k := by
  induction k generalizing n with
  | zero => exact Nat.le_refl 0
  | succ k ih => have := ih (n / 2); show n % 2 + bcF k (n / 2) ≤ k + 1; omega
theorem bc_lt (n : Nat) : bc n < 100 := Nat.lt_of_le_of_lt (bcF_le 9 n) (by decide)
set_option maxRecDepth 100000 in
set_option maxHeartbeats 4000000 in
theorem c_countLoops (l : Launch) (D : va_G) (cI cR cM : ClassId) (sz : Nat) {bits hi lf : Nat} (hb9 : bits < 6) (hhi : hi < 6) (hlf : lf < 10) : Met l yX9_countLoops wsX9_countLoops ({ frames := 11, cells := 0, slots := 0, locals := 292 }) (P0 D cI cR cM [.int (nI bits), .int (nI hi), .int (nI (lf + 1))] sz []) (QE (some (.int (nI (lpAll bits hi (lf + 1))))) sz) 0 0 (va_A [] sz) := by
  refine go (cc := cX9_countLoops) (maxL := 5) (ret := (some .int)) (by decide) rfl (Nat.le_of_ble_eq_true rfl) ?_
  intro p e s m below meth c ls args Q hQ hsz hx hb hr hml hts hown hlocks hnm hP hK hD hl
  subst hsz
  have hS : va_S (va_A [] s.heap.size) s.heap s.heap [] := va_S.rf
  have hA : ∀ q, s.heap.size ≤ q → va_A [] s.heap.size q := fun q h => Or.inr h
  have hl : lv_has ls 5 [(0, .int (nI bits)), (1, .int (nI hi)), (2, .int (nI (lf + 1)))] := hl
  have h32 := jx_p32 hhi
  refine lv_iconst (v := 0) hx hb dX9_countLoops_0 (by decide) ?_
  refine lv_eqi (y := nI (sumH 0 (fun s => if bc s = bits then lpn s hi (lf + 1) s [s] else 0))) (rfl) ?_
  refine lv_istore_n (lv' := [(3, .int (nI (sumH 0 (fun s => if bc s = bits then lpn s hi (lf + 1) s [s] else 0)))), (0, .int (nI bits)), (1, .int (nI hi)), (2, .int (nI (lf + 1)))]) hx hb dX9_countLoops_1 rfl hl (by decide) rfl (fun ls hl => ?_)
  refine lv_iconst (v := 0) hx hb dX9_countLoops_2 (by decide) ?_
  refine lv_eqi (y := nI 0) (jx_c0) ?_
  refine lv_istore (lv' := [(4, .int (nI 0)), (3, .int (nI (sumH 0 (fun s => if bc s = bits then lpn s hi (lf + 1) s [s] else 0)))), (0, .int (nI bits)), (1, .int (nI hi)), (2, .int (nI (lf + 1)))]) hx hb dX9_countLoops_3 hl (by decide) rfl (fun ls hl => ?_)
  have loop : ∀ (dd : Nat) (k : Nat) (H : Heap) (locs : List Loc) (ls : Array Slot), 2 ^ hi - k < dd → (k ≤ 2 ^ hi) → va_P D vwCl [] H → va_S (va_A [] s.heap.size) s.heap H locs → lv_has ls 5 [(0, .int (nI bits)), (1, .int (nI hi)), (2, .int (nI (lf + 1))), (3, .int (nI (sumH k (fun s => if bc s = bits then lpn s hi (lf + 1) s [s] else 0)))), (4, .int (nI k))] → W p l e ({ frames := 11, cells := 0, slots := 0, locals := 292 }) s m args below meth c H locs 0 0 Q (F0 m 5 ls []) := by
    intro dd
    induction dd with
    | zero =>
      intro k H locs ls hdd
      exact absurd hdd (Nat.not_lt_zero _)
    | succ dd ih =>
      intro k H locs ls hdd hk hP hS hl
      refine lv_iload hx hb dX9_countLoops_5 (lv_at hl 4 rfl) ?_
      refine lv_iconst (v := 1) hx hb dX9_countLoops_7 (by decide) ?_
      refine lv_iload_n hx hb dX9_countLoops_8 rfl (lv_at hl 1 rfl) ?_
      refine lv_ishl hx hb dX9_countLoops_9 ?_
      refine lv_eqi (y := nI (2 ^ hi)) (jx_pow hi hhi) ?_
      refine lv_icmp_ge (tgt := 44) hx hb dX9_countLoops_10 (by decide) (fun c10 => ?_) (fun c10 => ?_)
      · have hk9 : k = 2 ^ hi := by have := (nI_leI (by omega) (by omega)).mp c10; omega
        subst hk9
        refine lv_iload_n hx hb dX9_countLoops_44 rfl (lv_at hl 3 rfl) ?_
        exact ro_iret hx hb hr hlocks hS (rfl) hQ dX9_countLoops_45
      · have hk9 : k < 2 ^ hi := Nat.lt_of_not_le fun q => c10 (nI_le q (by omega))
        refine lv_iload hx hb dX9_countLoops_13 (lv_at hl 4 rfl) ?_
        refine ro (va_runS (As := [.int (nI k)]) (rest := []) ⟨hx, hb, hml, hown, hts⟩ (c_bitCount l D cI cR cM _ (by omega)) (va_cwS 1 hts gX9_countLoops_J6_bitCount_0f7a4 rfl rfl rfl (by decide +kernel) ⟨Nat.le_of_ble_eq_true rfl, Nat.le_of_ble_eq_true rfl⟩) (pre_S hK va_P_nil (va_D_nil (A := fun _ => True))) rfl rfl hl.1 rfl (lv_room (Nat.le_of_ble_eq_true rfl)) dX9_countLoops_15 ⟨Nat.le_of_ble_eq_true rfl, Nat.le_of_ble_eq_true rfl⟩) hS hA hP (fun H locs hP hS => ?_)
        refine lv_iload_n hx hb dX9_countLoops_18 rfl (lv_at hl 0 rfl) ?_
        refine lv_icmp_ne (tgt := 38) hx hb dX9_countLoops_19 (by decide) (fun c19 => ?_) (fun c19 => ?_)
        · have hbc : ¬ bc k = bits := fun q => c19 (by rw [q])
          refine lv_iinc (v := nI (k + 1)) (lv' := [(4, .int (nI (k + 1))), (0, .int (nI bits)), (1, .int (nI hi)), (2, .int (nI (lf + 1))), (3, .int (nI (sumH k (fun s => if bc s = bits then lpn s hi (lf + 1) s [s] else 0))))]) hx hb dX9_countLoops_38 hl (k := 4) rfl (jx_inc) (by decide) rfl (fun ls hl => ?_)
          refine lv_goto (tgt := 5) hx hb dX9_countLoops_41 (by decide) ?_
          have hl := lv_re (i := 3) (y := nI (sumH (k + 1) (fun s => if bc s = bits then lpn s hi (lf + 1) s [s] else 0))) hl 4 rfl (jx_z (if_neg (show ¬ bc k = bits from hbc)))
          have hl : lv_has ls 5 [(4, .int (nI (k + 1))), (0, .int (nI bits)), (1, .int (nI hi)), (2, .int (nI (lf + 1))), (3, .int (nI (sumH (k + 1) (fun s => if bc s = bits then lpn s hi (lf + 1) s [s] else 0))))] := hl
          exact ih (k + 1) _ _ _ (by omega) (by omega) hP hS (lv_sub hl [1, 2, 3, 4, 0] rfl)
        · have hbk : bc k < 100 := bc_lt k
          have hbc : bc k = bits := (nI_eq (by omega) (by omega)).mp c19
          refine lv_iload_n hx hb dX9_countLoops_22 rfl (lv_at hl 3 rfl) ?_
          refine lv_iload hx hb dX9_countLoops_23 (lv_at hl 4 rfl) ?_
          refine lv_iload hx hb dX9_countLoops_25 (lv_at hl 4 rfl) ?_
          refine lv_iconst (v := 1) hx hb dX9_countLoops_27 (by decide) ?_
          refine lv_iload hx hb dX9_countLoops_28 (lv_at hl 4 rfl) ?_
          refine lv_ishl hx hb dX9_countLoops_30 ?_
          refine lv_iload_n hx hb dX9_countLoops_31 rfl (lv_at hl 1 rfl) ?_
          refine lv_iload_n hx hb dX9_countLoops_32 rfl (lv_at hl 2 rfl) ?_
          refine ro (va_runS (As := [.int (nI k), .int (nI k), .int ((1 : Int32) <<< ((nI k : Int32) &&& 31)), .int (nI hi), .int (nI (lf + 1))]) (rest := [.int (nI (sumH k (fun s => if bc s = bits then lpn s hi (lf + 1) s [s] else 0)))]) ⟨hx, hb, hml, hown, hts⟩ (c_loopsOn l D cI cR cM lf hlf _ (by omega) hhi hk9 (VB.one (by omega))) (va_cwS 5 hts gX9_countLoops_X9_loopsOn rfl rfl rfl (by decide +kernel) ⟨by show lf + 1 + 1 ≤ 11; omega, by show 8 + (8 + 11) + (22 + 27 * lf) ≤ 292; omega⟩) (pre_S hK va_P_nil (va_D_nil (A := fun _ => True))) rfl rfl hl.1 rfl (lv_room (Nat.le_of_ble_eq_true rfl)) dX9_countLoops_33 ⟨Nat.le_of_ble_eq_true rfl, Nat.le_of_ble_eq_true rfl⟩) hS hA hP (fun H locs hP hS => ?_)
          refine lv_iadd hx hb dX9_countLoops_36 ?_
          refine lv_eqi (y := nI (sumH k (fun s => if bc s = bits then lpn s hi (lf + 1) s [s] else 0) + lpn k hi (lf + 1) k [k])) (nI_add _ _) ?_
          refine lv_istore_n (lv' := [(3, .int (nI (sumH k (fun s => if bc s = bits then lpn s hi (lf + 1) s [s] else 0) + lpn k hi (lf + 1) k [k]))), (0, .int (nI bits)), (1, .int (nI hi)), (2, .int (nI (lf + 1))), (4, .int (nI k))]) hx hb dX9_countLoops_37 rfl hl (by decide) rfl (fun ls hl => ?_)
          refine lv_iinc (v := nI (k + 1)) (lv' := [(4, .int (nI (k + 1))), (3, .int (nI (sumH k (fun s => if bc s = bits then lpn s hi (lf + 1) s [s] else 0) + lpn k hi (lf + 1) k [k]))), (0, .int (nI bits)), (1, .int (nI hi)), (2, .int (nI (lf + 1)))]) hx hb dX9_countLoops_38 hl (k := 4) rfl (jx_inc) (by decide) rfl (fun ls hl => ?_)
          refine lv_goto (tgt := 5) hx hb dX9_countLoops_41 (by decide) ?_
          have hl := lv_re (i := 3) (y := nI (sumH (k + 1) (fun s => if bc s = bits then lpn s hi (lf + 1) s [s] else 0))) hl 1 rfl (by show nI (_ + _) = nI (_ + (if bc k = bits then lpn k hi (lf + 1) k [k] else 0)); rw [if_pos hbc])
          have hl : lv_has ls 5 [(4, .int (nI (k + 1))), (3, .int (nI (sumH (k + 1) (fun s => if bc s = bits then lpn s hi (lf + 1) s [s] else 0)))), (0, .int (nI bits)), (1, .int (nI hi)), (2, .int (nI (lf + 1)))] := hl
          exact ih (k + 1) _ _ _ (by omega) (by omega) hP hS (lv_sub hl [2, 3, 4, 1, 0] rfl)
  exact loop (2 ^ hi + 1) 0 _ _ _ (Nat.lt_succ_of_le (Nat.sub_le _ _)) (Nat.zero_le _) hP hS (lv_sub hl [2, 3, 4, 1, 0] rfl)
def LIn (b h s : Int32) : Prop := ∃ bits hi lf : Nat, bits < 6 ∧ 1 ≤ hi ∧ hi < 6 ∧ lf < 10 ∧ b = nI bits ∧ h = nI hi ∧ s = nI (lf + 1)
theorem jx_rng {x : Int32} {lo hi : Nat} (hh : hi < 2 ^ 30) (h1 : ¬ x < nI lo) (h2 : ¬ nI hi < x) (hlo : lo < 2 ^ 30) : ∃ j, lo ≤ j ∧ j ≤ hi ∧ x = nI j := by
  have h0 : ¬ x < 0 := fun q => h1 (Int32.lt_of_lt_of_le q (nI_pos' (by omega)))
  obtain ⟨j, hj, e⟩ := nI_of h0
  subst e
  exact ⟨j, Nat.le_of_not_lt fun q => h1 (nI_lt q (by omega)), Nat.le_of_not_lt fun q => h2 (nI_lt q hj), rfl⟩
set_option maxRecDepth 100000 in
set_option maxHeartbeats 4000000 in
theorem c_loops_in (l : Launch) (D : va_G) (cI cR cM : ClassId) (sz : Nat) {bits hi lf : Nat} (hb9 : bits < 6) (hh1 : 1 ≤ hi) (hhi : hi < 6) (hlf : lf < 10) (hh0 : Nat) (x0 x1 x2 x3 x4 x5 x6 x7 : Value) : Met l yX10_loops wsX10_loops ({ frames := 12, cells := 0, slots := 0, locals := 316 }) (P0 D cI cR cM [.ref hh0, .int (nI bits), .int (nI hi), .int (nI (lf + 1))] sz [(hh0, .inr (10, [x0, x1, x2, x3, x4, x5, x6, x7]))]) (QE (some (.int (nI (lpAll bits hi (lf + 1))))) sz) 0 0 (va_A [] sz) := by
  refine go (cc := cX10_loops) (maxL := 4) (ret := (some .int)) (by decide) rfl (Nat.le_of_ble_eq_true rfl) ?_
  intro p e s m below meth c ls args Q hQ hsz hx hb hr hml hts hown hlocks hnm hP hK hD hl
  subst hsz
  have hS : va_S (va_A [] s.heap.size) s.heap s.heap [] := va_S.rf
  have hA : ∀ q, s.heap.size ≤ q → va_A [] s.heap.size q := fun q h => Or.inr h
  have hl : lv_has ls 4 [(0, .ref hh0), (1, .int (nI bits)), (2, .int (nI hi)), (3, .int (nI (lf + 1)))] := hl
  refine lv_iload_n hx hb dX10_loops_0 rfl (lv_at hl 1 rfl) ?_
  refine lv_if_lt (tgt := 30) hx hb dX10_loops_1 (by decide) (fun c1 => absurd c1 (nI_pos (by omega))) (fun c1 => ?_)
  refine lv_iload_n hx hb dX10_loops_4 rfl (lv_at hl 1 rfl) ?_
  refine lv_iconst (v := 5) hx hb dX10_loops_5 (by decide) ?_
  refine lv_icmp_gt (tgt := 30) hx hb dX10_loops_6 (by decide) (fun c6 => absurd c6 (nI_nlt (a := 5) (by omega) (by decide))) (fun c6 => ?_)
  refine lv_iload_n hx hb dX10_loops_9 rfl (lv_at hl 2 rfl) ?_
  refine lv_iconst (v := 1) hx hb dX10_loops_10 (by decide) ?_
  refine lv_icmp_lt (tgt := 30) hx hb dX10_loops_11 (by decide) (fun c11 => absurd c11 (nI_nlt (b := 1) (by omega) (by omega))) (fun c11 => ?_)
  refine lv_iload_n hx hb dX10_loops_14 rfl (lv_at hl 2 rfl) ?_
  refine lv_iconst (v := 5) hx hb dX10_loops_15 (by decide) ?_
  refine lv_icmp_gt (tgt := 30) hx hb dX10_loops_16 (by decide) (fun c16 => absurd c16 (nI_nlt (a := 5) (by omega) (by decide))) (fun c16 => ?_)
  refine lv_iload_n hx hb dX10_loops_19 rfl (lv_at hl 3 rfl) ?_
  refine lv_iconst (v := 1) hx hb dX10_loops_20 (by decide) ?_
  refine lv_icmp_lt (tgt := 30) hx hb dX10_loops_21 (by decide) (fun c21 => absurd c21 (nI_nlt (b := 1) (by omega) (by omega))) (fun c21 => ?_)
  refine lv_iload_n hx hb dX10_loops_24 rfl (lv_at hl 3 rfl) ?_
  refine lv_bipush (v := 10) hx hb dX10_loops_25 (by decide) ?_
  refine lv_icmp_le (tgt := 32) hx hb dX10_loops_27 (by decide) (fun c27 => ?_) (fun c27 => absurd (nI_le (b := 10) (by omega) (by decide)) c27)
  refine lv_iload_n hx hb dX10_loops_32 rfl (lv_at hl 1 rfl) ?_
  refine lv_iload_n hx hb dX10_loops_33 rfl (lv_at hl 2 rfl) ?_
  refine lv_iload_n hx hb dX10_loops_34 rfl (lv_at hl 3 rfl) ?_
  refine ro (va_runS (As := [.int (nI bits), .int (nI hi), .int (nI (lf + 1))]) (rest := []) ⟨hx, hb, hml, hown, hts⟩ (c_countLoops l D cI cR cM _ hb9 hhi hlf) (va_cwS 3 hts gX10_loops_X9_countLoops rfl rfl rfl (by decide +kernel) ⟨Nat.le_of_ble_eq_true rfl, Nat.le_of_ble_eq_true rfl⟩) (pre_S hK va_P_nil (va_D_nil (A := fun _ => True))) rfl rfl hl.1 rfl (lv_room (Nat.le_of_ble_eq_true rfl)) dX10_loops_35 ⟨Nat.le_of_ble_eq_true rfl, Nat.le_of_ble_eq_true rfl⟩) hS hA hP (fun H locs hP hS => ?_)
  exact ro_iret hx hb hr hlocks hS (rfl) hQ dX10_loops_38
set_option maxRecDepth 100000 in
set_option maxHeartbeats 4000000 in
theorem c_loops_out (l : Launch) (D : va_G) (cI cR cM : ClassId) (sz : Nat) {b h sx : Int32} (hout : ¬ LIn b h sx) (hh0 : Nat) (x0 x1 x2 x3 x4 x5 x6 x7 : Value) : Met l yX10_loops wsX10_loops ({ frames := 12, cells := 0, slots := 0, locals := 316 }) (P0 D cI cR cM [.ref hh0, .int b, .int h, .int sx] sz [(hh0, .inr (10, [x0, x1, x2, x3, x4, x5, x6, x7]))]) (QE (some (.int (-1))) sz) 0 0 (va_A [] sz) := by
  refine go (cc := cX10_loops) (maxL := 4) (ret := (some .int)) (by decide) rfl (Nat.le_of_ble_eq_true rfl) ?_
  intro p e s m below meth c ls args Q hQ hsz hx hb hr hml hts hown hlocks hnm hP hK hD hl
  subst hsz
  have hS : va_S (va_A [] s.heap.size) s.heap s.heap [] := va_S.rf
  have hA : ∀ q, s.heap.size ≤ q → va_A [] s.heap.size q := fun q h => Or.inr h
  have hl : lv_has ls 4 [(0, .ref hh0), (1, .int b), (2, .int h), (3, .int sx)] := hl
  refine lv_iload_n hx hb dX10_loops_0 rfl (lv_at hl 1 rfl) ?_
  refine lv_if_lt (tgt := 30) hx hb dX10_loops_1 (by decide) (fun c1 => ?_) (fun c1 => ?_)
  · refine lv_iconst (v := (-1)) hx hb dX10_loops_30 (by decide) ?_
    exact ro_iret hx hb hr hlocks hS (rfl) hQ dX10_loops_31
  · refine lv_iload_n hx hb dX10_loops_4 rfl (lv_at hl 1 rfl) ?_
    refine lv_iconst (v := 5) hx hb dX10_loops_5 (by decide) ?_
    refine lv_icmp_gt (tgt := 30) hx hb dX10_loops_6 (by decide) (fun c6 => ?_) (fun c6 => ?_)
    · refine lv_iconst (v := (-1)) hx hb dX10_loops_30 (by decide) ?_
      exact ro_iret hx hb hr hlocks hS (rfl) hQ dX10_loops_31
    · refine lv_iload_n hx hb dX10_loops_9 rfl (lv_at hl 2 rfl) ?_
      refine lv_iconst (v := 1) hx hb dX10_loops_10 (by decide) ?_
      refine lv_icmp_lt (tgt := 30) hx hb dX10_loops_11 (by decide) (fun c11 => ?_) (fun c11 => ?_)
      · refine lv_iconst (v := (-1)) hx hb dX10_loops_30 (by decide) ?_
        exact ro_iret hx hb hr hlocks hS (rfl) hQ dX10_loops_31
      · refine lv_iload_n hx hb dX10_loops_14 rfl (lv_at hl 2 rfl) ?_
        refine lv_iconst (v := 5) hx hb dX10_loops_15 (by decide) ?_
        refine lv_icmp_gt (tgt := 30) hx hb dX10_loops_16 (by decide) (fun c16 => ?_) (fun c16 => ?_)
        · refine lv_iconst (v := (-1)) hx hb dX10_loops_30 (by decide) ?_
          exact ro_iret hx hb hr hlocks hS (rfl) hQ dX10_loops_31
        · refine lv_iload_n hx hb dX10_loops_19 rfl (lv_at hl 3 rfl) ?_
          refine lv_iconst (v := 1) hx hb dX10_loops_20 (by decide) ?_
          refine lv_icmp_lt (tgt := 30) hx hb dX10_loops_21 (by decide) (fun c21 => ?_) (fun c21 => ?_)
          · refine lv_iconst (v := (-1)) hx hb dX10_loops_30 (by decide) ?_
            exact ro_iret hx hb hr hlocks hS (rfl) hQ dX10_loops_31
          · refine lv_iload_n hx hb dX10_loops_24 rfl (lv_at hl 3 rfl) ?_
            refine lv_bipush (v := 10) hx hb dX10_loops_25 (by decide) ?_
            refine lv_icmp_le (tgt := 32) hx hb dX10_loops_27 (by decide) (fun c27 => ?_) (fun c27 => ?_)
            · exact absurd (by
                  obtain ⟨b9, -, b1, b2⟩ := jx_rng (lo := 0) (hi := 5) (by decide) c1 c6 (by decide)
                  obtain ⟨h9, h1, h2, h3⟩ := jx_rng (lo := 1) (hi := 5) (by decide) c11 c16 (by decide)
                  obtain ⟨s9, s1, s2, s3⟩ := jx_rng (lo := 1) (hi := 10) (by decide) c21 (Int32.not_lt.mpr c27) (by decide)
                  exact ⟨b9, h9, s9 - 1, by omega, h1, by omega, by omega, b2, h3, by rw [s3, Nat.sub_add_cancel s1]⟩) hout
            · refine lv_iconst (v := (-1)) hx hb dX10_loops_30 (by decide) ?_
              exact ro_iret hx hb hr hlocks hS (rfl) hQ dX10_loops_31
