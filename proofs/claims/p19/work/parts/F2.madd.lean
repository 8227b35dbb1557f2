theorem zs_pos (A : Int → Int) (k m : Nat) : 0 < zs A k m ↔ ∃ d : Int, 1 ≤ d ∧ d ≤ (m : Int) ∧ A d = (k : Int) + d := by
  induction m with
  | zero =>
    constructor
    · intro h; exact absurd (show (0 : Int) < 0 from h) (by omega)
    · rintro ⟨d, d1, d2, -⟩; omega
  | succ m ih =>
    have hn := zs_nn A k m
    have e : zs A k (m + 1) = zs A k m + ce (A ((m : Int) + 1)) ((k : Int) + (m : Int) + 1) := rfl
    constructor
    · intro h
      by_cases q : 0 < zs A k m
      · obtain ⟨d, d1, d2, d3⟩ := ih.mp q
        exact ⟨d, d1, by omega, d3⟩
      · refine ⟨(m : Int) + 1, by omega, by omega, ?_⟩
        unfold ce at e
        by_cases r : A ((m : Int) + 1) = (k : Int) + (m : Int) + 1
        · omega
        · rw [if_neg r] at e; omega
    · rintro ⟨d, d1, d2, d3⟩
      by_cases q : d = (m : Int) + 1
      · unfold ce at e
        rw [if_pos (by rw [← q, d3, q]; omega)] at e
        omega
      · have := ih.mpr ⟨d, d1, by omega, d3⟩
        have := ce_nn (A ((m : Int) + 1)) ((k : Int) + (m : Int) + 1)
        omega
theorem bc_tb : ∀ M, M < 512 → bc M = (M.testBit 0).toNat + (M.testBit 1).toNat + (M.testBit 2).toNat + (M.testBit 3).toNat + (M.testBit 4).toNat + (M.testBit 5).toNat + (M.testBit 6).toNat + (M.testBit 7).toNat + (M.testBit 8).toNat := by decide +kernel
theorem StM_bit {A w : Int → Int} {n : Int} {M : Nat} (h : StM w n 0 M) (hA : ∀ d : Int, A d = w (2 * ((0 - d) % n))) (h9 : ∀ d : Int, A d ≤ 9) (hz : ∀ k : Nat, k < 9 → zs A k (9 - k) ≤ 1) (k : Nat) (hk : k < 9) : zs A k (9 - k) = ((M.testBit k).toNat : Int) := by
  have h1 := zs_pos A k (9 - k)
  have h2 := h.2 k hk
  have h3 := hz k hk
  have h4 := zs_nn A k (9 - k)
  have key : (∃ d : Int, 1 ≤ d ∧ d ≤ ((9 - k : Nat) : Int) ∧ A d = (k : Int) + d) ↔ stQ w n 0 10 k := by
    constructor
    · rintro ⟨d, d1, d2, d3⟩
      exact ⟨d, d1, by omega, by rw [← hA, d3]; omega⟩
    · rintro ⟨d, d1, d2, d3⟩
      rw [← hA] at d3
      have := h9 d
      exact ⟨d, d1, by omega, by rw [d3]; omega⟩
  cases e : M.testBit k with
  | true =>
    have := h1.mpr (key.mpr (h2.mp e))
    show zs A k (9 - k) = 1
    omega
  | false =>
    show zs A k (9 - k) = 0
    by_cases q : 0 < zs A k (9 - k)
    · have := h2.mpr (key.mp (h1.mp q))
      rw [e] at this; cases this
    · omega
/-- a state's bits are the balls -/
theorem StM_bc {A w : Int → Int} {n : Int} {M : Nat} (h : StM w n 0 M) (hA : ∀ d : Int, A d = w (2 * ((0 - d) % n))) (h9 : ∀ d : Int, A d ≤ 9) (hz : ∀ k : Nat, k < 9 → zs A k (9 - k) ≤ 1) : (bc M : Int) = zt A 9 := by
  have e := bc_tb M h.1
  have f := StM_bit h hA h9 hz
  have f0 := f 0 (by decide)
  have f1 := f 1 (by decide)
  have f2 := f 2 (by decide)
  have f3 := f 3 (by decide)
  have f4 := f 4 (by decide)
  have f5 := f 5 (by decide)
  have f6 := f 6 (by decide)
  have f7 := f 7 (by decide)
  have f8 := f 8 (by decide)
  show _ = (0 : Int) + zs A 0 (9 - 0) + zs A 1 (9 - 1) + zs A 2 (9 - 2) + zs A 3 (9 - 3) + zs A 4 (9 - 4) + zs A 5 (9 - 5) + zs A 6 (9 - 6) + zs A 7 (9 - 7) + zs A 8 (9 - 8)
  omega
theorem drop_c {ls t : List Nat} {k h : Nat} (e : h :: t = ls.drop k) : ls.getD k 0 = h ∧ t = ls.drop (k + 1) ∧ k < ls.length := by
  have hl : k < ls.length := by
    have := congrArg List.length e
    rw [List.length_drop, List.length_cons] at this
    omega
  rw [List.drop_eq_getElem_cons hl] at e
  cases e
  exact ⟨by rw [List.getD_eq_getElem?_getD, List.getElem?_eq_getElem hl]; rfl, rfl, hl⟩
theorem scV_2 {w : Int → Int} {m x : Int} {hs : List Nat} {h : Nat} {k : Int} (k0 : 0 ≤ k) (hk : k.toNat < hs.length) (e : hs.getD k.toNat 0 = h) (h10 : h < 10) : ∀ i : Int, 0 ≤ i → i < 1 → (fun _ => (nI h).toInt) i = scV w m hs (k + i) ∧ (fun _ => ((-1 : Int32)).toInt) i = scX x hs (k + i) := fun i i0 i1 => by
  have q : i = 0 := by omega
  subst q
  show (nI h).toInt = scV w m hs (k + 0) ∧ ((-1 : Int32)).toInt = scX x hs (k + 0)
  rw [Int.add_zero]
  unfold scV scX
  rw [if_pos (by omega), if_pos (by omega), e]
  exact ⟨nI_toInt (by omega), by decide⟩
theorem scV_3 {w : Int → Int} {m x : Int} {hs : List Nat} {k : Int} (k0 : 0 ≤ k) : scV w m hs ((hs.length : Int) + k) = w (2 * (k % m)) ∧ scX x hs ((hs.length : Int) + k) = x := by
  unfold scV scX
  rw [if_neg (by omega), if_neg (by omega), show (hs.length : Int) + k - (hs.length : Int) = k by omega]
  exact ⟨rfl, rfl⟩
set_option maxRecDepth 100000 in
set_option maxHeartbeats 4000000 in
theorem k_note3 (l : Launch) (D : va_G) (cI cR cM : ClassId) (sz : Nat) {jn mm : Nat} {q : Nat → Nat} {x0 x1 x2 x3 x4 x5 x6 x7 x8 x9 x10 x11 x12 x13 x14 x15 x16 x17 x18 x19 x20 : Int32} {f0 f1 f2 f3 f4 f5 f6 f7 f8 f9 f10 f11 f12 f13 f14 f15 f16 f17 f18 f19 f20 f21 f22 f23 f24 : Nat → Int32} {a b : Int32}  (h18 : 0 ≤ x18.toInt ∧ x18.toInt ≤ 299) : Met l yX11_note wsX11_note ({ frames := 0, cells := 0, slots := 0, locals := 0 }) (P0 D cI cR cM [.ref mm, .int a, .int b] sz (mX mm q jn cI x0 x1 x2 x3 x4 x5 x6 x7 x8 x9 x10 x11 x12 x13 x14 x15 x16 x17 x18 x19 x20 f0 f1 f2 f3 f4 f5 f6 f7 f8 f9 f10 f11 f12 f13 f14 f15 f16 f17 f18 f19 f20 f21 f22 f23 f24)) (QG (S := Int32 × (Nat → Int32) × (Nat → Int32)) (fun u => none) (fun u => mX mm q jn cI x0 x1 x2 x3 x4 x5 x6 x7 x8 x9 x10 x11 x12 x13 x14 x15 x16 x17 (u.1) x19 x20 f0 f1 f2 f3 f4 f5 f6 f7 f8 f9 f10 f11 f12 f13 f14 f15 f16 f17 f18 f19 f20 (u.2.1) (u.2.2) f23 f24) (fun u => (u.1.toInt = x18.toInt + 1) ∧ (ScP f21 f22 u.2.1 u.2.2 x18.toInt 1 (fun _ => a.toInt) (fun _ => b.toInt))) D (va_A (mX mm q jn cI x0 x1 x2 x3 x4 x5 x6 x7 x8 x9 x10 x11 x12 x13 x14 x15 x16 x17 x18 x19 x20 f0 f1 f2 f3 f4 f5 f6 f7 f8 f9 f10 f11 f12 f13 f14 f15 f16 f17 f18 f19 f20 f21 f22 f23 f24) sz)) 0 0 (va_A (mX mm q jn cI x0 x1 x2 x3 x4 x5 x6 x7 x8 x9 x10 x11 x12 x13 x14 x15 x16 x17 x18 x19 x20 f0 f1 f2 f3 f4 f5 f6 f7 f8 f9 f10 f11 f12 f13 f14 f15 f16 f17 f18 f19 f20 f21 f22 f23 f24) sz) := by
  refine go (cc := cX11_note) (maxL := 3) (ret := none) (by decide) rfl (Nat.le_of_ble_eq_true rfl) ?_
  intro p e s m below meth c ls args Q hQ hsz hx hb hr hml hts hown hlocks hnm hP hK hD hl
  subst hsz
  have hD := hD.self (sz := s.heap.size)
  generalize hAe : va_A (mX mm q jn cI x0 x1 x2 x3 x4 x5 x6 x7 x8 x9 x10 x11 x12 x13 x14 x15 x16 x17 x18 x19 x20 f0 f1 f2 f3 f4 f5 f6 f7 f8 f9 f10 f11 f12 f13 f14 f15 f16 f17 f18 f19 f20 f21 f22 f23 f24) s.heap.size = A at hD hQ
  have hA : ∀ q, s.heap.size ≤ q → A q := fun q h => by rw [← hAe]; exact Or.inr h
  have hS : va_S A s.heap s.heap [] := va_S.rf
  have hl : lv_has ls 3 [(0, .ref mm), (1, .int a), (2, .int b)] := hl
  refine lv_aload_n hx hb dX11_note_0 rfl (lv_at hl 0 rfl) ?_
  refine va_get (D := D) (ci := 11) (v := .ref (q 21)) (C := RX11) (T := TX11) (N := 47) hx hb hts (by decide +kernel) hown hK.1 hP 0 rfl rfl 40 (by decide) (hts (.fieldLink RX11 81 "JugglingHallModel" "scoreHeight" "[I") (by decide +kernel)) (fun _ h9 => h9) rfl dX11_note_1 ?_
  refine lv_aload_n hx hb dX11_note_4 rfl (lv_at hl 0 rfl) ?_
  refine va_get (D := D) (ci := 11) (v := .int x18) (C := RX11) (T := TX11) (N := 47) hx hb hts (by decide +kernel) hown hK.1 hP 0 rfl rfl 42 (by decide) (hts (.fieldLink RX11 310 "JugglingHallModel" "scored" "I") (by decide +kernel)) (fun _ h9 => h9) rfl dX11_note_5 ?_
  refine lv_iload_n hx hb dX11_note_8 rfl (lv_at hl 1 rfl) ?_
  refine ma_21 (u := x18.toInt) hx hb hK hP hD hS dX11_note_9 (rfl) (by omega) (fun g_1 H locs eg_1 hP hD hS => ?_)
  refine lv_aload_n hx hb dX11_note_10 rfl (lv_at hl 0 rfl) ?_
  refine va_get (D := D) (ci := 11) (v := .ref (q 22)) (C := RX11) (T := TX11) (N := 47) hx hb hts (by decide +kernel) hown hK.1 hP 0 rfl rfl 41 (by decide) (hts (.fieldLink RX11 84 "JugglingHallModel" "scoreLetter" "[I") (by decide +kernel)) (fun _ h9 => h9) rfl dX11_note_11 ?_
  refine lv_aload_n hx hb dX11_note_14 rfl (lv_at hl 0 rfl) ?_
  refine va_get (D := D) (ci := 11) (v := .int x18) (C := RX11) (T := TX11) (N := 47) hx hb hts (by decide +kernel) hown hK.1 hP 0 rfl rfl 42 (by decide) (hts (.fieldLink RX11 310 "JugglingHallModel" "scored" "I") (by decide +kernel)) (fun _ h9 => h9) rfl dX11_note_15 ?_
  refine lv_iload_n hx hb dX11_note_18 rfl (lv_at hl 2 rfl) ?_
  refine ma_22 (u := x18.toInt) hx hb hK hP hD hS dX11_note_19 (rfl) (by omega) (fun g_2 H locs eg_2 hP hD hS => ?_)
  refine lv_aload_n hx hb dX11_note_20 rfl (lv_at hl 0 rfl) ?_
  refine lv_dup hx hb dX11_note_21 rfl ?_
  refine va_get (D := D) (ci := 11) (v := .int x18) (C := RX11) (T := TX11) (N := 47) hx hb hts (by decide +kernel) hown hK.1 hP 0 rfl rfl 42 (by decide) (hts (.fieldLink RX11 310 "JugglingHallModel" "scored" "I") (by decide +kernel)) (fun _ h9 => h9) rfl dX11_note_22 ?_
  refine lv_iconst (v := 1) hx hb dX11_note_25 (by decide) ?_
  refine a_iadd (u := x18.toInt) (v := 1) hx hb dX11_note_26 (rfl) (by decide) (by omega) (fun z_3 e_3 => ?_)
  refine mp_18 hx hb hts (by decide +kernel) hown hK hP hD hS (hts (.fieldLink RX11 310 "JugglingHallModel" "scored" "I") (by decide +kernel)) dX11_note_27 (fun H locs hP hD hS => ?_)
  exact g_vret (z_3, g_1, g_2) hx hb hr hlocks hS rfl (⟨show z_3.toInt = x18.toInt + 1 from (by first | assumption | omega), show ScP f21 f22 g_1 g_2 x18.toInt 1 (fun _ => a.toInt) (fun _ => b.toInt) from (ScP_1 (by omega) rfl eg_1 eg_2)⟩) hP hD hQ (Nat.le_of_ble_eq_true rfl) (Nat.le_of_ble_eq_true rfl) dX11_note_30
set_option maxRecDepth 100000 in
set_option maxHeartbeats 4000000 in
theorem k_clear3 (l : Launch) (D : va_G) (cI cR cM : ClassId) (sz : Nat) {jn mm : Nat} {q : Nat → Nat} {x0 x1 x2 x3 x4 x5 x6 x7 x8 x9 x10 x11 x12 x13 x14 x15 x16 x17 x18 x19 x20 : Int32} {f0 f1 f2 f3 f4 f5 f6 f7 f8 f9 f10 f11 f12 f13 f14 f15 f16 f17 f18 f19 f20 f21 f22 f23 f24 : Nat → Int32}   : Met l yX11_clear wsX11_clear ({ frames := 0, cells := 0, slots := 0, locals := 0 }) (P0 D cI cR cM [.ref mm] sz (mX mm q jn cI x0 x1 x2 x3 x4 x5 x6 x7 x8 x9 x10 x11 x12 x13 x14 x15 x16 x17 x18 x19 x20 f0 f1 f2 f3 f4 f5 f6 f7 f8 f9 f10 f11 f12 f13 f14 f15 f16 f17 f18 f19 f20 f21 f22 f23 f24)) (QG (S := Int32 × Int32) (fun u => some (.int u.1)) (fun u => mX mm q jn cI x0 x1 x2 x3 x4 x5 x6 x7 x8 x9 x10 x11 x12 x13 x14 x15 x16 x17 (u.2) x19 x20 f0 f1 f2 f3 f4 f5 f6 f7 f8 f9 f10 f11 f12 f13 f14 f15 f16 f17 f18 f19 f20 f21 f22 f23 f24) (fun u => (u.2 = 0) ∧ (u.1 = x18)) D (va_A (mX mm q jn cI x0 x1 x2 x3 x4 x5 x6 x7 x8 x9 x10 x11 x12 x13 x14 x15 x16 x17 x18 x19 x20 f0 f1 f2 f3 f4 f5 f6 f7 f8 f9 f10 f11 f12 f13 f14 f15 f16 f17 f18 f19 f20 f21 f22 f23 f24) sz)) 0 0 (va_A (mX mm q jn cI x0 x1 x2 x3 x4 x5 x6 x7 x8 x9 x10 x11 x12 x13 x14 x15 x16 x17 x18 x19 x20 f0 f1 f2 f3 f4 f5 f6 f7 f8 f9 f10 f11 f12 f13 f14 f15 f16 f17 f18 f19 f20 f21 f22 f23 f24) sz) := by
  refine go (cc := cX11_clear) (maxL := 2) (ret := (some .int)) (by decide) rfl (Nat.le_of_ble_eq_true rfl) ?_
  intro p e s m below meth c ls args Q hQ hsz hx hb hr hml hts hown hlocks hnm hP hK hD hl
  subst hsz
  have hD := hD.self (sz := s.heap.size)
  generalize hAe : va_A (mX mm q jn cI x0 x1 x2 x3 x4 x5 x6 x7 x8 x9 x10 x11 x12 x13 x14 x15 x16 x17 x18 x19 x20 f0 f1 f2 f3 f4 f5 f6 f7 f8 f9 f10 f11 f12 f13 f14 f15 f16 f17 f18 f19 f20 f21 f22 f23 f24) s.heap.size = A at hD hQ
  have hA : ∀ q, s.heap.size ≤ q → A q := fun q h => by rw [← hAe]; exact Or.inr h
  have hS : va_S A s.heap s.heap [] := va_S.rf
  have hl : lv_has ls 2 [(0, .ref mm)] := hl
  refine lv_aload_n hx hb dX11_clear_0 rfl (lv_at hl 0 rfl) ?_
  refine va_get (D := D) (ci := 11) (v := .int x18) (C := RX11) (T := TX11) (N := 47) hx hb hts (by decide +kernel) hown hK.1 hP 0 rfl rfl 42 (by decide) (hts (.fieldLink RX11 310 "JugglingHallModel" "scored" "I") (by decide +kernel)) (fun _ h9 => h9) rfl dX11_clear_1 ?_
  refine lv_istore_n (lv' := [(1, .int x18), (0, .ref mm)]) hx hb dX11_clear_4 rfl hl (by decide) rfl (fun ls hl => ?_)
  refine lv_aload_n hx hb dX11_clear_5 rfl (lv_at hl 1 rfl) ?_
  refine lv_iconst (v := 0) hx hb dX11_clear_6 (by decide) ?_
  refine mp_18 hx hb hts (by decide +kernel) hown hK hP hD hS (hts (.fieldLink RX11 310 "JugglingHallModel" "scored" "I") (by decide +kernel)) dX11_clear_7 (fun H locs hP hD hS => ?_)
  refine lv_iload_n hx hb dX11_clear_10 rfl (lv_at hl 0 rfl) ?_
  have hz_1 : (0 : Int32).toInt = 0 := by decide
  exact g_iret (x18, (0 : Int32)) hx hb hr hlocks hS rfl (⟨show (0 : Int32) = 0 from (rfl), show x18 = x18 from (rfl)⟩) hP hD hQ (Nat.le_of_ble_eq_true rfl) (Nat.le_of_ble_eq_true rfl) dX11_clear_11
set_option maxRecDepth 100000 in
set_option maxHeartbeats 4000000 in
theorem k_score3 (l : Launch) (D : va_G) (cI cR cM : ClassId) (sz : Nat) {jn mm : Nat} {q : Nat → Nat} {x0 x1 x2 x3 x4 x5 x6 x7 x8 x9 x10 x11 x12 x13 x14 x15 x16 x17 x18 x19 x20 : Int32} {f0 f1 f2 f3 f4 f5 f6 f7 f8 f9 f10 f11 f12 f13 f14 f15 f16 f17 f18 f19 f20 f21 f22 f23 f24 : Nat → Int32} {a b : Int32}  (h18 : 0 ≤ x18.toInt ∧ x18.toInt ≤ 300) : Met l yX11_score wsX11_score ({ frames := 1, cells := 0, slots := 0, locals := 22 }) (P0 D cI cR cM [.ref mm, .int a, .int b] sz (mX mm q jn cI x0 x1 x2 x3 x4 x5 x6 x7 x8 x9 x10 x11 x12 x13 x14 x15 x16 x17 x18 x19 x20 f0 f1 f2 f3 f4 f5 f6 f7 f8 f9 f10 f11 f12 f13 f14 f15 f16 f17 f18 f19 f20 f21 f22 f23 f24)) (QP (fun r => (ScR x18.toInt f21 f22 a.toInt b.toInt r)) sz) 0 0 (va_A [] sz) := by
  refine go (cc := cX11_score) (maxL := 3) (ret := (some .int)) (by decide) rfl (Nat.le_of_ble_eq_true rfl) ?_
  intro p e s m below meth c ls args Q hQ hsz hx hb hr hml hts hown hlocks hnm hP hK hD hl
  subst hsz
  have hS : va_S (va_A [] s.heap.size) s.heap s.heap [] := va_S.rf
  have hA : ∀ q, s.heap.size ≤ q → va_A [] s.heap.size q := fun q h => Or.inr h
  have hl : lv_has ls 3 [(0, .ref mm), (1, .int a), (2, .int b)] := hl
  refine lv_iload_n hx hb dX11_score_0 rfl (lv_at hl 1 rfl) ?_
  refine lv_iconst (v := 0) hx hb dX11_score_1 (by decide) ?_
  refine lv_aload_n hx hb dX11_score_2 rfl (lv_at hl 0 rfl) ?_
  refine va_get (D := D) (ci := 11) (v := .int x18) (C := RX11) (T := TX11) (N := 47) hx hb hts (by decide +kernel) hown hK.1 hP 0 rfl rfl 42 (by decide) (hts (.fieldLink RX11 310 "JugglingHallModel" "scored" "I") (by decide +kernel)) (fun _ h9 => h9) rfl dX11_score_3 ?_
  refine lv_iconst (v := 1) hx hb dX11_score_6 (by decide) ?_
  refine a_isub (u := x18.toInt) (v := 1) hx hb dX11_score_7 (rfl) (by decide) (by omega) (fun z_1 e_1 => ?_)
  have hz_2 : (0 : Int32).toInt = 0 := by decide
  refine roP (va_runS (As := [.int a, .int 0, .int z_1]) (rest := []) ⟨hx, hb, hml, hown, hts⟩ (k_isIn l D cI cR cM _  ) (va_cwS 3 hts gX11_score_X11_isIn rfl rfl rfl (by decide +kernel) ⟨Nat.le_of_ble_eq_true rfl, Nat.le_of_ble_eq_true rfl⟩) (pre_S hK va_P_nil (va_D_nil (A := fun _ => True))) rfl rfl hl.1 rfl (lv_room (Nat.le_of_ble_eq_true rfl)) dX11_score_8 ⟨Nat.le_of_ble_eq_true rfl, Nat.le_of_ble_eq_true rfl⟩) hS hA hP (fun r_3 H locs hw hP hS => ?_)
  have h_3 : ((r_3.toInt = 1 ∧ (0 : Int32).toInt ≤ a.toInt ∧ a.toInt ≤ z_1.toInt) ∨ (r_3.toInt = 0 ∧ (a.toInt < (0 : Int32).toInt ∨ z_1.toInt < a.toInt))) := hw
  refine a_if_ne (u := r_3.toInt) (tgt := 16) hx hb dX11_score_11 (by decide) (rfl) (fun c_4 => ?_) (fun c_4 => ?_)
  · refine lv_iload_n hx hb dX11_score_16 rfl (lv_at hl 2 rfl) ?_
    refine a_if_ne (u := b.toInt) (tgt := 29) hx hb dX11_score_17 (by decide) (rfl) (fun c_5 => ?_) (fun c_5 => ?_)
    · refine lv_iload_n hx hb dX11_score_29 rfl (lv_at hl 2 rfl) ?_
      refine lv_iconst (v := 1) hx hb dX11_score_30 (by decide) ?_
      refine a_icmp_ne (u := b.toInt) (v := 1) (tgt := 43) hx hb dX11_score_31 (by decide) (rfl) (by decide) (fun c_6 => ?_) (fun c_6 => ?_)
      · refine lv_iconst (v := (-1)) hx hb dX11_score_43 (by decide) ?_
        have hz_7 : (-1 : Int32).toInt = (-1) := by decide
        exact rp_iret hx hb hr hlocks hS (show ScR x18.toInt f21 f22 a.toInt b.toInt (-1 : Int32) from (Or.inr ⟨by omega, Or.inr (Or.inr ⟨by omega, by omega, rfl⟩)⟩)) hQ dX11_score_44
      · refine lv_aload_n hx hb dX11_score_34 rfl (lv_at hl 0 rfl) ?_
        refine va_get (D := D) (ci := 11) (v := .ref (q 22)) (C := RX11) (T := TX11) (N := 47) hx hb hts (by decide +kernel) hown hK.1 hP 0 rfl rfl 41 (by decide) (hts (.fieldLink RX11 84 "JugglingHallModel" "scoreLetter" "[I") (by decide +kernel)) (fun _ h9 => h9) rfl dX11_score_35 ?_
        refine lv_iload_n hx hb dX11_score_38 rfl (lv_at hl 1 rfl) ?_
        refine a_iald (f := f22) (u := a.toInt) hx hb hK.1 hP 23 0 rfl rfl dX11_score_39 (rfl) (by omega) (fun z_8 q_8 e_8 => ?_)
        refine lv_goto (tgt := 44) hx hb dX11_score_40 (by decide) ?_
        exact rp_iret hx hb hr hlocks hS (show ScR x18.toInt f21 f22 a.toInt b.toInt z_8 from (Or.inr ⟨by omega, Or.inr (Or.inl ⟨by omega, q_8⟩)⟩)) hQ dX11_score_44
    · refine lv_aload_n hx hb dX11_score_20 rfl (lv_at hl 0 rfl) ?_
      refine va_get (D := D) (ci := 11) (v := .ref (q 21)) (C := RX11) (T := TX11) (N := 47) hx hb hts (by decide +kernel) hown hK.1 hP 0 rfl rfl 40 (by decide) (hts (.fieldLink RX11 81 "JugglingHallModel" "scoreHeight" "[I") (by decide +kernel)) (fun _ h9 => h9) rfl dX11_score_21 ?_
      refine lv_iload_n hx hb dX11_score_24 rfl (lv_at hl 1 rfl) ?_
      refine a_iald (f := f21) (u := a.toInt) hx hb hK.1 hP 22 0 rfl rfl dX11_score_25 (rfl) (by omega) (fun z_9 q_9 e_9 => ?_)
      refine lv_goto (tgt := 44) hx hb dX11_score_26 (by decide) ?_
      exact rp_iret hx hb hr hlocks hS (show ScR x18.toInt f21 f22 a.toInt b.toInt z_9 from (Or.inr ⟨by omega, Or.inl ⟨by omega, q_9⟩⟩)) hQ dX11_score_44
  · refine lv_iconst (v := (-1)) hx hb dX11_score_14 (by decide) ?_
    have hz_10 : (-1 : Int32).toInt = (-1) := by decide
    exact rp_iret hx hb hr hlocks hS (show ScR x18.toInt f21 f22 a.toInt b.toInt (-1 : Int32) from (Or.inl ⟨by omega, rfl⟩)) hQ dX11_score_15
set_option maxRecDepth 100000 in
set_option maxHeartbeats 4000000 in
theorem k_isPlainGood4 (l : Launch) (D : va_G) (cI cR cM : ClassId) (sz : Nat) {jn mm : Nat} {q : Nat → Nat} {x0 x1 x2 x3 x4 x5 x6 x7 x8 x9 x10 x11 x12 x13 x14 x15 x16 x17 x18 x19 x20 : Int32} {f0 f1 f2 f3 f4 f5 f6 f7 f8 f9 f10 f11 f12 f13 f14 f15 f16 f17 f18 f19 f20 f21 f22 f23 f24 : Nat → Int32} {a : Int32}  (hj : 1 ≤ jn ∧ jn ≤ 3) (hr0 : a.toInt = -1 ∨ (IsRow jn f0 a.toInt ∧ ZX jn f0 (a.toInt + 1) (f0 a.toInt.toNat).toInt)) (hj1 : jn = 1) : Met l yX11_isPlainGood wsX11_isPlainGood ({ frames := 3, cells := 0, slots := 0, locals := 70 }) (P0 D cI cR cM [.ref mm, .int a] sz (mX mm q jn cI x0 x1 x2 x3 x4 x5 x6 x7 x8 x9 x10 x11 x12 x13 x14 x15 x16 x17 x18 x19 x20 f0 f1 f2 f3 f4 f5 f6 f7 f8 f9 f10 f11 f12 f13 f14 f15 f16 f17 f18 f19 f20 f21 f22 f23 f24)) (QG (S := Int32 × Int32 × Int32 × (Nat → Int32)) (fun u => some (.int u.1)) (fun u => mX mm q jn cI x0 x1 x2 x3 x4 x5 x6 x7 x8 x9 x10 x11 x12 x13 x14 (u.2.1) (u.2.2.1) x17 x18 x19 x20 f0 f1 f2 f3 f4 f5 f6 f7 f8 f9 f10 f11 (u.2.2.2) f13 f14 f15 f16 f17 f18 f19 f20 f21 f22 f23 f24) (fun u => (u.1.toInt = 0 ∨ u.1.toInt = 1) ∧ (u.1.toInt = 1 → 0 ≤ a.toInt) ∧ (u.1.toInt = 1 → u.2.2.1.toInt = cy_S f0 a.toInt (6 * (f0 a.toInt.toNat).toInt).toNat) ∧ (u.1.toInt = 1 → cy_G f0 a.toInt (f0 a.toInt.toNat).toInt ∧ (∀ i9 : Int, 0 ≤ i9 → i9 < (f0 a.toInt.toNat).toInt → cy_h f0 a.toInt (6 * i9 + 1) = 0)) ∧ (u.1.toInt = 0 → a.toInt = -1 ∨ ¬ (cy_G f0 a.toInt (f0 a.toInt.toNat).toInt ∧ (∀ i9 : Int, 0 ≤ i9 → i9 < (f0 a.toInt.toNat).toInt → cy_h f0 a.toInt (6 * i9 + 1) = 0)))) D (va_A (mX mm q jn cI x0 x1 x2 x3 x4 x5 x6 x7 x8 x9 x10 x11 x12 x13 x14 x15 x16 x17 x18 x19 x20 f0 f1 f2 f3 f4 f5 f6 f7 f8 f9 f10 f11 f12 f13 f14 f15 f16 f17 f18 f19 f20 f21 f22 f23 f24) sz)) 0 0 (va_A (mX mm q jn cI x0 x1 x2 x3 x4 x5 x6 x7 x8 x9 x10 x11 x12 x13 x14 x15 x16 x17 x18 x19 x20 f0 f1 f2 f3 f4 f5 f6 f7 f8 f9 f10 f11 f12 f13 f14 f15 f16 f17 f18 f19 f20 f21 f22 f23 f24) sz) := by
  refine go (cc := cX11_isPlainGood) (maxL := 2) (ret := (some .boolean)) (by decide) rfl (Nat.le_of_ble_eq_true rfl) ?_
  intro p e s m below meth c ls args Q hQ hsz hx hb hr hml hts hown hlocks hnm hP hK hD hl
  subst hsz
  have hD := hD.self (sz := s.heap.size)
  generalize hAe : va_A (mX mm q jn cI x0 x1 x2 x3 x4 x5 x6 x7 x8 x9 x10 x11 x12 x13 x14 x15 x16 x17 x18 x19 x20 f0 f1 f2 f3 f4 f5 f6 f7 f8 f9 f10 f11 f12 f13 f14 f15 f16 f17 f18 f19 f20 f21 f22 f23 f24) s.heap.size = A at hD hQ
  have hA : ∀ q, s.heap.size ≤ q → A q := fun q h => by rw [← hAe]; exact Or.inr h
  have hS : va_S A s.heap s.heap [] := va_S.rf
  have hl : lv_has ls 2 [(0, .ref mm), (1, .int a)] := hl
  refine lv_aload_n hx hb dX11_isPlainGood_0 rfl (lv_at hl 0 rfl) ?_
  refine lv_iload_n hx hb dX11_isPlainGood_1 rfl (lv_at hl 1 rfl) ?_
  refine call_g (wr := []) (va_runV (As := [.int a]) (rest := []) ⟨hx, hb, hml, hown, hts⟩ (k_isGood3 l D cI cR cM _  (by first | assumption | omega) (hr0.imp id (fun q => q.1))) (cwV 1 hts gX11_isPlainGood_X11_isGood rfl rfl rfl (by decide +kernel) ⟨Nat.le_of_ble_eq_true rfl, Nat.le_of_ble_eq_true rfl⟩) (pre_V hK hP hD 0 11 rfl rfl) rfl rfl hl.1 rfl (lv_room (Nat.le_of_ble_eq_true rfl)) dX11_isPlainGood_2 ⟨Nat.le_of_ble_eq_true rfl, Nat.le_of_ble_eq_true rfl⟩) hP hD hS hA [0, 1, 2, 3, 4, 5, 6, 7, 8, 9, 10, 11, 12, 13, 14, 15, 16, 17, 18, 19, 20, 21, 22, 23, 24, 25] [] (by with_unfolding_all rfl) rfl (by decide) (by decide) (fun u_1 H locs hw hP hD hS => ?_)
  obtain ⟨r_1, y15_1, y16_1, g12_1⟩ := u_1
  have hP : va_P D vwCl (mX mm q jn cI x0 x1 x2 x3 x4 x5 x6 x7 x8 x9 x10 x11 x12 x13 x14 y15_1 y16_1 x17 x18 x19 x20 f0 f1 f2 f3 f4 f5 f6 f7 f8 f9 f10 f11 g12_1 f13 f14 f15 f16 f17 f18 f19 f20 f21 f22 f23 f24) H := hP
  have hD : va_D A (mX mm q jn cI x0 x1 x2 x3 x4 x5 x6 x7 x8 x9 x10 x11 x12 x13 x14 y15_1 y16_1 x17 x18 x19 x20 f0 f1 f2 f3 f4 f5 f6 f7 f8 f9 f10 f11 g12_1 f13 f14 f15 f16 f17 f18 f19 f20 f21 f22 f23 f24) := hD
  obtain ⟨h_1, hg_1, hs_1, hG_1, hN_1⟩ : (r_1.toInt = 0 ∨ r_1.toInt = 1) ∧ (r_1.toInt = 1 → 0 ≤ a.toInt) ∧ (r_1.toInt = 1 → y16_1.toInt = cy_S f0 a.toInt (6 * (f0 a.toInt.toNat).toInt).toNat) ∧ (r_1.toInt = 1 → cy_G f0 a.toInt (f0 a.toInt.toNat).toInt) ∧ (r_1.toInt = 0 → a.toInt = -1 ∨ ¬ cy_G f0 a.toInt (f0 a.toInt.toNat).toInt) := hw
  refine a_if_eq (u := r_1.toInt) (tgt := 20) hx hb dX11_isPlainGood_5 (by decide) (rfl) (fun c_2 => ?_) (fun c_2 => ?_)
  · refine lv_iconst (v := 0) hx hb dX11_isPlainGood_20 (by decide) ?_
    have hz_3 : (0 : Int32).toInt = 0 := by decide
    exact g_zret ((0 : Int32), y15_1, y16_1, g12_1) hx hb hr hlocks hS (by first | exact Or.inl rfl | exact Or.inr rfl) rfl (⟨show (0 : Int32).toInt = 0 ∨ (0 : Int32).toInt = 1 from (by first | assumption | omega), show (0 : Int32).toInt = 1 → 0 ≤ a.toInt from (by first | assumption | omega), show (0 : Int32).toInt = 1 → y16_1.toInt = cy_S f0 a.toInt (6 * (f0 a.toInt.toNat).toInt).toNat from (fun q => absurd q (by decide)), show (0 : Int32).toInt = 1 → cy_G f0 a.toInt (f0 a.toInt.toNat).toInt ∧ (∀ i9 : Int, 0 ≤ i9 → i9 < (f0 a.toInt.toNat).toInt → cy_h f0 a.toInt (6 * i9 + 1) = 0) from (fun q => absurd q (by decide)), show (0 : Int32).toInt = 0 → a.toInt = -1 ∨ ¬ (cy_G f0 a.toInt (f0 a.toInt.toNat).toInt ∧ (∀ i9 : Int, 0 ≤ i9 → i9 < (f0 a.toInt.toNat).toInt → cy_h f0 a.toInt (6 * i9 + 1) = 0)) from (fun _ => (hN_1 (by omega)).imp id (fun q9 q8 => q9 q8.1))⟩) hP hD hQ (Nat.le_of_ble_eq_true rfl) (Nat.le_of_ble_eq_true rfl) dX11_isPlainGood_21
  · refine lv_aload_n hx hb dX11_isPlainGood_8 rfl (lv_at hl 0 rfl) ?_
    refine lv_iload_n hx hb dX11_isPlainGood_9 rfl (lv_at hl 1 rfl) ?_
    refine roP (va_runV (As := [.int a]) (rest := []) ⟨hx, hb, hml, hown, hts⟩ (k_isPlainRow3 l D cI cR cM _  (by first | assumption | omega) ((hr0.resolve_left (by omega)).1) (by first | assumption | omega)) (cwV 1 hts gX11_isPlainGood_X11_isPlainRow rfl rfl rfl (by decide +kernel) ⟨Nat.le_of_ble_eq_true rfl, Nat.le_of_ble_eq_true rfl⟩) (pre_V hK hP hD 0 11 rfl rfl) rfl rfl hl.1 rfl (lv_room (Nat.le_of_ble_eq_true rfl)) dX11_isPlainGood_10 ⟨Nat.le_of_ble_eq_true rfl, Nat.le_of_ble_eq_true rfl⟩) hS hA hP (fun r_4 H locs hw hP hS => ?_)
    obtain ⟨h_4, hpl_4, hnp_4⟩ : (r_4.toInt = 0 ∨ r_4.toInt = 1) ∧ (r_4.toInt = 1 → ∀ i9 : Int, 0 ≤ i9 → i9 < (f0 a.toInt.toNat).toInt → cy_h f0 a.toInt (6 * i9 + 1) = 0) ∧ (r_4.toInt = 0 → ¬ (∀ i9 : Int, 0 ≤ i9 → i9 < (f0 a.toInt.toNat).toInt → cy_h f0 a.toInt (6 * i9 + 1) = 0)) := hw
    refine a_if_eq (u := r_4.toInt) (tgt := 20) hx hb dX11_isPlainGood_13 (by decide) (rfl) (fun c_5 => ?_) (fun c_5 => ?_)
    · refine lv_iconst (v := 0) hx hb dX11_isPlainGood_20 (by decide) ?_
      have hz_6 : (0 : Int32).toInt = 0 := by decide
      exact g_zret ((0 : Int32), y15_1, y16_1, g12_1) hx hb hr hlocks hS (by first | exact Or.inl rfl | exact Or.inr rfl) rfl (⟨show (0 : Int32).toInt = 0 ∨ (0 : Int32).toInt = 1 from (by first | assumption | omega), show (0 : Int32).toInt = 1 → 0 ≤ a.toInt from (by first | assumption | omega), show (0 : Int32).toInt = 1 → y16_1.toInt = cy_S f0 a.toInt (6 * (f0 a.toInt.toNat).toInt).toNat from (fun q => absurd q (by decide)), show (0 : Int32).toInt = 1 → cy_G f0 a.toInt (f0 a.toInt.toNat).toInt ∧ (∀ i9 : Int, 0 ≤ i9 → i9 < (f0 a.toInt.toNat).toInt → cy_h f0 a.toInt (6 * i9 + 1) = 0) from (fun q => absurd q (by decide)), show (0 : Int32).toInt = 0 → a.toInt = -1 ∨ ¬ (cy_G f0 a.toInt (f0 a.toInt.toNat).toInt ∧ (∀ i9 : Int, 0 ≤ i9 → i9 < (f0 a.toInt.toNat).toInt → cy_h f0 a.toInt (6 * i9 + 1) = 0)) from (fun _ => Or.inr (fun q8 => hnp_4 (by omega) q8.2))⟩) hP hD hQ (Nat.le_of_ble_eq_true rfl) (Nat.le_of_ble_eq_true rfl) dX11_isPlainGood_21
    · refine lv_iconst (v := 1) hx hb dX11_isPlainGood_16 (by decide) ?_
      refine lv_goto (tgt := 21) hx hb dX11_isPlainGood_17 (by decide) ?_
      have hz_7 : (1 : Int32).toInt = 1 := by decide
      exact g_zret ((1 : Int32), y15_1, y16_1, g12_1) hx hb hr hlocks hS (by first | exact Or.inl rfl | exact Or.inr rfl) rfl (⟨show (1 : Int32).toInt = 0 ∨ (1 : Int32).toInt = 1 from (by first | assumption | omega), show (1 : Int32).toInt = 1 → 0 ≤ a.toInt from (by first | assumption | omega), show (1 : Int32).toInt = 1 → y16_1.toInt = cy_S f0 a.toInt (6 * (f0 a.toInt.toNat).toInt).toNat from (fun _ => hs_1 (by omega)), show (1 : Int32).toInt = 1 → cy_G f0 a.toInt (f0 a.toInt.toNat).toInt ∧ (∀ i9 : Int, 0 ≤ i9 → i9 < (f0 a.toInt.toNat).toInt → cy_h f0 a.toInt (6 * i9 + 1) = 0) from (fun _ => ⟨hG_1 (by omega), hpl_4 (by omega)⟩), show (1 : Int32).toInt = 0 → a.toInt = -1 ∨ ¬ (cy_G f0 a.toInt (f0 a.toInt.toNat).toInt ∧ (∀ i9 : Int, 0 ≤ i9 → i9 < (f0 a.toInt.toNat).toInt → cy_h f0 a.toInt (6 * i9 + 1) = 0)) from (fun q => absurd q (by decide))⟩) hP hD hQ (Nat.le_of_ble_eq_true rfl) (Nat.le_of_ble_eq_true rfl) dX11_isPlainGood_21
set_option maxRecDepth 100000 in
set_option maxHeartbeats 4000000 in
theorem k_add3 (l : Launch) (D : va_G) (cI cR cM : ClassId) (sz : Nat) {jn mm : Nat} {q : Nat → Nat} {x0 x1 x2 x3 x4 x5 x6 x7 x8 x9 x10 x11 x12 x13 x14 x15 x16 x17 x18 x19 x20 : Int32} {f0 f1 f2 f3 f4 f5 f6 f7 f8 f9 f10 f11 f12 f13 f14 f15 f16 f17 f18 f19 f20 f21 f22 f23 f24 : Nat → Int32} {a9 b : Int32} {Ev : Int → Env1} (hj : 1 ≤ jn ∧ jn ≤ 3) (h0 : 0 ≤ x0.toInt ∧ x0.toInt ≤ 60) (h1 : 0 ≤ x1.toInt ∧ x1.toInt ≤ 60) (hR : RowsX jn f0) (hRZ : RowsZ jn f0) (h10 : x1.toInt ≤ x0.toInt) (hj1 : jn = 1) (hEv : RefR f0 x0.toInt Ev) (hEO : ∀ t9 : Int, 0 ≤ t9 → t9 ≤ x0.toInt → EOk (Ev t9)) (h18 : 0 ≤ x18.toInt ∧ x18.toInt ≤ 300) (hsc : 0 < x18.toInt → ∃ S : Nat, S < 512 ∧ x20 = nI S ∧ (bc S : Int) = x19.toInt) (hwt : ∀ j9 : Nat, j9 < 512 → f18 j9 = 0) : Met l yX11_add wsX11_add ({ frames := 4, cells := 0, slots := 0, locals := 91 }) (P0 D cI cR cM [.ref mm, .int a9, .int b] sz (mX mm q jn cI x0 x1 x2 x3 x4 x5 x6 x7 x8 x9 x10 x11 x12 x13 x14 x15 x16 x17 x18 x19 x20 f0 f1 f2 f3 f4 f5 f6 f7 f8 f9 f10 f11 f12 f13 f14 f15 f16 f17 f18 f19 f20 f21 f22 f23 f24)) (QG (S := Int32 × Int32 × Int32 × Int32 × Int32 × Int32 × (Nat → Int32) × (Nat → Int32) × (Nat → Int32) × (Nat → Int32) × (Nat → Int32)) (fun u => some (.int u.1)) (fun u => mX mm q jn cI x0 x1 x2 x3 x4 x5 x6 x7 x8 x9 x10 x11 x12 x13 x14 (u.2.1) (u.2.2.1) x17 (u.2.2.2.1) (u.2.2.2.2.1) (u.2.2.2.2.2.1) f0 f1 f2 f3 f4 f5 f6 f7 f8 f9 f10 f11 (u.2.2.2.2.2.2.1) f13 f14 f15 f16 (u.2.2.2.2.2.2.2.1) (u.2.2.2.2.2.2.2.2.1) f19 f20 (u.2.2.2.2.2.2.2.2.2.1) (u.2.2.2.2.2.2.2.2.2.2) f23 f24) (fun u => (0 ≤ u.2.2.2.1.toInt ∧ u.2.2.2.1.toInt ≤ 300) ∧ (0 < u.2.2.2.1.toInt → ∃ S : Nat, S < 512 ∧ u.2.2.2.2.2.1 = nI S ∧ (bc S : Int) = u.2.2.2.2.1.toInt) ∧ (∀ j9 : Nat, j9 < 512 → u.2.2.2.2.2.2.2.2.1 j9 = 0) ∧ (AddS (Ev x1.toInt a9.toInt) a9.toInt b.toInt x18.toInt x20 f21 f22 u.1.toInt u.2.2.2.1.toInt u.2.2.2.2.2.1 u.2.2.2.2.2.2.2.2.2.1 u.2.2.2.2.2.2.2.2.2.2)) D (va_A (mX mm q jn cI x0 x1 x2 x3 x4 x5 x6 x7 x8 x9 x10 x11 x12 x13 x14 x15 x16 x17 x18 x19 x20 f0 f1 f2 f3 f4 f5 f6 f7 f8 f9 f10 f11 f12 f13 f14 f15 f16 f17 f18 f19 f20 f21 f22 f23 f24) sz)) 0 0 (va_A (mX mm q jn cI x0 x1 x2 x3 x4 x5 x6 x7 x8 x9 x10 x11 x12 x13 x14 x15 x16 x17 x18 x19 x20 f0 f1 f2 f3 f4 f5 f6 f7 f8 f9 f10 f11 f12 f13 f14 f15 f16 f17 f18 f19 f20 f21 f22 f23 f24) sz) := by
  refine go (cc := cX11_add) (maxL := 10) (ret := (some .int)) (by decide) rfl (Nat.le_of_ble_eq_true rfl) ?_
  intro p e s m below meth c ls args Q hQ hsz hx hb hr hml hts hown hlocks hnm hP hK hD hl
  subst hsz
  have hD := hD.self (sz := s.heap.size)
  generalize hAe : va_A (mX mm q jn cI x0 x1 x2 x3 x4 x5 x6 x7 x8 x9 x10 x11 x12 x13 x14 x15 x16 x17 x18 x19 x20 f0 f1 f2 f3 f4 f5 f6 f7 f8 f9 f10 f11 f12 f13 f14 f15 f16 f17 f18 f19 f20 f21 f22 f23 f24) s.heap.size = A at hD hQ
  have hA : ∀ q, s.heap.size ≤ q → A q := fun q h => by rw [← hAe]; exact Or.inr h
  have hS : va_S A s.heap s.heap [] := va_S.rf
  have hl : lv_has ls 10 [(0, .ref mm), (1, .int a9), (2, .int b)] := hl
  refine lv_aload_n hx hb dX11_add_0 rfl (lv_at hl 0 rfl) ?_
  refine lv_iload_n hx hb dX11_add_1 rfl (lv_at hl 1 rfl) ?_
  refine roP (va_runV (As := [.int a9]) (rest := []) ⟨hx, hb, hml, hown, hts⟩ (k_rowOf3 l D cI cR cM _  (by first | assumption | omega) (by first | assumption | omega) (by first | assumption | omega)) (cwV 1 hts gX11_add_X11_rowOf rfl rfl rfl (by decide +kernel) ⟨Nat.le_of_ble_eq_true rfl, Nat.le_of_ble_eq_true rfl⟩) (pre_V hK hP hD 0 11 rfl rfl) rfl rfl hl.1 rfl (lv_room (Nat.le_of_ble_eq_true rfl)) dX11_add_2 ⟨Nat.le_of_ble_eq_true rfl, Nat.le_of_ble_eq_true rfl⟩) hS hA hP (fun r_1 H locs hw hP hS => ?_)
  obtain ⟨h_1, hle_1, hv_1⟩ : (r_1.toInt = -1 ∨ (IsRow jn f0 r_1.toInt ∧ ZX jn f0 (r_1.toInt + 1) (f0 r_1.toInt.toNat).toInt)) ∧ (r_1.toInt ≤ 150 * (8 * x1.toInt + 7)) ∧ ((¬ (0 ≤ a9.toInt ∧ a9.toInt < 8) ∧ r_1.toInt = -1) ∨ ((0 ≤ a9.toInt ∧ a9.toInt < 8) ∧ LatV f0 a9.toInt x1.toInt r_1.toInt)) := hw
  have hr9 : r_1.toInt = -1 ∨ 1 ≤ (f0 r_1.toInt.toNat).toInt := h_1.imp id (fun q9 => q9.1.2.2.1)
  have hr8 : r_1.toInt = -1 ∨ 0 ≤ r_1.toInt := h_1.imp id (fun q9 => q9.1.1)
  have hAt : (r_1.toInt = -1 ∧ (¬ (0 ≤ a9.toInt ∧ a9.toInt < 8) ∨ ((0 ≤ a9.toInt ∧ a9.toInt < 8) ∧ (Ev x1.toInt a9.toInt).1 = 0))) ∨ (0 ≤ r_1.toInt ∧ (0 ≤ a9.toInt ∧ a9.toInt < 8) ∧ 0 < (Ev x1.toInt a9.toInt).1 ∧ (Ev x1.toInt a9.toInt).1 = (f0 r_1.toInt.toNat).toInt ∧ RSo f0 (r_1.toInt + 1) (Ev x1.toInt a9.toInt).2 (f0 r_1.toInt.toNat).toInt ∧ ∀ i : Int, 0 ≤ i → i < 2 * (f0 r_1.toInt.toNat).toInt → (Ev x1.toInt a9.toInt).2 i ≤ 9) := by
    rcases hv_1 with ⟨q1, q2⟩ | ⟨q1, q2⟩
    · exact Or.inl ⟨q2, Or.inl q1⟩
    · rcases rf_at hEv hEO (by omega) q1 q2 hr9 hr8 with ⟨q3, q4⟩ | ⟨q3, q4⟩
      · exact Or.inl ⟨q3, Or.inr ⟨q1, q4⟩⟩
      · exact Or.inr ⟨q3, q1, q4⟩
  have hAt : Hd _ := hAt
  refine lv_istore_n (lv' := [(3, .int r_1), (0, .ref mm), (1, .int a9), (2, .int b)]) hx hb dX11_add_5 rfl hl (by decide) rfl (fun ls hl => ?_)
  refine lv_iload_n hx hb dX11_add_6 rfl (lv_at hl 3 rfl) ?_
  refine lv_iconst (v := 1) hx hb dX11_add_7 (by decide) ?_
  refine lv_bipush (v := 50) hx hb dX11_add_8 (by decide) ?_
  have hz_2 : (1 : Int32).toInt = 1 := by decide
  have hz_3 : (50 : Int32).toInt = 50 := by decide
  refine roP (va_runS (As := [.int b, .int 1, .int 50]) (rest := []) ⟨hx, hb, hml, hown, hts⟩ (k_isIn l D cI cR cM _  ) (va_cwS 3 hts gX11_add_X11_isIn rfl rfl rfl (by decide +kernel) ⟨Nat.le_of_ble_eq_true rfl, Nat.le_of_ble_eq_true rfl⟩) (pre_S hK va_P_nil (va_D_nil (A := fun _ => True))) rfl rfl hl.1 rfl (lv_room (Nat.le_of_ble_eq_true rfl)) dX11_add_10 ⟨Nat.le_of_ble_eq_true rfl, Nat.le_of_ble_eq_true rfl⟩) hS hA hP (fun r_4 H locs hw hP hS => ?_)
  have h_4 : ((r_4.toInt = 1 ∧ (1 : Int32).toInt ≤ b.toInt ∧ b.toInt ≤ (50 : Int32).toInt) ∨ (r_4.toInt = 0 ∧ (b.toInt < (1 : Int32).toInt ∨ (50 : Int32).toInt < b.toInt))) := hw
  refine a_if_eq (u := r_4.toInt) (tgt := 24) hx hb dX11_add_13 (by decide) (rfl) (fun c_5 => ?_) (fun c_5 => ?_)
  · refine lv_iconst (v := (-1)) hx hb dX11_add_24 (by decide) ?_
    have hz_6 : (-1 : Int32).toInt = (-1) := by decide
    exact g_iret ((-1 : Int32), x15, x16, x18, x19, x20, f12, f17, f18, f21, f22) hx hb hr hlocks hS rfl (⟨show 0 ≤ x18.toInt ∧ x18.toInt ≤ 300 from (by first | assumption | omega), show 0 < x18.toInt → ∃ S : Nat, S < 512 ∧ x20 = nI S ∧ (bc S : Int) = x19.toInt from (hsc), show ∀ j9 : Nat, j9 < 512 → f18 j9 = 0 from (hwt), show AddS (Ev x1.toInt a9.toInt) a9.toInt b.toInt x18.toInt x20 f21 f22 (-1 : Int32).toInt x18.toInt x20 f21 f22 from (Or.inr ⟨Or.inl (fun q9 => by have h8 := q9.2.2.2.2; omega), by decide, rfl, rfl, rfl, rfl⟩)⟩) hP hD hQ (Nat.le_of_ble_eq_true rfl) (Nat.le_of_ble_eq_true rfl) dX11_add_25
  · refine lv_aload_n hx hb dX11_add_16 rfl (lv_at hl 1 rfl) ?_
    refine lv_iload_n hx hb dX11_add_17 rfl (lv_at hl 0 rfl) ?_
    refine call_g (wr := []) (va_runV (As := [.int r_1]) (rest := []) ⟨hx, hb, hml, hown, hts⟩ (k_isPlainGood4 l D cI cR cM _  (by first | assumption | omega) (h_1) (by first | assumption | omega)) (cwV 1 hts gX11_add_X11_isPlainGood rfl rfl rfl (by decide +kernel) ⟨Nat.le_of_ble_eq_true rfl, Nat.le_of_ble_eq_true rfl⟩) (pre_V hK hP hD 0 11 rfl rfl) rfl rfl hl.1 rfl (lv_room (Nat.le_of_ble_eq_true rfl)) dX11_add_18 ⟨Nat.le_of_ble_eq_true rfl, Nat.le_of_ble_eq_true rfl⟩) hP hD hS hA [0, 1, 2, 3, 4, 5, 6, 7, 8, 9, 10, 11, 12, 13, 14, 15, 16, 17, 18, 19, 20, 21, 22, 23, 24, 25] [] (by with_unfolding_all rfl) rfl (by decide) (by decide) (fun u_7 H locs hw hP hD hS => ?_)
    obtain ⟨r_7, y15_7, y16_7, g12_7⟩ := u_7
    have hP : va_P D vwCl (mX mm q jn cI x0 x1 x2 x3 x4 x5 x6 x7 x8 x9 x10 x11 x12 x13 x14 y15_7 y16_7 x17 x18 x19 x20 f0 f1 f2 f3 f4 f5 f6 f7 f8 f9 f10 f11 g12_7 f13 f14 f15 f16 f17 f18 f19 f20 f21 f22 f23 f24) H := hP
    have hD : va_D A (mX mm q jn cI x0 x1 x2 x3 x4 x5 x6 x7 x8 x9 x10 x11 x12 x13 x14 y15_7 y16_7 x17 x18 x19 x20 f0 f1 f2 f3 f4 f5 f6 f7 f8 f9 f10 f11 g12_7 f13 f14 f15 f16 f17 f18 f19 f20 f21 f22 f23 f24) := hD
    obtain ⟨h_7, hg_7, hs_7, hG_7, hN_7⟩ : (r_7.toInt = 0 ∨ r_7.toInt = 1) ∧ (r_7.toInt = 1 → 0 ≤ r_1.toInt) ∧ (r_7.toInt = 1 → y16_7.toInt = cy_S f0 r_1.toInt (6 * (f0 r_1.toInt.toNat).toInt).toNat) ∧ (r_7.toInt = 1 → cy_G f0 r_1.toInt (f0 r_1.toInt.toNat).toInt ∧ (∀ i9 : Int, 0 ≤ i9 → i9 < (f0 r_1.toInt.toNat).toInt → cy_h f0 r_1.toInt (6 * i9 + 1) = 0)) ∧ (r_7.toInt = 0 → r_1.toInt = -1 ∨ ¬ (cy_G f0 r_1.toInt (f0 r_1.toInt.toNat).toInt ∧ (∀ i9 : Int, 0 ≤ i9 → i9 < (f0 r_1.toInt.toNat).toInt → cy_h f0 r_1.toInt (6 * i9 + 1) = 0))) := hw
    refine a_if_ne (u := r_7.toInt) (tgt := 26) hx hb dX11_add_21 (by decide) (rfl) (fun c_8 => ?_) (fun c_8 => ?_)
    · obtain ⟨hr0, hZ9⟩ := h_1.resolve_left (by omega)
      have hrow9 := hr0
      obtain ⟨hr1, hr2, hr3, hr4, hr5, hr6⟩ := hrow9
      have hge := hg_7 (by omega)
      obtain ⟨c0, c1, c2, c3, c4, c5⟩ := hAt.resolve_left (fun q9 => by have := q9.1; omega)
      have c4 : Hd _ := c4
      obtain ⟨hG9, hpl9⟩ := hG_7 (by omega)
      have hZ1 : ZX 1 f0 (r_1.toInt + 1) (f0 r_1.toInt.toNat).toInt := by have q9 := hZ9; rw [hj1] at q9; exact q9
      have hP9 : cy_P f0 r_1.toInt (f0 r_1.toInt.toNat).toInt := by have q9 := hr6; rw [hj1] at q9; exact cy_PP q9 hZ1 hpl9
      have hsum := hs_7 (by omega)
      have hba := cy_balls hr3 hr6 hP9 hG9
      have hsb := cy_Sb hr6 (6 * (f0 r_1.toInt.toNat).toInt).toNat (by omega)
      have hKK : scK (Ev x1.toInt a9.toInt) a9.toInt b.toInt := ⟨c1, c2, by rw [c3]; exact (pl_W c4).mp hpl9, by rw [c3]; exact (cy_GW c4 hZ1 (by omega)).mp hG9, by omega, by omega⟩
      refine lv_aload_n hx hb dX11_add_26 rfl (lv_at hl 1 rfl) ?_
      refine va_get (D := D) (ci := 11) (v := .int y16_7) (C := RX11) (T := TX11) (N := 47) hx hb hts (by decide +kernel) hown hK.1 hP 0 rfl rfl 29 (by decide) (hts (.fieldLink RX11 246 "JugglingHallModel" "sum" "I") (by decide +kernel)) (fun _ h9 => h9) rfl dX11_add_27 ?_
      refine lv_aload_n hx hb dX11_add_30 rfl (lv_at hl 1 rfl) ?_
      refine va_get (D := D) (ci := 11) (v := .ref (q 0)) (C := RX11) (T := TX11) (N := 47) hx hb hts (by decide +kernel) hown hK.1 hP 0 rfl rfl 1 (by decide) (hts (.fieldLink RX11 8 "JugglingHallModel" "rows" "[I") (by decide +kernel)) (fun _ h9 => h9) rfl dX11_add_31 ?_
      refine lv_iload_n hx hb dX11_add_34 rfl (lv_at hl 0 rfl) ?_
      refine a_iald (f := f0) (u := r_1.toInt) hx hb hK.1 hP 1 0 rfl rfl dX11_add_35 (rfl) (by omega) (fun z_9 q_9 e_9 => ?_)
      have hn9 : z_9.toInt = (f0 r_1.toInt.toNat).toInt := e_9
      refine a_idiv (u := y16_7.toInt) (v := z_9.toInt) hx hb dX11_add_36 (rfl) (rfl) (by omega) (fun z_10 e_10 => ?_)
      have hbl : z_10.toInt = bE (fun d9 => cy_a f0 r_1.toInt (f0 r_1.toInt.toNat).toInt (0 - d9)) := by rw [← hba, ← hsum, ← hn9]; exact e_10
      refine lv_istore (lv' := [(4, .int z_10), (3, .int r_1), (0, .ref mm), (1, .int a9), (2, .int b)]) hx hb dX11_add_37 hl (by decide) rfl (fun ls hl => ?_)
      refine lv_aload_n hx hb dX11_add_39 rfl (lv_at hl 2 rfl) ?_
      refine lv_iload_n hx hb dX11_add_40 rfl (lv_at hl 1 rfl) ?_
      refine lv_iconst (v := 0) hx hb dX11_add_41 (by decide) ?_
      have hz_11 : (0 : Int32).toInt = 0 := by decide
      refine roP (va_runV (As := [.int r_1, .int 0]) (rest := []) ⟨hx, hb, hml, hown, hts⟩ (k_stateOf3 l D cI cR cM _ (w := (Ev x1.toInt a9.toInt).2) (by first | assumption | omega) (hr0) (by rw [show (0 : Int32).toInt = 0 by decide]; omega) (c4) (c5)) (cwV 2 hts gX11_add_X11_stateOf rfl rfl rfl (by decide +kernel) ⟨Nat.le_of_ble_eq_true rfl, Nat.le_of_ble_eq_true rfl⟩) (pre_V hK hP hD 0 11 rfl rfl) rfl rfl hl.1 rfl (lv_room (Nat.le_of_ble_eq_true rfl)) dX11_add_42 ⟨Nat.le_of_ble_eq_true rfl, Nat.le_of_ble_eq_true rfl⟩) hS hA hP (fun r_12 H locs hw hP hS => ?_)
      have hM_12 : (∃ M9 : Nat, r_12 = nI M9 ∧ StM (Ev x1.toInt a9.toInt).2 (f0 r_1.toInt.toNat).toInt (0 : Int32).toInt M9) := hw
      obtain ⟨M0, hM2, hM4⟩ := hM_12
      have hM1 := hM4.1
      have hM3 : (bc M0 : Int) = bE (fun d9 => cy_a f0 r_1.toInt (f0 r_1.toInt.toNat).toInt (0 - d9)) := by
        rw [← zt_9 _ (fun d => (cy_ab hr3 hr6).2)]
        refine StM_bc (w := (Ev x1.toInt a9.toInt).2) (n := (f0 r_1.toInt.toNat).toInt) hM4 (fun d => ?_) (fun d => (cy_ab hr3 hr6).2) (fun k9 hk9 => cy_zs hr3 hr6 hP9 hG9 k9 hk9)
        have q1 := (rh_1 c4 (i := (0 - d) % (f0 r_1.toInt.toNat).toInt) (x := 0) (Int.emod_nonneg _ (by omega)) (Int.emod_lt_of_pos _ (by omega)) (by omega) (by omega)).1
        rw [Int.add_zero, Int.add_zero] at q1
        exact q1
      have hM4 : StM (Ev x1.toInt a9.toInt).2 (Ev x1.toInt a9.toInt).1 0 M0 := by rw [c3]; exact hM4
      refine lv_istore (lv' := [(5, .int r_12), (4, .int z_10), (3, .int r_1), (0, .ref mm), (1, .int a9), (2, .int b)]) hx hb dX11_add_45 hl (by decide) rfl (fun ls hl => ?_)
      refine lv_iconst (v := 0) hx hb dX11_add_47 (by decide) ?_
      refine lv_istore (lv' := [(6, .int 0), (5, .int r_12), (4, .int z_10), (3, .int r_1), (0, .ref mm), (1, .int a9), (2, .int b)]) hx hb dX11_add_48 hl (by decide) rfl (fun ls hl => ?_)
      refine lv_aload_n hx hb dX11_add_50 rfl (lv_at hl 4 rfl) ?_
      refine va_get (D := D) (ci := 11) (v := .int x18) (C := RX11) (T := TX11) (N := 47) hx hb hts (by decide +kernel) hown hK.1 hP 0 rfl rfl 42 (by decide) (hts (.fieldLink RX11 310 "JugglingHallModel" "scored" "I") (by decide +kernel)) (fun _ h9 => h9) rfl dX11_add_51 ?_
      refine a_if_le (u := x18.toInt) (tgt := 85) hx hb dX11_add_54 (by decide) (rfl) (fun c_13 => ?_) (fun c_13 => ?_)
      · have hlen : (([] : List Nat).length : Int) = 0 := by rfl
        refine lv_aload_n hx hb dX11_add_85 rfl (lv_at hl 4 rfl) ?_
        refine va_get (D := D) (ci := 11) (v := .int x18) (C := RX11) (T := TX11) (N := 47) hx hb hts (by decide +kernel) hown hK.1 hP 0 rfl rfl 42 (by decide) (hts (.fieldLink RX11 310 "JugglingHallModel" "scored" "I") (by decide +kernel)) (fun _ h9 => h9) rfl dX11_add_86 ?_
        refine lv_iload hx hb dX11_add_89 (lv_at hl 0 rfl) ?_
        refine a_iadd (u := x18.toInt) (v := 0) hx hb dX11_add_91 (rfl) (by decide) (by omega) (fun z_14 e_14 => ?_)
        refine lv_iload_n hx hb dX11_add_92 rfl (lv_at hl 6 rfl) ?_
        refine lv_aload_n hx hb dX11_add_93 rfl (lv_at hl 4 rfl) ?_
        refine va_get (D := D) (ci := 11) (v := .ref (q 0)) (C := RX11) (T := TX11) (N := 47) hx hb hts (by decide +kernel) hown hK.1 hP 0 rfl rfl 1 (by decide) (hts (.fieldLink RX11 8 "JugglingHallModel" "rows" "[I") (by decide +kernel)) (fun _ h9 => h9) rfl dX11_add_94 ?_
        refine lv_iload_n hx hb dX11_add_97 rfl (lv_at hl 3 rfl) ?_
        refine a_iald (f := f0) (u := r_1.toInt) hx hb hK.1 hP 1 0 rfl rfl dX11_add_98 (rfl) (by omega) (fun z_15 q_15 e_15 => ?_)
        have hN_15 : z_15.toInt = (f0 r_1.toInt.toNat).toInt := e_15
        have hmA16 : b.toInt * z_15.toInt = b.toInt * (f0 r_1.toInt.toNat).toInt := by rw [show z_15.toInt = (f0 r_1.toInt.toNat).toInt by omega]
        have hmB16 := mulB (a := b.toInt) (b := (f0 r_1.toInt.toNat).toInt) (by omega) (by omega)
        refine a_imul (u := b.toInt) (v := z_15.toInt) hx hb dX11_add_99 (rfl) (rfl) (by omega) (fun z_17 e_17 => ?_)
        refine a_iadd (u := (x18.toInt + 0)) (v := (b.toInt * z_15.toInt)) hx hb dX11_add_100 (e_14) (e_17) (by omega) (fun z_18 e_18 => ?_)
        refine lv_sipush (v := 300) hx hb dX11_add_101 (by decide) ?_
        refine a_icmp_le (u := ((x18.toInt + 0) + (b.toInt * z_15.toInt))) (v := 300) (tgt := 109) hx hb dX11_add_104 (by decide) (e_18) (by decide) (fun c_19 => ?_) (fun c_19 => ?_)
        · refine lv_aload_n hx hb dX11_add_109 rfl (lv_at hl 4 rfl) ?_
          refine va_get (D := D) (ci := 11) (v := .int x20) (C := RX11) (T := TX11) (N := 47) hx hb hts (by decide +kernel) hown hK.1 hP 0 rfl rfl 44 (by decide) (hts (.fieldLink RX11 316 "JugglingHallModel" "scoreState" "I") (by decide +kernel)) (fun _ h9 => h9) rfl dX11_add_110 ?_
          refine lv_istore (lv' := [(7, .int x20), (6, .int 0), (5, .int r_12), (4, .int z_10), (3, .int r_1), (0, .ref mm), (1, .int a9), (2, .int b)]) hx hb dX11_add_113 hl (by decide) rfl (fun ls hl => ?_)
          refine lv_iconst (v := 0) hx hb dX11_add_115 (by decide) ?_
          refine lv_istore (lv' := [(8, .int 0), (7, .int x20), (6, .int 0), (5, .int r_12), (4, .int z_10), (3, .int r_1), (0, .ref mm), (1, .int a9), (2, .int b)]) hx hb dX11_add_116 hl (by decide) rfl (fun ls hl => ?_)
          have loop118 : ∀ (ddloop118 : Nat) (k : Int32) (H : Heap) (locs : List Loc) (ls : Array Slot), (10 - k.toInt).toNat < ddloop118 → (k.toInt = 0) → va_P D vwCl (mX mm q jn cI x0 x1 x2 x3 x4 x5 x6 x7 x8 x9 x10 x11 x12 x13 x14 y15_7 y16_7 x17 x18 x19 x20 f0 f1 f2 f3 f4 f5 f6 f7 f8 f9 f10 f11 g12_7 f13 f14 f15 f16 f17 f18 f19 f20 f21 f22 f23 f24) H → va_D A (mX mm q jn cI x0 x1 x2 x3 x4 x5 x6 x7 x8 x9 x10 x11 x12 x13 x14 y15_7 y16_7 x17 x18 x19 x20 f0 f1 f2 f3 f4 f5 f6 f7 f8 f9 f10 f11 g12_7 f13 f14 f15 f16 f17 f18 f19 f20 f21 f22 f23 f24) → va_S A s.heap H locs → lv_has ls 10 [(0, .ref mm), (1, .int a9), (2, .int b), (3, .int r_1), (4, .int z_10), (5, .int r_12), (6, .int 0), (7, .int x20), (8, .int k)] → W p l e ({ frames := 4, cells := 0, slots := 0, locals := 91 }) s m args below meth c H locs 0 0 Q (F0 m 118 ls []) := by
            intro ddloop118
            induction ddloop118 with
            | zero =>
              intro k H locs ls hdd
              exact absurd hdd (Nat.not_lt_zero _)
            | succ ddloop118 ih118 =>
              intro k H locs ls hdd hk hP hD hS hl
              refine lv_iload hx hb dX11_add_118 (lv_at hl 8 rfl) ?_
              refine lv_iload hx hb dX11_add_120 (lv_at hl 6 rfl) ?_
              refine a_icmp_ge (u := k.toInt) (v := 0) (tgt := 155) hx hb dX11_add_122 (by decide) (rfl) (by decide) (fun c_20 => ?_) (fun c_20 => absurd c_20 (by omega))
              refine lv_iconst (v := 0) hx hb dX11_add_155 (by decide) ?_
              refine lv_istore (lv' := [(8, .int 0), (0, .ref mm), (1, .int a9), (2, .int b), (3, .int r_1), (4, .int z_10), (5, .int r_12), (6, .int 0), (7, .int x20)]) hx hb dX11_add_156 hl (by decide) rfl (fun ls hl => ?_)
              have loop158 : ∀ (ddloop158 : Nat) (k2 : Int32) (b18 : Int32) (gc : (Nat → Int32)) (gd : (Nat → Int32)) (H : Heap) (locs : List Loc) (ls : Array Slot), (1300 - k2.toInt).toNat < ddloop158 → (0 ≤ k2.toInt ∧ k2.toInt ≤ b.toInt * (f0 r_1.toInt.toNat).toInt) → (b18.toInt = x18.toInt + 0 + k2.toInt) → (ScP f21 f22 gc gd x18.toInt (0 + k2.toInt) (scV (Ev x1.toInt a9.toInt).2 (Ev x1.toInt a9.toInt).1 ([] : List Nat)) (scX a9.toInt ([] : List Nat))) → va_P D vwCl (mX mm q jn cI x0 x1 x2 x3 x4 x5 x6 x7 x8 x9 x10 x11 x12 x13 x14 y15_7 y16_7 x17 b18 x19 x20 f0 f1 f2 f3 f4 f5 f6 f7 f8 f9 f10 f11 g12_7 f13 f14 f15 f16 f17 f18 f19 f20 gc gd f23 f24) H → va_D A (mX mm q jn cI x0 x1 x2 x3 x4 x5 x6 x7 x8 x9 x10 x11 x12 x13 x14 y15_7 y16_7 x17 b18 x19 x20 f0 f1 f2 f3 f4 f5 f6 f7 f8 f9 f10 f11 g12_7 f13 f14 f15 f16 f17 f18 f19 f20 gc gd f23 f24) → va_S A s.heap H locs → lv_has ls 10 [(0, .ref mm), (1, .int a9), (2, .int b), (3, .int r_1), (4, .int z_10), (5, .int r_12), (6, .int 0), (7, .int x20), (8, .int k2)] → W p l e ({ frames := 4, cells := 0, slots := 0, locals := 91 }) s m args below meth c H locs 0 0 Q (F0 m 158 ls []) := by
                intro ddloop158
                induction ddloop158 with
                | zero =>
                  intro k2 b18 gc gd H locs ls hdd
                  exact absurd hdd (Nat.not_lt_zero _)
                | succ ddloop158 ih158 =>
                  intro k2 b18 gc gd H locs ls hdd hk2 hb18 hsQ hP hD hS hl
                  refine lv_iload hx hb dX11_add_158 (lv_at hl 8 rfl) ?_
                  refine lv_iload_n hx hb dX11_add_160 rfl (lv_at hl 2 rfl) ?_
                  refine lv_aload_n hx hb dX11_add_161 rfl (lv_at hl 0 rfl) ?_
                  refine va_get (D := D) (ci := 11) (v := .ref (q 0)) (C := RX11) (T := TX11) (N := 47) hx hb hts (by decide +kernel) hown hK.1 hP 0 rfl rfl 1 (by decide) (hts (.fieldLink RX11 8 "JugglingHallModel" "rows" "[I") (by decide +kernel)) (fun _ h9 => h9) rfl dX11_add_162 ?_
                  refine lv_iload_n hx hb dX11_add_165 rfl (lv_at hl 3 rfl) ?_
                  refine a_iald (f := f0) (u := r_1.toInt) hx hb hK.1 hP 1 0 rfl rfl dX11_add_166 (rfl) (by omega) (fun z_21 q_21 e_21 => ?_)
                  have hN_21 : z_21.toInt = (f0 r_1.toInt.toNat).toInt := e_21
                  have hmA22 : b.toInt * z_21.toInt = b.toInt * (f0 r_1.toInt.toNat).toInt := by rw [show z_21.toInt = (f0 r_1.toInt.toNat).toInt by omega]
                  have hmB22 := mulB (a := b.toInt) (b := (f0 r_1.toInt.toNat).toInt) (by omega) (by omega)
                  refine a_imul (u := b.toInt) (v := z_21.toInt) hx hb dX11_add_167 (rfl) (rfl) (by omega) (fun z_23 e_23 => ?_)
                  refine a_icmp_ge (u := k2.toInt) (v := (b.toInt * z_21.toInt)) (tgt := 198) hx hb dX11_add_168 (by decide) (rfl) (e_23) (fun c_24 => ?_) (fun c_24 => ?_)
                  · refine lv_aload_n hx hb dX11_add_198 rfl (lv_at hl 0 rfl) ?_
                    refine lv_iload hx hb dX11_add_199 (lv_at hl 4 rfl) ?_
                    refine mp_19 hx hb hts (by decide +kernel) hown hK hP hD hS (hts (.fieldLink RX11 313 "JugglingHallModel" "scoreBalls" "I") (by decide +kernel)) dX11_add_201 (fun H locs hP hD hS => ?_)
                    refine lv_aload_n hx hb dX11_add_204 rfl (lv_at hl 0 rfl) ?_
                    refine lv_iload hx hb dX11_add_205 (lv_at hl 5 rfl) ?_
                    refine mp_20 hx hb hts (by decide +kernel) hown hK hP hD hS (hts (.fieldLink RX11 316 "JugglingHallModel" "scoreState" "I") (by decide +kernel)) dX11_add_207 (fun H locs hP hD hS => ?_)
                    refine lv_aload_n hx hb dX11_add_210 rfl (lv_at hl 0 rfl) ?_
                    refine va_get (D := D) (ci := 11) (v := .int b18) (C := RX11) (T := TX11) (N := 47) hx hb hts (by decide +kernel) hown hK.1 hP 0 rfl rfl 42 (by decide) (hts (.fieldLink RX11 310 "JugglingHallModel" "scored" "I") (by decide +kernel)) (fun _ h9 => h9) rfl dX11_add_211 ?_
                    exact g_iret (b18, y15_7, y16_7, b18, z_10, r_12, g12_7, f17, f18, gc, gd) hx hb hr hlocks hS rfl (⟨show 0 ≤ b18.toInt ∧ b18.toInt ≤ 300 from (by first | assumption | omega), show 0 < b18.toInt → ∃ S : Nat, S < 512 ∧ r_12 = nI S ∧ (bc S : Int) = z_10.toInt from (fun _ => ⟨M0, hM1, hM2, by omega⟩), show ∀ j9 : Nat, j9 < 512 → f18 j9 = 0 from (hwt), show AddS (Ev x1.toInt a9.toInt) a9.toInt b.toInt x18.toInt x20 f21 f22 b18.toInt b18.toInt r_12 gc gd from (Or.inl ⟨M0, ([] : List Nat), hKK, hM4, Or.inl ⟨by omega, rfl⟩, by rw [c3, hlen]; omega, by rw [c3, hlen]; omega, rfl, hM2, by rw [show (([] : List Nat).length : Int) + b.toInt * (Ev x1.toInt a9.toInt).1 = 0 + k2.toInt by rw [c3, hlen]; omega]; exact hsQ⟩)⟩) hP hD hQ (Nat.le_of_ble_eq_true rfl) (Nat.le_of_ble_eq_true rfl) dX11_add_214
                  · refine lv_aload_n hx hb dX11_add_171 rfl (lv_at hl 0 rfl) ?_
                    refine lv_aload_n hx hb dX11_add_172 rfl (lv_at hl 0 rfl) ?_
                    refine lv_iload_n hx hb dX11_add_173 rfl (lv_at hl 3 rfl) ?_
                    refine lv_iload hx hb dX11_add_174 (lv_at hl 8 rfl) ?_
                    refine lv_aload_n hx hb dX11_add_176 rfl (lv_at hl 0 rfl) ?_
                    refine va_get (D := D) (ci := 11) (v := .ref (q 0)) (C := RX11) (T := TX11) (N := 47) hx hb hts (by decide +kernel) hown hK.1 hP 0 rfl rfl 1 (by decide) (hts (.fieldLink RX11 8 "JugglingHallModel" "rows" "[I") (by decide +kernel)) (fun _ h9 => h9) rfl dX11_add_177 ?_
                    refine lv_iload_n hx hb dX11_add_180 rfl (lv_at hl 3 rfl) ?_
                    refine a_iald (f := f0) (u := r_1.toInt) hx hb hK.1 hP 1 0 rfl rfl dX11_add_181 (rfl) (by omega) (fun z_25 q_25 e_25 => ?_)
                    have hN_25 : z_25.toInt = (f0 r_1.toInt.toNat).toInt := e_25
                    refine a_irem (u := k2.toInt) (v := z_25.toInt) hx hb dX11_add_182 (rfl) (rfl) (by omega) (fun z_26 e_26 h_26 k_26 => ?_)
                    refine lv_iconst (v := 0) hx hb dX11_add_183 (by decide) ?_
                    refine lv_iconst (v := 0) hx hb dX11_add_184 (by decide) ?_
                    have hz_27 : (0 : Int32).toInt = 0 := by decide
                    have hz_28 : (0 : Int32).toInt = 0 := by decide
                    refine roP (va_runV (As := [.int r_1, .int z_26, .int 0, .int 0]) (rest := [.ref mm]) ⟨hx, hb, hml, hown, hts⟩ (k_heightAt2 l D cI cR cM _  (by first | assumption | omega) (hr0) (by first | assumption | omega) (by first | assumption | omega) (by first | assumption | omega)) (cwV 4 hts gX11_add_X11_heightAt rfl rfl rfl (by decide +kernel) ⟨Nat.le_of_ble_eq_true rfl, Nat.le_of_ble_eq_true rfl⟩) (pre_V hK hP hD 0 11 rfl rfl) rfl rfl hl.1 rfl (lv_room (Nat.le_of_ble_eq_true rfl)) dX11_add_185 ⟨Nat.le_of_ble_eq_true rfl, Nat.le_of_ble_eq_true rfl⟩) hS hA hP (fun r_29 H locs hw hP hS => ?_)
                    obtain ⟨h_29, hx_29⟩ : (0 ≤ r_29.toInt ∧ r_29.toInt ≤ 9) ∧ (r_29.toInt = (f0 (r_1.toInt + 1 + 6 * z_26.toInt + 2 * (0 : Int32).toInt + (0 : Int32).toInt).toNat).toInt / 4) := hw
                    have hhv : r_29.toInt = (Ev x1.toInt a9.toInt).2 (2 * (k2.toInt % (Ev x1.toInt a9.toInt).1)) := by
                      have q1 := (rh_1 c4 (i := k2.toInt % (f0 r_1.toInt.toNat).toInt) (x := 0) (Int.emod_nonneg _ (by omega)) (Int.emod_lt_of_pos _ (by omega)) (by omega) (by omega)).1
                      rw [Int.add_zero, Int.add_zero] at q1
                      rw [c3, ← q1, hx_29]
                      unfold cy_h
                      congr 3
                      have z9 := z32
                      have q2 : z_26.toInt = k2.toInt % (f0 r_1.toInt.toNat).toInt := by rw [← hN_25]; exact e_26
                      rw [← q2]
                      omega
                    refine lv_iload_n hx hb dX11_add_188 rfl (lv_at hl 1 rfl) ?_
                    refine call_g (wr := []) (va_runV (As := [.int r_29, .int a9]) (rest := []) ⟨hx, hb, hml, hown, hts⟩ (k_note3 l D cI cR cM _  (by first | assumption | omega)) (cwV 2 hts gX11_add_X11_note rfl rfl rfl (by decide +kernel) ⟨Nat.le_of_ble_eq_true rfl, Nat.le_of_ble_eq_true rfl⟩) (pre_V hK hP hD 0 11 rfl rfl) rfl rfl hl.1 rfl (lv_room (Nat.le_of_ble_eq_true rfl)) dX11_add_189 ⟨Nat.le_of_ble_eq_true rfl, Nat.le_of_ble_eq_true rfl⟩) hP hD hS hA [0, 1, 2, 3, 4, 5, 6, 7, 8, 9, 10, 11, 12, 13, 14, 15, 16, 17, 18, 19, 20, 21, 22, 23, 24, 25] [] (by with_unfolding_all rfl) rfl (by decide) (by decide) (fun u_30 H locs hw hP hD hS => ?_)
                    obtain ⟨y18_30, g21_30, g22_30⟩ := u_30
                    have hP : va_P D vwCl (mX mm q jn cI x0 x1 x2 x3 x4 x5 x6 x7 x8 x9 x10 x11 x12 x13 x14 y15_7 y16_7 x17 y18_30 x19 x20 f0 f1 f2 f3 f4 f5 f6 f7 f8 f9 f10 f11 g12_7 f13 f14 f15 f16 f17 f18 f19 f20 g21_30 g22_30 f23 f24) H := hP
                    have hD : va_D A (mX mm q jn cI x0 x1 x2 x3 x4 x5 x6 x7 x8 x9 x10 x11 x12 x13 x14 y15_7 y16_7 x17 y18_30 x19 x20 f0 f1 f2 f3 f4 f5 f6 f7 f8 f9 f10 f11 g12_7 f13 f14 f15 f16 f17 f18 f19 f20 g21_30 g22_30 f23 f24) := hD
                    obtain ⟨h_30, hp_30⟩ : (y18_30.toInt = b18.toInt + 1) ∧ (ScP gc gd g21_30 g22_30 b18.toInt 1 (fun _ => r_29.toInt) (fun _ => a9.toInt)) := hw
                    obtain ⟨z_31, q_31, e_31⟩ := i_inc (a := k2.toInt) (1) (rfl) (by decide) (by omega) (by omega)
                    refine lv_iinc (v := z_31) (lv' := [(8, .int z_31), (0, .ref mm), (1, .int a9), (2, .int b), (3, .int r_1), (4, .int z_10), (5, .int r_12), (6, .int 0), (7, .int x20)]) hx hb dX11_add_192 hl (k := 8) rfl q_31 (by decide) rfl (fun ls hl => ?_)
                    refine lv_goto (tgt := 158) hx hb dX11_add_195 (by decide) ?_
                    exact ih158 z_31 y18_30 g21_30 g22_30 _ _ _ (by omega) (by first | assumption | omega) (by first | assumption | omega) (ScP_tr hsQ hp_30 (by omega) (by omega) (by omega) (by omega) (fun i9 h8 h9 => by
                      have q8 := scV_3 (w := (Ev x1.toInt a9.toInt).2) (m := (Ev x1.toInt a9.toInt).1) (x := a9.toInt) (hs := ([] : List Nat)) (k := k2.toInt) (by omega)
                      rw [show i9 = 0 by omega, Int.add_zero, show 0 + k2.toInt = (([] : List Nat).length : Int) + k2.toInt by rw [hlen], q8.1, q8.2]
                      exact ⟨hhv, rfl⟩)) hP hD hS (lv_sub hl [1, 2, 3, 4, 5, 6, 7, 8, 0] rfl)
              have hz_32 : (0 : Int32).toInt = 0 := by decide
              exact loop158 ((1300 - (0 : Int32).toInt).toNat + 1) (0 : Int32) x18 f21 f22 _ _ _ (by omega) (by first | assumption | omega) (by first | assumption | omega) (ScP_0 (by rw [show (0 : Int32).toInt = 0 by decide]; omega)) hP hD hS (lv_sub hl [1, 2, 3, 4, 5, 6, 7, 8, 0] rfl)
          have hz_33 : (0 : Int32).toInt = 0 := by decide
          exact loop118 ((10 - (0 : Int32).toInt).toNat + 1) (0 : Int32) _ _ _ (by omega) (by first | assumption | omega) hP hD hS (lv_sub hl [6, 7, 8, 5, 4, 3, 2, 1, 0] rfl)
        · refine lv_iconst (v := (-1)) hx hb dX11_add_107 (by decide) ?_
          have hz_34 : (-1 : Int32).toInt = (-1) := by decide
          exact g_iret ((-1 : Int32), y15_7, y16_7, x18, x19, x20, g12_7, f17, f18, f21, f22) hx hb hr hlocks hS rfl (⟨show 0 ≤ x18.toInt ∧ x18.toInt ≤ 300 from (by first | assumption | omega), show 0 < x18.toInt → ∃ S : Nat, S < 512 ∧ x20 = nI S ∧ (bc S : Int) = x19.toInt from (hsc), show ∀ j9 : Nat, j9 < 512 → f18 j9 = 0 from (hwt), show AddS (Ev x1.toInt a9.toInt) a9.toInt b.toInt x18.toInt x20 f21 f22 (-1 : Int32).toInt x18.toInt x20 f21 f22 from (Or.inr ⟨Or.inr ⟨hKK, M0, hM4, Or.inr ⟨([] : List Nat), Or.inl ⟨by omega, rfl⟩, by rw [c3, hlen]; omega⟩⟩, by decide, rfl, rfl, rfl, rfl⟩)⟩) hP hD hQ (Nat.le_of_ble_eq_true rfl) (Nat.le_of_ble_eq_true rfl) dX11_add_108
      · refine lv_iload hx hb dX11_add_57 (lv_at hl 2 rfl) ?_
        refine lv_aload_n hx hb dX11_add_59 rfl (lv_at hl 4 rfl) ?_
        refine va_get (D := D) (ci := 11) (v := .int x19) (C := RX11) (T := TX11) (N := 47) hx hb hts (by decide +kernel) hown hK.1 hP 0 rfl rfl 43 (by decide) (hts (.fieldLink RX11 313 "JugglingHallModel" "scoreBalls" "I") (by decide +kernel)) (fun _ h9 => h9) rfl dX11_add_60 ?_
        refine a_icmp_eq (u := (y16_7.toInt / z_9.toInt)) (v := x19.toInt) (tgt := 68) hx hb dX11_add_63 (by decide) (e_10) (rfl) (fun c_35 => ?_) (fun c_35 => ?_)
        · refine lv_aload_n hx hb dX11_add_68 rfl (lv_at hl 4 rfl) ?_
          refine lv_iload hx hb dX11_add_69 (lv_at hl 1 rfl) ?_
          refine lv_eqi (y := nI M0) hM2 ?_
          have hPc := hP.sub (ws' := [(mm, .inr (11, mXF q jn x0 x1 x2 x3 x4 x5 x6 x7 x8 x9 x10 x11 x12 x13 x14 y15_7 y16_7 x17 x18 x19 x20)), (q 17, .inl (cI, 512, .inl f17)), (q 18, .inl (cI, 512, .inl f18))]) [0, 18, 19] (by with_unfolding_all rfl)
          have hDc := hD.sub (ws' := [(mm, .inr (11, mXF q jn x0 x1 x2 x3 x4 x5 x6 x7 x8 x9 x10 x11 x12 x13 x14 y15_7 y16_7 x17 x18 x19 x20)), (q 17, .inl (cI, 512, .inl f17)), (q 18, .inl (cI, 512, .inl f18))]) [0, 18, 19] (by decide) (by with_unfolding_all rfl)
          refine call_g (wr := [(q 0, .inl (cI, 73200, .inl f0)), (q 1, .inl (cI, 488, .inl f1)), (q 2, .inl (cI, 300, .inl f2)), (q 3, .inl (cI, 2400, .inl f3)), (q 4, .inl (cI, 6, .inl f4)), (q 5, .inl (cI, 6, .inl f5)), (q 6, .inl (cI, 7, .inl f6)), (q 7, .inl (cI, 144, .inl f7)), (q 8, .inl (cI, 8, .inl f8)), (q 9, .inl (cI, 1152, .inl f9)), (q 10, .inl (cI, 8, .inl f10)), (q 11, .inl (cI, 8, .inl f11)), (q 12, .inl (cI, 72, .inl g12_7)), (q 13, .inl (cI, 144, .inl f13)), (q 14, .inl (cI, 144, .inl f14)), (q 15, .inl (cI, 144, .inl f15)), (q 16, .inl (cI, 6, .inl f16)), (q 19, .inl (cI, 11, .inl f19)), (q 20, .inl (cI, 11, .inl f20)), (q 21, .inl (cI, 300, .inl f21)), (q 22, .inl (cI, 300, .inl f22)), (q 23, .inl (cI, 8, .inl f23)), (q 24, .inl (cI, 8, .inl f24))]) (va_runV (As := [.int (nI M0)]) (rest := []) ⟨hx, hb, hml, hown, hts⟩ (c_reach l D cI cR cM _ hM1 mm (mXF q jn x0 x1 x2 x3 x4 x5 x6 x7 x8 x9 x10 x11 x12 x13 x14 y15_7 y16_7 x17 x18 x19 x20) (q 17) (q 18) rfl rfl f17 f18 hwt) (cwV 1 hts gX11_add_X11_reach rfl rfl rfl (by decide +kernel) ⟨Nat.le_of_ble_eq_true rfl, Nat.le_of_ble_eq_true rfl⟩) (pre_V hK hPc hDc 0 11 rfl rfl) rfl rfl hl.1 rfl (lv_room (Nat.le_of_ble_eq_true rfl)) dX11_add_71 ⟨Nat.le_of_ble_eq_true rfl, Nat.le_of_ble_eq_true rfl⟩) hP hD hS hA [0, 18, 19] [1, 2, 3, 4, 5, 6, 7, 8, 9, 10, 11, 12, 13, 14, 15, 16, 17, 20, 21, 22, 23, 24, 25] (by with_unfolding_all rfl) (by with_unfolding_all rfl) (by decide) (by decide) (fun u_36 H locs hw hP hD hS => ?_)
          obtain ⟨far9, wt9⟩ := u_36
          obtain ⟨hFF, hwt9⟩ : FF M0 far9 ∧ ∀ j, j < 512 → wt9 j = 0 := hw
          have hP : va_P D vwCl (mX mm q jn cI x0 x1 x2 x3 x4 x5 x6 x7 x8 x9 x10 x11 x12 x13 x14 y15_7 y16_7 x17 x18 x19 x20 f0 f1 f2 f3 f4 f5 f6 f7 f8 f9 f10 f11 g12_7 f13 f14 f15 f16 far9 wt9 f19 f20 f21 f22 f23 f24) H := hP.sub [23, 0, 1, 2, 3, 4, 5, 6, 7, 8, 9, 10, 11, 12, 13, 14, 15, 16, 24, 25, 17, 18, 19, 20, 21, 22] (by with_unfolding_all rfl)
          have hD : va_D A (mX mm q jn cI x0 x1 x2 x3 x4 x5 x6 x7 x8 x9 x10 x11 x12 x13 x14 y15_7 y16_7 x17 x18 x19 x20 f0 f1 f2 f3 f4 f5 f6 f7 f8 f9 f10 f11 g12_7 f13 f14 f15 f16 far9 wt9 f19 f20 f21 f22 f23 f24) := hD.sub [23, 0, 1, 2, 3, 4, 5, 6, 7, 8, 9, 10, 11, 12, 13, 14, 15, 16, 24, 25, 17, 18, 19, 20, 21, 22] (by decide) (by with_unfolding_all rfl)
          obtain ⟨S9, hS1, hS2, hS3⟩ := hsc (by omega)
          obtain ⟨m9, hm1, hm2⟩ := FF_ge hFF hS1 hM1 (by omega)
          have hx20 : x20.toInt = (S9 : Int) := by rw [hS2]; exact nI_toInt (by omega)
          obtain ⟨ls9, hq1, hq2, hq3⟩ := hFF.path m9 S9 hS1 hm1 hm2
          obtain ⟨ls9, hq1, hq2, hq3⟩ := hFF.way hS1 hm1 hm2
          have hsW : scW x20 x18.toInt M0 ls9 := Or.inr ⟨by omega, S9, hS1, hS2, hq3⟩
          refine lv_aload_n hx hb dX11_add_74 rfl (lv_at hl 4 rfl) ?_
          refine va_get (D := D) (ci := 11) (v := .ref (q 17)) (C := RX11) (T := TX11) (N := 47) hx hb hts (by decide +kernel) hown hK.1 hP 0 rfl rfl 36 (by decide) (hts (.fieldLink RX11 69 "JugglingHallModel" "far" "[I") (by decide +kernel)) (fun _ h9 => h9) rfl dX11_add_75 ?_
          refine lv_aload_n hx hb dX11_add_78 rfl (lv_at hl 4 rfl) ?_
          refine va_get (D := D) (ci := 11) (v := .int x20) (C := RX11) (T := TX11) (N := 47) hx hb hts (by decide +kernel) hown hK.1 hP 0 rfl rfl 44 (by decide) (hts (.fieldLink RX11 316 "JugglingHallModel" "scoreState" "I") (by decide +kernel)) (fun _ h9 => h9) rfl dX11_add_79 ?_
          refine a_iald (f := far9) (u := x20.toInt) hx hb hK.1 hP 18 0 rfl rfl dX11_add_82 (rfl) (by omega) (fun z_37 q_37 e_37 => ?_)
          have hz9 : z_37.toInt = (m9 : Int) := by rw [q_37, hx20, Int.toNat_natCast, hm2]; exact nI_toInt (by omega)
          refine lv_istore (lv' := [(6, .int z_37), (5, .int r_12), (4, .int z_10), (3, .int r_1), (0, .ref mm), (1, .int a9), (2, .int b)]) hx hb dX11_add_83 hl (by decide) rfl (fun ls hl => ?_)
          have hlen : (ls9.length : Int) = z_37.toInt := by omega
          refine lv_aload_n hx hb dX11_add_85 rfl (lv_at hl 4 rfl) ?_
          refine va_get (D := D) (ci := 11) (v := .int x18) (C := RX11) (T := TX11) (N := 47) hx hb hts (by decide +kernel) hown hK.1 hP 0 rfl rfl 42 (by decide) (hts (.fieldLink RX11 310 "JugglingHallModel" "scored" "I") (by decide +kernel)) (fun _ h9 => h9) rfl dX11_add_86 ?_
          refine lv_iload hx hb dX11_add_89 (lv_at hl 0 rfl) ?_
          refine a_iadd (u := x18.toInt) (v := z_37.toInt) hx hb dX11_add_91 (rfl) (rfl) (by omega) (fun z_38 e_38 => ?_)
          refine lv_iload_n hx hb dX11_add_92 rfl (lv_at hl 6 rfl) ?_
          refine lv_aload_n hx hb dX11_add_93 rfl (lv_at hl 4 rfl) ?_
          refine va_get (D := D) (ci := 11) (v := .ref (q 0)) (C := RX11) (T := TX11) (N := 47) hx hb hts (by decide +kernel) hown hK.1 hP 0 rfl rfl 1 (by decide) (hts (.fieldLink RX11 8 "JugglingHallModel" "rows" "[I") (by decide +kernel)) (fun _ h9 => h9) rfl dX11_add_94 ?_
          refine lv_iload_n hx hb dX11_add_97 rfl (lv_at hl 3 rfl) ?_
          refine a_iald (f := f0) (u := r_1.toInt) hx hb hK.1 hP 1 0 rfl rfl dX11_add_98 (rfl) (by omega) (fun z_39 q_39 e_39 => ?_)
          have hN_39 : z_39.toInt = (f0 r_1.toInt.toNat).toInt := e_39
          have hmA40 : b.toInt * z_39.toInt = b.toInt * (f0 r_1.toInt.toNat).toInt := by rw [show z_39.toInt = (f0 r_1.toInt.toNat).toInt by omega]
          have hmB40 := mulB (a := b.toInt) (b := (f0 r_1.toInt.toNat).toInt) (by omega) (by omega)
          refine a_imul (u := b.toInt) (v := z_39.toInt) hx hb dX11_add_99 (rfl) (rfl) (by omega) (fun z_41 e_41 => ?_)
          refine a_iadd (u := (x18.toInt + z_37.toInt)) (v := (b.toInt * z_39.toInt)) hx hb dX11_add_100 (e_38) (e_41) (by omega) (fun z_42 e_42 => ?_)
          refine lv_sipush (v := 300) hx hb dX11_add_101 (by decide) ?_
          refine a_icmp_le (u := z_42.toInt) (v := 300) (tgt := 109) hx hb dX11_add_104 (by decide) (rfl) (by decide) (fun c_43 => ?_) (fun c_43 => ?_)
          · refine lv_aload_n hx hb dX11_add_109 rfl (lv_at hl 4 rfl) ?_
            refine va_get (D := D) (ci := 11) (v := .int x20) (C := RX11) (T := TX11) (N := 47) hx hb hts (by decide +kernel) hown hK.1 hP 0 rfl rfl 44 (by decide) (hts (.fieldLink RX11 316 "JugglingHallModel" "scoreState" "I") (by decide +kernel)) (fun _ h9 => h9) rfl dX11_add_110 ?_
            refine lv_eqi (y := nI S9) hS2 ?_
            refine lv_istore (lv' := [(7, .int (nI S9)), (6, .int z_37), (5, .int r_12), (4, .int z_10), (3, .int r_1), (0, .ref mm), (1, .int a9), (2, .int b)]) hx hb dX11_add_113 hl (by decide) rfl (fun ls hl => ?_)
            refine lv_iconst (v := 0) hx hb dX11_add_115 (by decide) ?_
            refine lv_istore (lv' := [(8, .int 0), (7, .int (nI S9)), (6, .int z_37), (5, .int r_12), (4, .int z_10), (3, .int r_1), (0, .ref mm), (1, .int a9), (2, .int b)]) hx hb dX11_add_116 hl (by decide) rfl (fun ls hl => ?_)
            have loop118 : ∀ (ddloop118 : Nat) (k : Int32) (S7 : Nat) (ls7 : List Nat) (a18 : Int32) (ga : (Nat → Int32)) (gb : (Nat → Int32)) (H : Heap) (locs : List Loc) (ls : Array Slot), (z_37.toInt - k.toInt).toNat < ddloop118 → (0 ≤ k.toInt ∧ k.toInt ≤ z_37.toInt) → (S7 < 512) → ((ls7.length : Int) = z_37.toInt - k.toInt) → (gr M0 far9 S7 ls7) → (a18.toInt = x18.toInt + k.toInt) → (ls7 = ls9.drop k.toInt.toNat) → (ScP f21 f22 ga gb x18.toInt k.toInt (scV (Ev x1.toInt a9.toInt).2 (Ev x1.toInt a9.toInt).1 ls9) (scX a9.toInt ls9)) → va_P D vwCl (mX mm q jn cI x0 x1 x2 x3 x4 x5 x6 x7 x8 x9 x10 x11 x12 x13 x14 y15_7 y16_7 x17 a18 x19 x20 f0 f1 f2 f3 f4 f5 f6 f7 f8 f9 f10 f11 g12_7 f13 f14 f15 f16 far9 wt9 f19 f20 ga gb f23 f24) H → va_D A (mX mm q jn cI x0 x1 x2 x3 x4 x5 x6 x7 x8 x9 x10 x11 x12 x13 x14 y15_7 y16_7 x17 a18 x19 x20 f0 f1 f2 f3 f4 f5 f6 f7 f8 f9 f10 f11 g12_7 f13 f14 f15 f16 far9 wt9 f19 f20 ga gb f23 f24) → va_S A s.heap H locs → lv_has ls 10 [(0, .ref mm), (1, .int a9), (2, .int b), (3, .int r_1), (4, .int z_10), (5, .int r_12), (6, .int z_37), (7, .int (nI S7)), (8, .int k)] → W p l e ({ frames := 4, cells := 0, slots := 0, locals := 91 }) s m args below meth c H locs 0 0 Q (F0 m 118 ls []) := by
              intro ddloop118
              induction ddloop118 with
              | zero =>
                intro k S7 ls7 a18 ga gb H locs ls hdd
                exact absurd hdd (Nat.not_lt_zero _)
              | succ ddloop118 ih118 =>
                intro k S7 ls7 a18 ga gb H locs ls hdd hk hS7 hls hgr ha18 hdr hsP hP hD hS hl
                refine lv_iload hx hb dX11_add_118 (lv_at hl 8 rfl) ?_
                refine lv_iload hx hb dX11_add_120 (lv_at hl 6 rfl) ?_
                refine a_icmp_ge (u := k.toInt) (v := z_37.toInt) (tgt := 155) hx hb dX11_add_122 (by decide) (rfl) (rfl) (fun c_44 => ?_) (fun c_44 => ?_)
                · refine lv_iconst (v := 0) hx hb dX11_add_155 (by decide) ?_
                  refine lv_istore (lv' := [(8, .int 0), (0, .ref mm), (1, .int a9), (2, .int b), (3, .int r_1), (4, .int z_10), (5, .int r_12), (6, .int z_37), (7, .int (nI S7))]) hx hb dX11_add_156 hl (by decide) rfl (fun ls hl => ?_)
                  have loop158 : ∀ (ddloop158 : Nat) (k2 : Int32) (b18 : Int32) (gc : (Nat → Int32)) (gd : (Nat → Int32)) (H : Heap) (locs : List Loc) (ls : Array Slot), (1300 - k2.toInt).toNat < ddloop158 → (0 ≤ k2.toInt ∧ k2.toInt ≤ b.toInt * (f0 r_1.toInt.toNat).toInt) → (b18.toInt = x18.toInt + z_37.toInt + k2.toInt) → (ScP f21 f22 gc gd x18.toInt (z_37.toInt + k2.toInt) (scV (Ev x1.toInt a9.toInt).2 (Ev x1.toInt a9.toInt).1 ls9) (scX a9.toInt ls9)) → va_P D vwCl (mX mm q jn cI x0 x1 x2 x3 x4 x5 x6 x7 x8 x9 x10 x11 x12 x13 x14 y15_7 y16_7 x17 b18 x19 x20 f0 f1 f2 f3 f4 f5 f6 f7 f8 f9 f10 f11 g12_7 f13 f14 f15 f16 far9 wt9 f19 f20 gc gd f23 f24) H → va_D A (mX mm q jn cI x0 x1 x2 x3 x4 x5 x6 x7 x8 x9 x10 x11 x12 x13 x14 y15_7 y16_7 x17 b18 x19 x20 f0 f1 f2 f3 f4 f5 f6 f7 f8 f9 f10 f11 g12_7 f13 f14 f15 f16 far9 wt9 f19 f20 gc gd f23 f24) → va_S A s.heap H locs → lv_has ls 10 [(0, .ref mm), (1, .int a9), (2, .int b), (3, .int r_1), (4, .int z_10), (5, .int r_12), (6, .int z_37), (7, .int (nI S7)), (8, .int k2)] → W p l e ({ frames := 4, cells := 0, slots := 0, locals := 91 }) s m args below meth c H locs 0 0 Q (F0 m 158 ls []) := by
                    intro ddloop158
                    induction ddloop158 with
                    | zero =>
                      intro k2 b18 gc gd H locs ls hdd
                      exact absurd hdd (Nat.not_lt_zero _)
                    | succ ddloop158 ih158 =>
                      intro k2 b18 gc gd H locs ls hdd hk2 hb18 hsQ hP hD hS hl
                      refine lv_iload hx hb dX11_add_158 (lv_at hl 8 rfl) ?_
                      refine lv_iload_n hx hb dX11_add_160 rfl (lv_at hl 2 rfl) ?_
                      refine lv_aload_n hx hb dX11_add_161 rfl (lv_at hl 0 rfl) ?_
                      refine va_get (D := D) (ci := 11) (v := .ref (q 0)) (C := RX11) (T := TX11) (N := 47) hx hb hts (by decide +kernel) hown hK.1 hP 0 rfl rfl 1 (by decide) (hts (.fieldLink RX11 8 "JugglingHallModel" "rows" "[I") (by decide +kernel)) (fun _ h9 => h9) rfl dX11_add_162 ?_
                      refine lv_iload_n hx hb dX11_add_165 rfl (lv_at hl 3 rfl) ?_
                      refine a_iald (f := f0) (u := r_1.toInt) hx hb hK.1 hP 1 0 rfl rfl dX11_add_166 (rfl) (by omega) (fun z_45 q_45 e_45 => ?_)
                      have hN_45 : z_45.toInt = (f0 r_1.toInt.toNat).toInt := e_45
                      have hmA46 : b.toInt * z_45.toInt = b.toInt * (f0 r_1.toInt.toNat).toInt := by rw [show z_45.toInt = (f0 r_1.toInt.toNat).toInt by omega]
                      have hmB46 := mulB (a := b.toInt) (b := (f0 r_1.toInt.toNat).toInt) (by omega) (by omega)
                      refine a_imul (u := b.toInt) (v := z_45.toInt) hx hb dX11_add_167 (rfl) (rfl) (by omega) (fun z_47 e_47 => ?_)
                      refine a_icmp_ge (u := k2.toInt) (v := (b.toInt * z_45.toInt)) (tgt := 198) hx hb dX11_add_168 (by decide) (rfl) (e_47) (fun c_48 => ?_) (fun c_48 => ?_)
                      · refine lv_aload_n hx hb dX11_add_198 rfl (lv_at hl 0 rfl) ?_
                        refine lv_iload hx hb dX11_add_199 (lv_at hl 4 rfl) ?_
                        refine mp_19 hx hb hts (by decide +kernel) hown hK hP hD hS (hts (.fieldLink RX11 313 "JugglingHallModel" "scoreBalls" "I") (by decide +kernel)) dX11_add_201 (fun H locs hP hD hS => ?_)
                        refine lv_aload_n hx hb dX11_add_204 rfl (lv_at hl 0 rfl) ?_
                        refine lv_iload hx hb dX11_add_205 (lv_at hl 5 rfl) ?_
                        refine mp_20 hx hb hts (by decide +kernel) hown hK hP hD hS (hts (.fieldLink RX11 316 "JugglingHallModel" "scoreState" "I") (by decide +kernel)) dX11_add_207 (fun H locs hP hD hS => ?_)
                        refine lv_aload_n hx hb dX11_add_210 rfl (lv_at hl 0 rfl) ?_
                        refine va_get (D := D) (ci := 11) (v := .int b18) (C := RX11) (T := TX11) (N := 47) hx hb hts (by decide +kernel) hown hK.1 hP 0 rfl rfl 42 (by decide) (hts (.fieldLink RX11 310 "JugglingHallModel" "scored" "I") (by decide +kernel)) (fun _ h9 => h9) rfl dX11_add_211 ?_
                        exact g_iret (b18, y15_7, y16_7, b18, z_10, r_12, g12_7, far9, wt9, gc, gd) hx hb hr hlocks hS rfl (⟨show 0 ≤ b18.toInt ∧ b18.toInt ≤ 300 from (by first | assumption | omega), show 0 < b18.toInt → ∃ S : Nat, S < 512 ∧ r_12 = nI S ∧ (bc S : Int) = z_10.toInt from (fun _ => ⟨M0, hM1, hM2, by omega⟩), show ∀ j9 : Nat, j9 < 512 → wt9 j9 = 0 from (hwt9), show AddS (Ev x1.toInt a9.toInt) a9.toInt b.toInt x18.toInt x20 f21 f22 b18.toInt b18.toInt r_12 gc gd from (Or.inl ⟨M0, ls9, hKK, hM4, hsW, by rw [c3, hlen]; omega, by rw [c3, hlen]; omega, rfl, hM2, by rw [show (ls9.length : Int) + b.toInt * (Ev x1.toInt a9.toInt).1 = z_37.toInt + k2.toInt by rw [c3, hlen]; omega]; exact hsQ⟩)⟩) hP hD hQ (Nat.le_of_ble_eq_true rfl) (Nat.le_of_ble_eq_true rfl) dX11_add_214
                      · refine lv_aload_n hx hb dX11_add_171 rfl (lv_at hl 0 rfl) ?_
                        refine lv_aload_n hx hb dX11_add_172 rfl (lv_at hl 0 rfl) ?_
                        refine lv_iload_n hx hb dX11_add_173 rfl (lv_at hl 3 rfl) ?_
                        refine lv_iload hx hb dX11_add_174 (lv_at hl 8 rfl) ?_
                        refine lv_aload_n hx hb dX11_add_176 rfl (lv_at hl 0 rfl) ?_
                        refine va_get (D := D) (ci := 11) (v := .ref (q 0)) (C := RX11) (T := TX11) (N := 47) hx hb hts (by decide +kernel) hown hK.1 hP 0 rfl rfl 1 (by decide) (hts (.fieldLink RX11 8 "JugglingHallModel" "rows" "[I") (by decide +kernel)) (fun _ h9 => h9) rfl dX11_add_177 ?_
                        refine lv_iload_n hx hb dX11_add_180 rfl (lv_at hl 3 rfl) ?_
                        refine a_iald (f := f0) (u := r_1.toInt) hx hb hK.1 hP 1 0 rfl rfl dX11_add_181 (rfl) (by omega) (fun z_49 q_49 e_49 => ?_)
                        have hN_49 : z_49.toInt = (f0 r_1.toInt.toNat).toInt := e_49
                        refine a_irem (u := k2.toInt) (v := z_49.toInt) hx hb dX11_add_182 (rfl) (rfl) (by omega) (fun z_50 e_50 h_50 k_50 => ?_)
                        refine lv_iconst (v := 0) hx hb dX11_add_183 (by decide) ?_
                        refine lv_iconst (v := 0) hx hb dX11_add_184 (by decide) ?_
                        have hz_51 : (0 : Int32).toInt = 0 := by decide
                        have hz_52 : (0 : Int32).toInt = 0 := by decide
                        refine roP (va_runV (As := [.int r_1, .int z_50, .int 0, .int 0]) (rest := [.ref mm]) ⟨hx, hb, hml, hown, hts⟩ (k_heightAt2 l D cI cR cM _  (by first | assumption | omega) (hr0) (by first | assumption | omega) (by first | assumption | omega) (by first | assumption | omega)) (cwV 4 hts gX11_add_X11_heightAt rfl rfl rfl (by decide +kernel) ⟨Nat.le_of_ble_eq_true rfl, Nat.le_of_ble_eq_true rfl⟩) (pre_V hK hP hD 0 11 rfl rfl) rfl rfl hl.1 rfl (lv_room (Nat.le_of_ble_eq_true rfl)) dX11_add_185 ⟨Nat.le_of_ble_eq_true rfl, Nat.le_of_ble_eq_true rfl⟩) hS hA hP (fun r_53 H locs hw hP hS => ?_)
                        obtain ⟨h_53, hx_53⟩ : (0 ≤ r_53.toInt ∧ r_53.toInt ≤ 9) ∧ (r_53.toInt = (f0 (r_1.toInt + 1 + 6 * z_50.toInt + 2 * (0 : Int32).toInt + (0 : Int32).toInt).toNat).toInt / 4) := hw
                        have hhv : r_53.toInt = (Ev x1.toInt a9.toInt).2 (2 * (k2.toInt % (Ev x1.toInt a9.toInt).1)) := by
                          have q1 := (rh_1 c4 (i := k2.toInt % (f0 r_1.toInt.toNat).toInt) (x := 0) (Int.emod_nonneg _ (by omega)) (Int.emod_lt_of_pos _ (by omega)) (by omega) (by omega)).1
                          rw [Int.add_zero, Int.add_zero] at q1
                          rw [c3, ← q1, hx_53]
                          unfold cy_h
                          congr 3
                          have z9 := z32
                          have q2 : z_50.toInt = k2.toInt % (f0 r_1.toInt.toNat).toInt := by rw [← hN_49]; exact e_50
                          rw [← q2]
                          omega
                        refine lv_iload_n hx hb dX11_add_188 rfl (lv_at hl 1 rfl) ?_
                        refine call_g (wr := []) (va_runV (As := [.int r_53, .int a9]) (rest := []) ⟨hx, hb, hml, hown, hts⟩ (k_note3 l D cI cR cM _  (by first | assumption | omega)) (cwV 2 hts gX11_add_X11_note rfl rfl rfl (by decide +kernel) ⟨Nat.le_of_ble_eq_true rfl, Nat.le_of_ble_eq_true rfl⟩) (pre_V hK hP hD 0 11 rfl rfl) rfl rfl hl.1 rfl (lv_room (Nat.le_of_ble_eq_true rfl)) dX11_add_189 ⟨Nat.le_of_ble_eq_true rfl, Nat.le_of_ble_eq_true rfl⟩) hP hD hS hA [0, 1, 2, 3, 4, 5, 6, 7, 8, 9, 10, 11, 12, 13, 14, 15, 16, 17, 18, 19, 20, 21, 22, 23, 24, 25] [] (by with_unfolding_all rfl) rfl (by decide) (by decide) (fun u_54 H locs hw hP hD hS => ?_)
                        obtain ⟨y18_54, g21_54, g22_54⟩ := u_54
                        have hP : va_P D vwCl (mX mm q jn cI x0 x1 x2 x3 x4 x5 x6 x7 x8 x9 x10 x11 x12 x13 x14 y15_7 y16_7 x17 y18_54 x19 x20 f0 f1 f2 f3 f4 f5 f6 f7 f8 f9 f10 f11 g12_7 f13 f14 f15 f16 far9 wt9 f19 f20 g21_54 g22_54 f23 f24) H := hP
                        have hD : va_D A (mX mm q jn cI x0 x1 x2 x3 x4 x5 x6 x7 x8 x9 x10 x11 x12 x13 x14 y15_7 y16_7 x17 y18_54 x19 x20 f0 f1 f2 f3 f4 f5 f6 f7 f8 f9 f10 f11 g12_7 f13 f14 f15 f16 far9 wt9 f19 f20 g21_54 g22_54 f23 f24) := hD
                        obtain ⟨h_54, hp_54⟩ : (y18_54.toInt = b18.toInt + 1) ∧ (ScP gc gd g21_54 g22_54 b18.toInt 1 (fun _ => r_53.toInt) (fun _ => a9.toInt)) := hw
                        obtain ⟨z_55, q_55, e_55⟩ := i_inc (a := k2.toInt) (1) (rfl) (by decide) (by omega) (by omega)
                        refine lv_iinc (v := z_55) (lv' := [(8, .int z_55), (0, .ref mm), (1, .int a9), (2, .int b), (3, .int r_1), (4, .int z_10), (5, .int r_12), (6, .int z_37), (7, .int (nI S7))]) hx hb dX11_add_192 hl (k := 8) rfl q_55 (by decide) rfl (fun ls hl => ?_)
                        refine lv_goto (tgt := 158) hx hb dX11_add_195 (by decide) ?_
                        exact ih158 z_55 y18_54 g21_54 g22_54 _ _ _ (by omega) (by first | assumption | omega) (by first | assumption | omega) (ScP_tr hsQ hp_54 (by omega) (by omega) (by omega) (by omega) (fun i9 h8 h9 => by
                          have q8 := scV_3 (w := (Ev x1.toInt a9.toInt).2) (m := (Ev x1.toInt a9.toInt).1) (x := a9.toInt) (hs := ls9) (k := k2.toInt) (by omega)
                          rw [show i9 = 0 by omega, Int.add_zero, show z_37.toInt + k2.toInt = (ls9.length : Int) + k2.toInt by rw [hlen], q8.1, q8.2]
                          exact ⟨hhv, rfl⟩)) hP hD hS (lv_sub hl [1, 2, 3, 4, 5, 6, 7, 8, 0] rfl)
                  have hz_56 : (0 : Int32).toInt = 0 := by decide
                  exact loop158 ((1300 - (0 : Int32).toInt).toNat + 1) (0 : Int32) a18 ga gb _ _ _ (by omega) (by first | assumption | omega) (by first | assumption | omega) (by rw [show z_37.toInt + (0 : Int32).toInt = k.toInt by rw [show (0 : Int32).toInt = 0 by decide]; omega]; exact hsP) hP hD hS (lv_sub hl [1, 2, 3, 4, 5, 6, 7, 8, 0] rfl)
                · refine lv_aload_n hx hb dX11_add_125 rfl (lv_at hl 0 rfl) ?_
                  refine lv_iload hx hb dX11_add_126 (lv_at hl 7 rfl) ?_
                  obtain ⟨hh9, ls8, rfl⟩ : ∃ (h : Nat) (ls : List Nat), ls7 = h :: ls := by
                    cases ls7 with
                    | nil => exact absurd hls (by simp only [List.length_nil]; omega)
                    | cons h ls => exact ⟨h, ls, rfl⟩
                  obtain ⟨hfo, t9, ht1, ht2, ht3, ht9⟩ := hgr
                  have hh10 : hh9 < 10 := hfo.1
                  have hll : (((hh9 :: ls8).length : Nat) : Int) = (ls8.length : Int) + 1 := by rw [List.length_cons]; omega
                  have hPc := hP.sub (ws' := [(mm, .inr (11, mXF q jn x0 x1 x2 x3 x4 x5 x6 x7 x8 x9 x10 x11 x12 x13 x14 y15_7 y16_7 x17 a18 x19 x20)), (q 17, .inl (cI, 512, .inl far9))]) [0, 18] (by with_unfolding_all rfl)
                  have hDc := hD.sub (ws' := [(mm, .inr (11, mXF q jn x0 x1 x2 x3 x4 x5 x6 x7 x8 x9 x10 x11 x12 x13 x14 y15_7 y16_7 x17 a18 x19 x20)), (q 17, .inl (cI, 512, .inl far9))]) [0, 18] (by decide) (by with_unfolding_all rfl)
                  refine ro (va_runV (As := [.int (nI S7)]) (rest := []) ⟨hx, hb, hml, hown, hts⟩ (c_firstStep l D cI cR cM _ (x := S7) (h0 := hh9) hS7 mm (mXF q jn x0 x1 x2 x3 x4 x5 x6 x7 x8 x9 x10 x11 x12 x13 x14 y15_7 y16_7 x17 a18 x19 x20) (q 17) rfl far9 hfo) (cwV 1 hts gX11_add_X11_firstStep rfl rfl rfl (by decide +kernel) ⟨Nat.le_of_ble_eq_true rfl, Nat.le_of_ble_eq_true rfl⟩) (pre_V hK hPc hDc 0 11 rfl rfl) rfl rfl hl.1 rfl (lv_room (Nat.le_of_ble_eq_true rfl)) dX11_add_128 ⟨Nat.le_of_ble_eq_true rfl, Nat.le_of_ble_eq_true rfl⟩) hS hA hP (fun H locs hP hS => ?_)
                  have hdc := drop_c hdr
                  refine lv_istore (lv' := [(9, .int (nI hh9)), (0, .ref mm), (1, .int a9), (2, .int b), (3, .int r_1), (4, .int z_10), (5, .int r_12), (6, .int z_37), (7, .int (nI S7)), (8, .int k)]) hx hb dX11_add_131 hl (by decide) rfl (fun ls hl => ?_)
                  refine lv_aload_n hx hb dX11_add_133 rfl (lv_at hl 1 rfl) ?_
                  refine lv_iload hx hb dX11_add_134 (lv_at hl 0 rfl) ?_
                  refine lv_iconst (v := (-1)) hx hb dX11_add_136 (by decide) ?_
                  have hz_57 : (nI hh9).toInt = (hh9 : Int) := nI_toInt (by omega)
                  have hz_58 : (-1 : Int32).toInt = (-1) := by decide
                  refine call_g (wr := []) (va_runV (As := [.int (nI hh9), .int (-1)]) (rest := []) ⟨hx, hb, hml, hown, hts⟩ (k_note3 l D cI cR cM _  (by first | assumption | omega)) (cwV 2 hts gX11_add_X11_note rfl rfl rfl (by decide +kernel) ⟨Nat.le_of_ble_eq_true rfl, Nat.le_of_ble_eq_true rfl⟩) (pre_V hK hP hD 0 11 rfl rfl) rfl rfl hl.1 rfl (lv_room (Nat.le_of_ble_eq_true rfl)) dX11_add_137 ⟨Nat.le_of_ble_eq_true rfl, Nat.le_of_ble_eq_true rfl⟩) hP hD hS hA [0, 1, 2, 3, 4, 5, 6, 7, 8, 9, 10, 11, 12, 13, 14, 15, 16, 17, 18, 19, 20, 21, 22, 23, 24, 25] [] (by with_unfolding_all rfl) rfl (by decide) (by decide) (fun u_59 H locs hw hP hD hS => ?_)
                  obtain ⟨y18_59, g21_59, g22_59⟩ := u_59
                  have hP : va_P D vwCl (mX mm q jn cI x0 x1 x2 x3 x4 x5 x6 x7 x8 x9 x10 x11 x12 x13 x14 y15_7 y16_7 x17 y18_59 x19 x20 f0 f1 f2 f3 f4 f5 f6 f7 f8 f9 f10 f11 g12_7 f13 f14 f15 f16 far9 wt9 f19 f20 g21_59 g22_59 f23 f24) H := hP
                  have hD : va_D A (mX mm q jn cI x0 x1 x2 x3 x4 x5 x6 x7 x8 x9 x10 x11 x12 x13 x14 y15_7 y16_7 x17 y18_59 x19 x20 f0 f1 f2 f3 f4 f5 f6 f7 f8 f9 f10 f11 g12_7 f13 f14 f15 f16 far9 wt9 f19 f20 g21_59 g22_59 f23 f24) := hD
                  obtain ⟨h_59, hp_59⟩ : (y18_59.toInt = a18.toInt + 1) ∧ (ScP ga gb g21_59 g22_59 a18.toInt 1 (fun _ => (nI hh9).toInt) (fun _ => (-1 : Int32).toInt)) := hw
                  refine lv_iload hx hb dX11_add_140 (lv_at hl 8 rfl) ?_
                  refine lv_iload hx hb dX11_add_142 (lv_at hl 0 rfl) ?_
                  refine ro (va_runS (As := [.int (nI S7), .int (nI hh9)]) (rest := []) ⟨hx, hb, hml, hown, hts⟩ (c_step l D cI cR cM _ (s0 := S7) (h0 := hh9) hS7 hh10) (va_cwS 2 hts gX11_add_X11_step rfl rfl rfl (by decide +kernel) ⟨Nat.le_of_ble_eq_true rfl, Nat.le_of_ble_eq_true rfl⟩) (pre_S hK va_P_nil (va_D_nil (A := fun _ => True))) rfl rfl hl.1 rfl (lv_room (Nat.le_of_ble_eq_true rfl)) dX11_add_144 ⟨Nat.le_of_ble_eq_true rfl, Nat.le_of_ble_eq_true rfl⟩) hS hA hP (fun H locs hP hS => ?_)
                  refine lv_eqi (y := nI t9) (stI_some ht2) ?_
                  refine lv_istore (lv' := [(7, .int (nI t9)), (9, .int (nI hh9)), (0, .ref mm), (1, .int a9), (2, .int b), (3, .int r_1), (4, .int z_10), (5, .int r_12), (6, .int z_37), (8, .int k)]) hx hb dX11_add_147 hl (by decide) rfl (fun ls hl => ?_)
                  obtain ⟨z_60, q_60, e_60⟩ := i_inc (a := k.toInt) (1) (rfl) (by decide) (by omega) (by omega)
                  refine lv_iinc (v := z_60) (lv' := [(8, .int z_60), (7, .int (nI t9)), (9, .int (nI hh9)), (0, .ref mm), (1, .int a9), (2, .int b), (3, .int r_1), (4, .int z_10), (5, .int r_12), (6, .int z_37)]) hx hb dX11_add_149 hl (k := 9) rfl q_60 (by decide) rfl (fun ls hl => ?_)
                  refine lv_goto (tgt := 118) hx hb dX11_add_152 (by decide) ?_
                  exact ih118 z_60 t9 ls8 y18_59 g21_59 g22_59 _ _ _ (by omega) (by first | assumption | omega) (ht1) (by omega) (ht9) (by first | assumption | omega) (by rw [show z_60.toInt.toNat = k.toInt.toNat + 1 by omega]; exact hdc.2.1) (ScP_tr hsP hp_59 (by omega) (by omega) (by omega) (by omega) (scV_2 (by omega) hdc.2.2 hdc.1 hh10)) hP hD hS (lv_sub hl [3, 4, 5, 6, 7, 8, 9, 1, 0] rfl)
            have hz_61 : (0 : Int32).toInt = 0 := by decide
            exact loop118 ((z_37.toInt - (0 : Int32).toInt).toNat + 1) (0 : Int32) S9 ls9 x18 f21 f22 _ _ _ (by omega) (by first | assumption | omega) (hS1) (by omega) (hq2) (by first | assumption | omega) (by rw [show (0 : Int32).toInt.toNat = 0 by decide]; rfl) (ScP_0 (by decide)) hP hD hS (lv_sub hl [6, 7, 8, 5, 4, 3, 2, 1, 0] rfl)
          · refine lv_iconst (v := (-1)) hx hb dX11_add_107 (by decide) ?_
            have hz_62 : (-1 : Int32).toInt = (-1) := by decide
            exact g_iret ((-1 : Int32), y15_7, y16_7, x18, x19, x20, g12_7, far9, wt9, f21, f22) hx hb hr hlocks hS rfl (⟨show 0 ≤ x18.toInt ∧ x18.toInt ≤ 300 from (by first | assumption | omega), show 0 < x18.toInt → ∃ S : Nat, S < 512 ∧ x20 = nI S ∧ (bc S : Int) = x19.toInt from (hsc), show ∀ j9 : Nat, j9 < 512 → wt9 j9 = 0 from (hwt9), show AddS (Ev x1.toInt a9.toInt) a9.toInt b.toInt x18.toInt x20 f21 f22 (-1 : Int32).toInt x18.toInt x20 f21 f22 from (Or.inr ⟨Or.inr ⟨hKK, M0, hM4, Or.inr ⟨ls9, hsW, by rw [c3, hlen]; omega⟩⟩, by decide, rfl, rfl, rfl, rfl⟩)⟩) hP hD hQ (Nat.le_of_ble_eq_true rfl) (Nat.le_of_ble_eq_true rfl) dX11_add_108
        · refine lv_iconst (v := (-1)) hx hb dX11_add_66 (by decide) ?_
          have hz_63 : (-1 : Int32).toInt = (-1) := by decide
          exact g_iret ((-1 : Int32), y15_7, y16_7, x18, x19, x20, g12_7, f17, f18, f21, f22) hx hb hr hlocks hS rfl (⟨show 0 ≤ x18.toInt ∧ x18.toInt ≤ 300 from (by first | assumption | omega), show 0 < x18.toInt → ∃ S : Nat, S < 512 ∧ x20 = nI S ∧ (bc S : Int) = x19.toInt from (hsc), show ∀ j9 : Nat, j9 < 512 → f18 j9 = 0 from (hwt), show AddS (Ev x1.toInt a9.toInt) a9.toInt b.toInt x18.toInt x20 f21 f22 (-1 : Int32).toInt x18.toInt x20 f21 f22 from (Or.inr ⟨Or.inr ⟨hKK, M0, hM4, Or.inl ⟨by omega, (hsc (by omega)).imp (fun S9 q9 => ⟨q9.1, q9.2.1, fun q8 => by
            obtain ⟨hs9, q8⟩ := q8
            have q7 := jrun_bc hs9 q9.1 q8
            have q6 := q9.2.2
            omega⟩)⟩⟩, by decide, rfl, rfl, rfl, rfl⟩)⟩) hP hD hQ (Nat.le_of_ble_eq_true rfl) (Nat.le_of_ble_eq_true rfl) dX11_add_67
    · refine lv_iconst (v := (-1)) hx hb dX11_add_24 (by decide) ?_
      have hz_64 : (-1 : Int32).toInt = (-1) := by decide
      exact g_iret ((-1 : Int32), y15_7, y16_7, x18, x19, x20, g12_7, f17, f18, f21, f22) hx hb hr hlocks hS rfl (⟨show 0 ≤ x18.toInt ∧ x18.toInt ≤ 300 from (by first | assumption | omega), show 0 < x18.toInt → ∃ S : Nat, S < 512 ∧ x20 = nI S ∧ (bc S : Int) = x19.toInt from (hsc), show ∀ j9 : Nat, j9 < 512 → f18 j9 = 0 from (hwt), show AddS (Ev x1.toInt a9.toInt) a9.toInt b.toInt x18.toInt x20 f21 f22 (-1 : Int32).toInt x18.toInt x20 f21 f22 from (Or.inr ⟨Or.inl (fun q9 => by
        rcases hAt with ⟨c0, c1⟩ | ⟨c0, c1, c2, c3, c4, c5⟩
        · rcases c1 with c1 | ⟨c1, c2⟩
          · exact c1 q9.1
          · have := q9.2.1; omega
        · have g3 := (hN_7 (by omega)).resolve_left (by omega)
          have hz : ZX 1 f0 (r_1.toInt + 1) (f0 r_1.toInt.toNat).toInt := by have q9 := (h_1.resolve_left (by omega)).2; rw [hj1] at q9; exact q9
          exact g3 ⟨(cy_GW c4 hz (by omega)).mpr (by rw [← c3]; exact q9.2.2.2.1), (pl_W c4).mpr (by rw [← c3]; exact q9.2.2.1)⟩), by decide, rfl, rfl, rfl, rfl⟩)⟩) hP hD hQ (Nat.le_of_ble_eq_true rfl) (Nat.le_of_ble_eq_true rfl) dX11_add_25
