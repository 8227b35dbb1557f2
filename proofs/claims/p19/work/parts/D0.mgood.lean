/-- the reference's row as heights -/
theorem rh_1 {R : Nat → Int32} {r n : Int} {w : Int → Int} (h : RSo R (r + 1) w n) {i x : Int} (i0 : 0 ≤ i) (i1 : i < n) (x0 : 0 ≤ x) (x1 : x < 2) : cy_h R r (6 * i + x) = w (2 * i + x) ∧ (R (r + 1 + (6 * i + x)).toNat).toInt % 4 = 0 := by
  have h1 := h (2 * i + x) (by omega) (by omega)
  rw [show (2 * i + x) / 2 = i by omega, show (2 * i + x) % 2 = x by omega] at h1
  unfold cy_h
  omega
theorem rh_0 {R : Nat → Int32} {r n : Int} (h : ZX 1 R (r + 1) n) {i x : Int} (i0 : 0 ≤ i) (i1 : i < n) (x0 : 2 ≤ x) (x1 : x < 6) : cy_h R r (6 * i + x) = 0 := by
  have h1 := h i x i0 i1 (by omega) x1
  rw [show r + 1 + 6 * i + x = r + 1 + (6 * i + x) by omega] at h1
  unfold cy_h
  omega
theorem gd_1 {R : Nat → Int32} {r n b : Int} {w : Int → Int} (h : RSo R (r + 1) w n) {i x : Int} (i0 : 0 ≤ i) (i1 : i < n) (x0 : 0 ≤ x) (x1 : x < 2) : cy_L R r n (3 * b) (6 * i + x + 1).toNat - cy_T R r (3 * b) (6 * i + x + 1).toNat = cy_L R r n (3 * b) (6 * i + x).toNat - cy_T R r (3 * b) (6 * i + x).toNat + (lnd w n b (2 * i + x + 1).toNat - lnd w n b (2 * i + x).toNat) := by
  obtain ⟨e1, e2⟩ := rh_1 h i0 i1 x0 x1
  rw [cy_Ls (by omega), cy_Ts (by omega), lnd_s (by omega), e1, show (2 * i + x) / 2 = i by omega]
  unfold cy_b
  rw [e1, e2, show (6 * i + x) / 6 = i by omega, show (6 * i + x) / 2 = 3 * i by omega]
  by_cases q : w (2 * i + x) = 0
  · rw [if_pos q, if_pos q, if_pos q]; omega
  · rw [if_neg q, if_neg q, if_neg q]
    by_cases q1 : (i + w (2 * i + x)) % n = b <;> by_cases q2 : i = b
    · rw [if_pos q1, if_pos q2, if_pos (show 3 * ((i + w (2 * i + x)) % n) + 0 = 3 * b by omega), if_pos (show 3 * i = 3 * b by omega)]; omega
    · rw [if_pos q1, if_neg q2, if_pos (show 3 * ((i + w (2 * i + x)) % n) + 0 = 3 * b by omega), if_neg (show ¬ 3 * i = 3 * b by omega)]; omega
    · rw [if_neg q1, if_pos q2, if_neg (show ¬ 3 * ((i + w (2 * i + x)) % n) + 0 = 3 * b by omega), if_pos (show 3 * i = 3 * b by omega)]; omega
    · rw [if_neg q1, if_neg q2, if_neg (show ¬ 3 * ((i + w (2 * i + x)) % n) + 0 = 3 * b by omega), if_neg (show ¬ 3 * i = 3 * b by omega)]; omega
theorem gd_0 {R : Nat → Int32} {r n p t : Int} (h : cy_h R r t = 0) (t0 : 0 ≤ t) : cy_L R r n p (t + 1).toNat = cy_L R r n p t.toNat ∧ cy_T R r p (t + 1).toNat = cy_T R r p t.toNat := by
  rw [cy_Ls t0, cy_Ts t0, if_pos h, if_pos h]; omega
theorem gd_i {R : Nat → Int32} {r n b : Int} {w : Int → Int} (h : RSo R (r + 1) w n) (hz : ZX 1 R (r + 1) n) (m : Nat) (hm : (m : Int) ≤ n) : cy_L R r n (3 * b) (6 * (m : Int)).toNat - cy_T R r (3 * b) (6 * (m : Int)).toNat = lnd w n b (2 * (m : Int)).toNat := by
  induction m with
  | zero => rfl
  | succ m ih =>
    have i0 := ih (by omega)
    have a0 := gd_1 (b := b) h (i := m) (x := 0) (by omega) (by omega) (by omega) (by omega)
    have a1 := gd_1 (b := b) h (i := m) (x := 1) (by omega) (by omega) (by omega) (by omega)
    have a2 := gd_0 (n := n) (p := 3 * b) (rh_0 hz (i := m) (x := 2) (by omega) (by omega) (by omega) (by omega)) (by omega)
    have a3 := gd_0 (n := n) (p := 3 * b) (rh_0 hz (i := m) (x := 3) (by omega) (by omega) (by omega) (by omega)) (by omega)
    have a4 := gd_0 (n := n) (p := 3 * b) (rh_0 hz (i := m) (x := 4) (by omega) (by omega) (by omega) (by omega)) (by omega)
    have a5 := gd_0 (n := n) (p := 3 * b) (rh_0 hz (i := m) (x := 5) (by omega) (by omega) (by omega) (by omega)) (by omega)
    rw [show 6 * (m : Int) + 0 + 1 = 6 * (m : Int) + 1 by omega, show 6 * (m : Int) + 0 = 6 * (m : Int) by omega, show 2 * (m : Int) + 0 + 1 = 2 * (m : Int) + 1 by omega, show 2 * (m : Int) + 0 = 2 * (m : Int) by omega] at a0
    rw [show 6 * (m : Int) + 1 + 1 = 6 * (m : Int) + 2 by omega, show 2 * (m : Int) + 1 + 1 = 2 * (m : Int) + 2 by omega] at a1
    rw [show 6 * (m : Int) + 2 + 1 = 6 * (m : Int) + 3 by omega] at a2
    rw [show 6 * (m : Int) + 3 + 1 = 6 * (m : Int) + 4 by omega] at a3
    rw [show 6 * (m : Int) + 4 + 1 = 6 * (m : Int) + 5 by omega] at a4
    rw [show 6 * (m : Int) + 5 + 1 = 6 * ((m + 1 : Nat) : Int) by omega] at a5
    rw [show 2 * ((m + 1 : Nat) : Int) = 2 * (m : Int) + 2 by omega]
    omega
theorem gd_o {R : Nat → Int32} {r n p : Int} {w : Int → Int} (h : RSo R (r + 1) w n) (hz : ZX 1 R (r + 1) n) (hp : p % 3 ≠ 0) (m : Nat) (hm : (m : Int) ≤ 6 * n) : cy_L R r n p m = 0 ∧ cy_T R r p m = 0 := by
  induction m with
  | zero => exact ⟨rfl, rfl⟩
  | succ m ih =>
    obtain ⟨i1, i2⟩ := ih (by omega)
    have s1 : cy_L R r n p ((m : Int) + 1).toNat = _ := cy_Ls (by omega)
    have s2 : cy_T R r p ((m : Int) + 1).toNat = _ := cy_Ts (by omega)
    rw [show ((m : Int) + 1).toNat = m + 1 by omega, show ((m : Int)).toNat = m by omega] at s1 s2
    rw [s1, s2, i1, i2]
    by_cases q : (m : Int) % 6 < 2
    · obtain ⟨e1, e2⟩ := rh_1 h (i := (m : Int) / 6) (x := (m : Int) % 6) (by omega) (by omega) (by omega) q
      rw [show 6 * ((m : Int) / 6) + (m : Int) % 6 = (m : Int) by omega] at e1 e2
      by_cases q1 : cy_h R r (m : Int) = 0
      · rw [if_pos q1, if_pos q1]; exact ⟨rfl, rfl⟩
      · rw [if_neg q1, if_neg q1]
        unfold cy_b
        rw [e2, if_neg (by omega), if_neg (by omega)]
        exact ⟨rfl, rfl⟩
    · have e1 := rh_0 hz (i := (m : Int) / 6) (x := (m : Int) % 6) (by omega) (by omega) (by omega) (by omega)
      rw [show 6 * ((m : Int) / 6) + (m : Int) % 6 = (m : Int) by omega] at e1
      rw [if_pos e1, if_pos e1]; exact ⟨rfl, rfl⟩
theorem cy_GW {R : Nat → Int32} {r n : Int} {w : Int → Int} (h : RSo R (r + 1) w n) (hz : ZX 1 R (r + 1) n) (hn : 0 < n) : cy_G R r n ↔ GdW w n := by
  have key : ∀ b : Int, cy_L R r n (3 * b) (6 * n).toNat - cy_T R r (3 * b) (6 * n).toNat = lnd w n b (2 * n).toNat := fun b => by
    have := gd_i (b := b) h hz n.toNat (by omega)
    rw [show ((n.toNat : Nat) : Int) = n by omega] at this
    exact this
  constructor
  · intro q b b0 b1
    have := q (3 * b) (by omega) (by omega)
    have := key b
    omega
  · intro q p p0 p1
    by_cases e : p % 3 = 0
    · have h1 := q (p / 3) (by omega) (by omega)
      have h2 := key (p / 3)
      rw [show 3 * (p / 3) = p by omega] at h2
      omega
    · obtain ⟨a, b⟩ := gd_o h hz e (6 * n).toNat (by omega)
      rw [a, b]
theorem pl_W {R : Nat → Int32} {r n : Int} {w : Int → Int} (h : RSo R (r + 1) w n) : (∀ i : Int, 0 ≤ i → i < n → cy_h R r (6 * i + 1) = 0) ↔ plW w 0 n := by
  constructor
  · intro q b b0 b1
    have := q b b0 b1
    rw [(rh_1 h b0 b1 (by omega) (by omega)).1] at this
    rw [show 2 * (0 + b) + 1 = 2 * b + 1 by omega]; exact this
  · intro q b b0 b1
    have := q b b0 b1
    rw [(rh_1 h b0 b1 (by omega) (by omega)).1]
    rw [show 2 * (0 + b) + 1 = 2 * b + 1 by omega] at this; exact this
set_option maxRecDepth 100000 in
set_option maxHeartbeats 4000000 in
theorem k_weigh3 (l : Launch) (D : va_G) (cI cR cM : ClassId) (sz : Nat) {jn mm : Nat} {q : Nat → Nat} {x0 x1 x2 x3 x4 x5 x6 x7 x8 x9 x10 x11 x12 x13 x14 x15 x16 x17 x18 x19 x20 : Int32} {f0 f1 f2 f3 f4 f5 f6 f7 f8 f9 f10 f11 f12 f13 f14 f15 f16 f17 f18 f19 f20 f21 f22 f23 f24 : Nat → Int32} {a : Int32}  (hj : 1 ≤ jn ∧ jn ≤ 3) (hrow9 : IsRow jn f0 a.toInt) : Met l yX11_weigh wsX11_weigh ({ frames := 1, cells := 0, slots := 0, locals := 24 }) (P0 D cI cR cM [.ref mm, .int a] sz (mX mm q jn cI x0 x1 x2 x3 x4 x5 x6 x7 x8 x9 x10 x11 x12 x13 x14 x15 x16 x17 x18 x19 x20 f0 f1 f2 f3 f4 f5 f6 f7 f8 f9 f10 f11 f12 f13 f14 f15 f16 f17 f18 f19 f20 f21 f22 f23 f24)) (QG (S := Int32 × Int32 × (Nat → Int32)) (fun u => none) (fun u => mX mm q jn cI x0 x1 x2 x3 x4 x5 x6 x7 x8 x9 x10 x11 x12 x13 x14 (u.1) (u.2.1) x17 x18 x19 x20 f0 f1 f2 f3 f4 f5 f6 f7 f8 f9 f10 f11 (u.2.2) f13 f14 f15 f16 f17 f18 f19 f20 f21 f22 f23 f24) (fun u => (-1 ≤ u.1.toInt ∧ u.1.toInt ≤ 71) ∧ (u.2.1.toInt = cy_S f0 a.toInt (6 * (f0 a.toInt.toNat).toInt).toNat) ∧ (u.1.toInt < 0 → cy_G f0 a.toInt (f0 a.toInt.toNat).toInt) ∧ (0 ≤ u.1.toInt → ¬ cy_G f0 a.toInt (f0 a.toInt.toNat).toInt)) D (va_A (mX mm q jn cI x0 x1 x2 x3 x4 x5 x6 x7 x8 x9 x10 x11 x12 x13 x14 x15 x16 x17 x18 x19 x20 f0 f1 f2 f3 f4 f5 f6 f7 f8 f9 f10 f11 f12 f13 f14 f15 f16 f17 f18 f19 f20 f21 f22 f23 f24) sz)) 0 0 (va_A (mX mm q jn cI x0 x1 x2 x3 x4 x5 x6 x7 x8 x9 x10 x11 x12 x13 x14 x15 x16 x17 x18 x19 x20 f0 f1 f2 f3 f4 f5 f6 f7 f8 f9 f10 f11 f12 f13 f14 f15 f16 f17 f18 f19 f20 f21 f22 f23 f24) sz) := by
  refine go (cc := cX11_weigh) (maxL := 6) (ret := none) (by decide) rfl (Nat.le_of_ble_eq_true rfl) ?_
  intro p e s m below meth c ls args Q hQ hsz hx hb hr hml hts hown hlocks hnm hP hK hD hl
  subst hsz
  have hD := hD.self (sz := s.heap.size)
  generalize hAe : va_A (mX mm q jn cI x0 x1 x2 x3 x4 x5 x6 x7 x8 x9 x10 x11 x12 x13 x14 x15 x16 x17 x18 x19 x20 f0 f1 f2 f3 f4 f5 f6 f7 f8 f9 f10 f11 f12 f13 f14 f15 f16 f17 f18 f19 f20 f21 f22 f23 f24) s.heap.size = A at hD hQ
  have hA : ∀ q, s.heap.size ≤ q → A q := fun q h => by rw [← hAe]; exact Or.inr h
  have hS : va_S A s.heap s.heap [] := va_S.rf
  have hl : lv_has ls 6 [(0, .ref mm), (1, .int a)] := hl
  have hr0 := hrow9
  obtain ⟨hr1, hr2, hr3, hr4, hr5, hr6⟩ := hrow9
  refine lv_aload_n hx hb dX11_weigh_0 rfl (lv_at hl 0 rfl) ?_
  refine va_get (D := D) (ci := 11) (v := .ref (q 0)) (C := RX11) (T := TX11) (N := 47) hx hb hts (by decide +kernel) hown hK.1 hP 0 rfl rfl 1 (by decide) (hts (.fieldLink RX11 8 "JugglingHallModel" "rows" "[I") (by decide +kernel)) (fun _ h9 => h9) rfl dX11_weigh_1 ?_
  refine lv_iload_n hx hb dX11_weigh_4 rfl (lv_at hl 1 rfl) ?_
  refine a_iald (f := f0) (u := a.toInt) hx hb hK.1 hP 1 0 rfl rfl dX11_weigh_5 (rfl) (by omega) (fun z_1 q_1 e_1 => ?_)
  have hn9 : z_1.toInt = (f0 a.toInt.toNat).toInt := e_1
  refine lv_istore_n (lv' := [(2, .int z_1), (0, .ref mm), (1, .int a)]) hx hb dX11_weigh_6 rfl hl (by decide) rfl (fun ls hl => ?_)
  refine lv_iconst (v := 0) hx hb dX11_weigh_7 (by decide) ?_
  refine lv_istore_n (lv' := [(3, .int 0), (2, .int z_1), (0, .ref mm), (1, .int a)]) hx hb dX11_weigh_8 rfl hl (by decide) rfl (fun ls hl => ?_)
  have loop9 : ∀ (ddloop9 : Nat) (k : Int32) (ga : (Nat → Int32)) (H : Heap) (locs : List Loc) (ls : Array Slot), (100 - k.toInt).toNat < ddloop9 → (0 ≤ k.toInt ∧ k.toInt ≤ 3 * (f0 a.toInt.toNat).toInt) → (∀ i9 : Int, 0 ≤ i9 → i9 < k.toInt → (ga i9.toNat).toInt = 0) → va_P D vwCl (mX mm q jn cI x0 x1 x2 x3 x4 x5 x6 x7 x8 x9 x10 x11 x12 x13 x14 x15 x16 x17 x18 x19 x20 f0 f1 f2 f3 f4 f5 f6 f7 f8 f9 f10 f11 ga f13 f14 f15 f16 f17 f18 f19 f20 f21 f22 f23 f24) H → va_D A (mX mm q jn cI x0 x1 x2 x3 x4 x5 x6 x7 x8 x9 x10 x11 x12 x13 x14 x15 x16 x17 x18 x19 x20 f0 f1 f2 f3 f4 f5 f6 f7 f8 f9 f10 f11 ga f13 f14 f15 f16 f17 f18 f19 f20 f21 f22 f23 f24) → va_S A s.heap H locs → lv_has ls 6 [(0, .ref mm), (1, .int a), (2, .int z_1), (3, .int k)] → W p l e ({ frames := 1, cells := 0, slots := 0, locals := 24 }) s m args below meth c H locs 0 0 Q (F0 m 9 ls []) := by
    intro ddloop9
    induction ddloop9 with
    | zero =>
      intro k ga H locs ls hdd
      exact absurd hdd (Nat.not_lt_zero _)
    | succ ddloop9 ih9 =>
      intro k ga H locs ls hdd hk hz0 hP hD hS hl
      refine lv_iload_n hx hb dX11_weigh_9 rfl (lv_at hl 3 rfl) ?_
      refine lv_iconst (v := 3) hx hb dX11_weigh_10 (by decide) ?_
      refine lv_iload_n hx hb dX11_weigh_11 rfl (lv_at hl 2 rfl) ?_
      refine a_imul (u := 3) (v := z_1.toInt) hx hb dX11_weigh_12 (by decide) (rfl) (by omega) (fun z_2 e_2 => ?_)
      refine a_icmp_ge (u := k.toInt) (v := (3 * z_1.toInt)) (tgt := 29) hx hb dX11_weigh_13 (by decide) (rfl) (e_2) (fun c_3 => ?_) (fun c_3 => ?_)
      · refine lv_aload_n hx hb dX11_weigh_29 rfl (lv_at hl 0 rfl) ?_
        refine lv_iconst (v := 0) hx hb dX11_weigh_30 (by decide) ?_
        refine mp_16 hx hb hts (by decide +kernel) hown hK hP hD hS (hts (.fieldLink RX11 246 "JugglingHallModel" "sum" "I") (by decide +kernel)) dX11_weigh_31 (fun H locs hP hD hS => ?_)
        refine lv_iconst (v := 0) hx hb dX11_weigh_34 (by decide) ?_
        refine lv_istore_n (lv' := [(3, .int 0), (0, .ref mm), (1, .int a), (2, .int z_1)]) hx hb dX11_weigh_35 rfl hl (by decide) rfl (fun ls hl => ?_)
        have loop36 : ∀ (ddloop36 : Nat) (i : Int32) (s6 : Int32) (gb : (Nat → Int32)) (H : Heap) (locs : List Loc) (ls : Array Slot), (30 - i.toInt).toNat < ddloop36 → (0 ≤ i.toInt ∧ i.toInt ≤ (f0 a.toInt.toNat).toInt) → (s6.toInt = cy_S f0 a.toInt (6 * i.toInt).toNat) → (∀ p9 : Int, 0 ≤ p9 → p9 < 3 * (f0 a.toInt.toNat).toInt → (gb p9.toNat).toInt = cy_L f0 a.toInt (f0 a.toInt.toNat).toInt p9 (6 * i.toInt).toNat - cy_T f0 a.toInt p9 (6 * i.toInt).toNat) → va_P D vwCl (mX mm q jn cI x0 x1 x2 x3 x4 x5 x6 x7 x8 x9 x10 x11 x12 x13 x14 x15 s6 x17 x18 x19 x20 f0 f1 f2 f3 f4 f5 f6 f7 f8 f9 f10 f11 gb f13 f14 f15 f16 f17 f18 f19 f20 f21 f22 f23 f24) H → va_D A (mX mm q jn cI x0 x1 x2 x3 x4 x5 x6 x7 x8 x9 x10 x11 x12 x13 x14 x15 s6 x17 x18 x19 x20 f0 f1 f2 f3 f4 f5 f6 f7 f8 f9 f10 f11 gb f13 f14 f15 f16 f17 f18 f19 f20 f21 f22 f23 f24) → va_S A s.heap H locs → lv_has ls 6 [(0, .ref mm), (1, .int a), (2, .int z_1), (3, .int i)] → W p l e ({ frames := 1, cells := 0, slots := 0, locals := 24 }) s m args below meth c H locs 0 0 Q (F0 m 36 ls []) := by
          intro ddloop36
          induction ddloop36 with
          | zero =>
            intro i s6 gb H locs ls hdd
            exact absurd hdd (Nat.not_lt_zero _)
          | succ ddloop36 ih36 =>
            intro i s6 gb H locs ls hdd hi hs6 hL hP hD hS hl
            refine lv_iload_n hx hb dX11_weigh_36 rfl (lv_at hl 3 rfl) ?_
            refine lv_iload_n hx hb dX11_weigh_37 rfl (lv_at hl 2 rfl) ?_
            refine a_icmp_ge (u := i.toInt) (v := z_1.toInt) (tgt := 147) hx hb dX11_weigh_38 (by decide) (rfl) (rfl) (fun c_4 => ?_) (fun c_4 => ?_)
            · have hi9 : i.toInt = (f0 a.toInt.toNat).toInt := by omega
              rw [hi9] at hL hs6
              refine lv_aload_n hx hb dX11_weigh_147 rfl (lv_at hl 0 rfl) ?_
              refine lv_iconst (v := (-1)) hx hb dX11_weigh_148 (by decide) ?_
              refine mp_15 hx hb hts (by decide +kernel) hown hK hP hD hS (hts (.fieldLink RX11 249 "JugglingHallModel" "bad" "I") (by decide +kernel)) dX11_weigh_149 (fun H locs hP hD hS => ?_)
              refine lv_iconst (v := 3) hx hb dX11_weigh_152 (by decide) ?_
              refine lv_iload_n hx hb dX11_weigh_153 rfl (lv_at hl 2 rfl) ?_
              refine a_imul (u := 3) (v := z_1.toInt) hx hb dX11_weigh_154 (by decide) (rfl) (by omega) (fun z_5 e_5 => ?_)
              refine lv_iconst (v := 1) hx hb dX11_weigh_155 (by decide) ?_
              refine a_isub (u := (3 * z_1.toInt)) (v := 1) hx hb dX11_weigh_156 (e_5) (by decide) (by omega) (fun z_6 e_6 => ?_)
              refine lv_istore_n (lv' := [(3, .int z_6), (0, .ref mm), (1, .int a), (2, .int z_1)]) hx hb dX11_weigh_157 rfl hl (by decide) rfl (fun ls hl => ?_)
              have loop158 : ∀ (ddloop158 : Nat) (k2 : Int32) (b5 : Int32) (H : Heap) (locs : List Loc) (ls : Array Slot), (k2.toInt + 2).toNat < ddloop158 → (-1 ≤ k2.toInt ∧ k2.toInt < 3 * (f0 a.toInt.toNat).toInt) → (-1 ≤ b5.toInt ∧ b5.toInt ≤ 71) → (b5.toInt < 0 → ∀ p9 : Int, k2.toInt < p9 → p9 < 3 * (f0 a.toInt.toNat).toInt → (gb p9.toNat).toInt = 0) → (0 ≤ b5.toInt → Hd (∃ p9 : Int, 0 ≤ p9 ∧ p9 < 3 * (f0 a.toInt.toNat).toInt ∧ (gb p9.toNat).toInt ≠ 0)) → va_P D vwCl (mX mm q jn cI x0 x1 x2 x3 x4 x5 x6 x7 x8 x9 x10 x11 x12 x13 x14 b5 s6 x17 x18 x19 x20 f0 f1 f2 f3 f4 f5 f6 f7 f8 f9 f10 f11 gb f13 f14 f15 f16 f17 f18 f19 f20 f21 f22 f23 f24) H → va_D A (mX mm q jn cI x0 x1 x2 x3 x4 x5 x6 x7 x8 x9 x10 x11 x12 x13 x14 b5 s6 x17 x18 x19 x20 f0 f1 f2 f3 f4 f5 f6 f7 f8 f9 f10 f11 gb f13 f14 f15 f16 f17 f18 f19 f20 f21 f22 f23 f24) → va_S A s.heap H locs → lv_has ls 6 [(0, .ref mm), (1, .int a), (2, .int z_1), (3, .int k2)] → W p l e ({ frames := 1, cells := 0, slots := 0, locals := 24 }) s m args below meth c H locs 0 0 Q (F0 m 158 ls []) := by
                intro ddloop158
                induction ddloop158 with
                | zero =>
                  intro k2 b5 H locs ls hdd
                  exact absurd hdd (Nat.not_lt_zero _)
                | succ ddloop158 ih158 =>
                  intro k2 b5 H locs ls hdd hk2 hb5 hb6 hb7 hP hD hS hl
                  refine lv_iload_n hx hb dX11_weigh_158 rfl (lv_at hl 3 rfl) ?_
                  refine a_if_lt (u := k2.toInt) (tgt := 182) hx hb dX11_weigh_159 (by decide) (rfl) (fun c_7 => ?_) (fun c_7 => ?_)
                  · exact g_vret (b5, s6, gb) hx hb hr hlocks hS rfl (⟨show -1 ≤ b5.toInt ∧ b5.toInt ≤ 71 from (by first | assumption | omega), show s6.toInt = cy_S f0 a.toInt (6 * (f0 a.toInt.toNat).toInt).toNat from (hs6), show b5.toInt < 0 → cy_G f0 a.toInt (f0 a.toInt.toNat).toInt from (fun q p9 h8 h9 => by have h6 := hb6 q p9 (by omega) h9; have h7 := hL p9 h8 h9; omega), show 0 ≤ b5.toInt → ¬ cy_G f0 a.toInt (f0 a.toInt.toNat).toInt from (fun q q9 => by
                      obtain ⟨p9, h8, h7, h6⟩ := hb7 q
                      have h5 := q9 p9 h8 h7
                      have h4 := hL p9 h8 h7
                      omega)⟩) hP hD hQ (Nat.le_of_ble_eq_true rfl) (Nat.le_of_ble_eq_true rfl) dX11_weigh_182
                  · refine lv_aload_n hx hb dX11_weigh_162 rfl (lv_at hl 0 rfl) ?_
                    refine va_get (D := D) (ci := 11) (v := .ref (q 12)) (C := RX11) (T := TX11) (N := 47) hx hb hts (by decide +kernel) hown hK.1 hP 0 rfl rfl 30 (by decide) (hts (.fieldLink RX11 54 "JugglingHallModel" "lands" "[I") (by decide +kernel)) (fun _ h9 => h9) rfl dX11_weigh_163 ?_
                    refine lv_iload_n hx hb dX11_weigh_166 rfl (lv_at hl 3 rfl) ?_
                    refine a_iald (f := gb) (u := k2.toInt) hx hb hK.1 hP 13 0 rfl rfl dX11_weigh_167 (rfl) (by omega) (fun z_8 q_8 e_8 => ?_)
                    refine a_if_eq (u := z_8.toInt) (tgt := 176) hx hb dX11_weigh_168 (by decide) (rfl) (fun c_9 => ?_) (fun c_9 => ?_)
                    · obtain ⟨z_10, q_10, e_10⟩ := i_inc (a := k2.toInt) (-1) (rfl) (by decide) (by omega) (by omega)
                      refine lv_iinc (v := z_10) (lv' := [(3, .int z_10), (0, .ref mm), (1, .int a), (2, .int z_1)]) hx hb dX11_weigh_176 hl (k := 3) rfl q_10 (by decide) rfl (fun ls hl => ?_)
                      refine lv_goto (tgt := 158) hx hb dX11_weigh_179 (by decide) ?_
                      exact ih158 z_10 b5 _ _ _ (by omega) (by first | assumption | omega) (by first | assumption | omega) (fun q p9 h8 h9 => by
                        by_cases q9 : p9 = k2.toInt
                        · rw [q9]; omega
                        · exact hb6 q p9 (by omega) h9) (hb7) hP hD hS (lv_sub hl [1, 2, 3, 0] rfl)
                    · refine lv_aload_n hx hb dX11_weigh_171 rfl (lv_at hl 0 rfl) ?_
                      refine lv_iload_n hx hb dX11_weigh_172 rfl (lv_at hl 3 rfl) ?_
                      refine mp_15 hx hb hts (by decide +kernel) hown hK hP hD hS (hts (.fieldLink RX11 249 "JugglingHallModel" "bad" "I") (by decide +kernel)) dX11_weigh_173 (fun H locs hP hD hS => ?_)
                      obtain ⟨z_11, q_11, e_11⟩ := i_inc (a := k2.toInt) (-1) (rfl) (by decide) (by omega) (by omega)
                      refine lv_iinc (v := z_11) (lv' := [(3, .int z_11), (0, .ref mm), (1, .int a), (2, .int z_1)]) hx hb dX11_weigh_176 hl (k := 3) rfl q_11 (by decide) rfl (fun ls hl => ?_)
                      refine lv_goto (tgt := 158) hx hb dX11_weigh_179 (by decide) ?_
                      exact ih158 z_11 k2 _ _ _ (by omega) (by first | assumption | omega) (by first | assumption | omega) (fun q => absurd q (by omega)) (fun _ => ⟨k2.toInt, by omega, by omega, by omega⟩) hP hD hS (lv_sub hl [1, 2, 3, 0] rfl)
              have hz_12 : (-1 : Int32).toInt = (-1) := by decide
              exact loop158 ((z_6.toInt + 2).toNat + 1) z_6 (-1 : Int32) _ _ _ (by omega) (by first | assumption | omega) (by first | assumption | omega) (fun _ p9 h8 h9 => absurd h8 (by omega)) (fun q => absurd q (by decide)) hP hD hS (lv_sub hl [1, 2, 3, 0] rfl)
            · refine lv_iconst (v := 0) hx hb dX11_weigh_41 (by decide) ?_
              refine lv_istore (lv' := [(4, .int 0), (0, .ref mm), (1, .int a), (2, .int z_1), (3, .int i)]) hx hb dX11_weigh_42 hl (by decide) rfl (fun ls hl => ?_)
              have loop44 : ∀ (ddloop44 : Nat) (x : Int32) (s7 : Int32) (gc : (Nat → Int32)) (H : Heap) (locs : List Loc) (ls : Array Slot), (10 - x.toInt).toNat < ddloop44 → (0 ≤ x.toInt ∧ x.toInt ≤ 6) → (s7.toInt = cy_S f0 a.toInt (6 * i.toInt + x.toInt).toNat) → (∀ p9 : Int, 0 ≤ p9 → p9 < 3 * (f0 a.toInt.toNat).toInt → (gc p9.toNat).toInt = cy_L f0 a.toInt (f0 a.toInt.toNat).toInt p9 (6 * i.toInt + x.toInt).toNat - cy_T f0 a.toInt p9 (6 * i.toInt + x.toInt).toNat) → va_P D vwCl (mX mm q jn cI x0 x1 x2 x3 x4 x5 x6 x7 x8 x9 x10 x11 x12 x13 x14 x15 s7 x17 x18 x19 x20 f0 f1 f2 f3 f4 f5 f6 f7 f8 f9 f10 f11 gc f13 f14 f15 f16 f17 f18 f19 f20 f21 f22 f23 f24) H → va_D A (mX mm q jn cI x0 x1 x2 x3 x4 x5 x6 x7 x8 x9 x10 x11 x12 x13 x14 x15 s7 x17 x18 x19 x20 f0 f1 f2 f3 f4 f5 f6 f7 f8 f9 f10 f11 gc f13 f14 f15 f16 f17 f18 f19 f20 f21 f22 f23 f24) → va_S A s.heap H locs → lv_has ls 6 [(0, .ref mm), (1, .int a), (2, .int z_1), (3, .int i), (4, .int x)] → W p l e ({ frames := 1, cells := 0, slots := 0, locals := 24 }) s m args below meth c H locs 0 0 Q (F0 m 44 ls []) := by
                intro ddloop44
                induction ddloop44 with
                | zero =>
                  intro x s7 gc H locs ls hdd
                  exact absurd hdd (Nat.not_lt_zero _)
                | succ ddloop44 ih44 =>
                  intro x s7 gc H locs ls hdd hx9 hs7 hL2 hP hD hS hl
                  refine lv_iload hx hb dX11_weigh_44 (lv_at hl 4 rfl) ?_
                  refine lv_bipush (v := 6) hx hb dX11_weigh_46 (by decide) ?_
                  refine a_icmp_ge (u := x.toInt) (v := 6) (tgt := 141) hx hb dX11_weigh_48 (by decide) (rfl) (by decide) (fun c_13 => ?_) (fun c_13 => ?_)
                  · obtain ⟨z_14, q_14, e_14⟩ := i_inc (a := i.toInt) (1) (rfl) (by decide) (by omega) (by omega)
                    refine lv_iinc (v := z_14) (lv' := [(3, .int z_14), (0, .ref mm), (1, .int a), (2, .int z_1), (4, .int x)]) hx hb dX11_weigh_141 hl (k := 3) rfl q_14 (by decide) rfl (fun ls hl => ?_)
                    refine lv_goto (tgt := 36) hx hb dX11_weigh_144 (by decide) ?_
                    exact ih36 z_14 s7 gc _ _ _ (by omega) (by first | assumption | omega) (by rw [show (6 * z_14.toInt).toNat = (6 * i.toInt + x.toInt).toNat by omega]; exact hs7) (by rw [show (6 * z_14.toInt).toNat = (6 * i.toInt + x.toInt).toNat by omega]; exact hL2) hP hD hS (lv_sub hl [1, 2, 3, 0] rfl)
                  · refine lv_aload_n hx hb dX11_weigh_51 rfl (lv_at hl 0 rfl) ?_
                    refine lv_iload_n hx hb dX11_weigh_52 rfl (lv_at hl 1 rfl) ?_
                    refine lv_iload_n hx hb dX11_weigh_53 rfl (lv_at hl 3 rfl) ?_
                    refine lv_iload hx hb dX11_weigh_54 (lv_at hl 4 rfl) ?_
                    refine lv_iconst (v := 2) hx hb dX11_weigh_56 (by decide) ?_
                    refine a_idiv (u := x.toInt) (v := 2) hx hb dX11_weigh_57 (rfl) (by decide) (by omega) (fun z_15 e_15 => ?_)
                    refine lv_iload hx hb dX11_weigh_58 (lv_at hl 4 rfl) ?_
                    refine lv_iconst (v := 2) hx hb dX11_weigh_60 (by decide) ?_
                    refine a_irem (u := x.toInt) (v := 2) hx hb dX11_weigh_61 (rfl) (by decide) (by omega) (fun z_16 e_16 h_16 k_16 => ?_)
                    have hsb := cy_Sb hr6 (6 * i.toInt + x.toInt).toNat (by omega)
                    refine roP (va_runV (As := [.int a, .int i, .int z_15, .int z_16]) (rest := []) ⟨hx, hb, hml, hown, hts⟩ (k_heightAt2 l D cI cR cM _  (by first | assumption | omega) (hr0) (by first | assumption | omega) (by first | assumption | omega) (by first | assumption | omega)) (cwV 4 hts gX11_weigh_X11_heightAt rfl rfl rfl (by decide +kernel) ⟨Nat.le_of_ble_eq_true rfl, Nat.le_of_ble_eq_true rfl⟩) (pre_V hK hP hD 0 11 rfl rfl) rfl rfl hl.1 rfl (lv_room (Nat.le_of_ble_eq_true rfl)) dX11_weigh_62 ⟨Nat.le_of_ble_eq_true rfl, Nat.le_of_ble_eq_true rfl⟩) hS hA hP (fun r_17 H locs hw hP hS => ?_)
                    obtain ⟨h_17, hx_17⟩ : (0 ≤ r_17.toInt ∧ r_17.toInt ≤ 9) ∧ (r_17.toInt = (f0 (a.toInt + 1 + 6 * i.toInt + 2 * z_15.toInt + z_16.toInt).toNat).toInt / 4) := hw
                    have hh9 : r_17.toInt = cy_h f0 a.toInt (6 * i.toInt + x.toInt) := by
                      rw [hx_17]; unfold cy_h
                      congr 3
                      omega
                    refine lv_istore (lv' := [(5, .int r_17), (0, .ref mm), (1, .int a), (2, .int z_1), (3, .int i), (4, .int x)]) hx hb dX11_weigh_65 hl (by decide) rfl (fun ls hl => ?_)
                    refine lv_iload hx hb dX11_weigh_67 (lv_at hl 0 rfl) ?_
                    refine a_if_ne (u := r_17.toInt) (tgt := 75) hx hb dX11_weigh_69 (by decide) (rfl) (fun c_18 => ?_) (fun c_18 => ?_)
                    · refine lv_aload_n hx hb dX11_weigh_75 rfl (lv_at hl 1 rfl) ?_
                      refine lv_dup hx hb dX11_weigh_76 rfl ?_
                      refine va_get (D := D) (ci := 11) (v := .int s7) (C := RX11) (T := TX11) (N := 47) hx hb hts (by decide +kernel) hown hK.1 hP 0 rfl rfl 29 (by decide) (hts (.fieldLink RX11 246 "JugglingHallModel" "sum" "I") (by decide +kernel)) (fun _ h9 => h9) rfl dX11_weigh_77 ?_
                      refine lv_iload hx hb dX11_weigh_80 (lv_at hl 0 rfl) ?_
                      refine a_iadd (u := s7.toInt) (v := r_17.toInt) hx hb dX11_weigh_82 (rfl) (rfl) (by omega) (fun z_19 e_19 => ?_)
                      refine mp_16 hx hb hts (by decide +kernel) hown hK hP hD hS (hts (.fieldLink RX11 246 "JugglingHallModel" "sum" "I") (by decide +kernel)) dX11_weigh_83 (fun H locs hP hD hS => ?_)
                      refine lv_aload_n hx hb dX11_weigh_86 rfl (lv_at hl 1 rfl) ?_
                      refine va_get (D := D) (ci := 11) (v := .ref (q 12)) (C := RX11) (T := TX11) (N := 47) hx hb hts (by decide +kernel) hown hK.1 hP 0 rfl rfl 30 (by decide) (hts (.fieldLink RX11 54 "JugglingHallModel" "lands" "[I") (by decide +kernel)) (fun _ h9 => h9) rfl dX11_weigh_87 ?_
                      refine lv_iconst (v := 3) hx hb dX11_weigh_90 (by decide) ?_
                      refine lv_iload_n hx hb dX11_weigh_91 rfl (lv_at hl 4 rfl) ?_
                      refine a_imul (u := 3) (v := i.toInt) hx hb dX11_weigh_92 (by decide) (rfl) (by omega) (fun z_20 e_20 => ?_)
                      refine lv_iload hx hb dX11_weigh_93 (lv_at hl 5 rfl) ?_
                      refine lv_iconst (v := 2) hx hb dX11_weigh_95 (by decide) ?_
                      refine a_idiv (u := x.toInt) (v := 2) hx hb dX11_weigh_96 (rfl) (by decide) (by omega) (fun z_21 e_21 => ?_)
                      refine a_iadd (u := (3 * i.toInt)) (v := (x.toInt / 2)) hx hb dX11_weigh_97 (e_20) (e_21) (by omega) (fun z_22 e_22 => ?_)
                      refine lv_dup2_11 hx hb dX11_weigh_98 rfl rfl ?_
                      refine a_iald (f := gc) (u := ((3 * i.toInt) + (x.toInt / 2))) hx hb hK.1 hP 13 0 rfl rfl dX11_weigh_99 (e_22) (by omega) (fun z_23 q_23 e_23 => ?_)
                      have hLa := hL2 (((3 * i.toInt) + (x.toInt / 2))) (by omega) (by omega)
                      have hLb := cy_Lb f0 a.toInt (f0 a.toInt.toNat).toInt (((3 * i.toInt) + (x.toInt / 2))) (6 * i.toInt + x.toInt).toNat
                      have hLc := cy_Tb f0 a.toInt (((3 * i.toInt) + (x.toInt / 2))) (6 * i.toInt + x.toInt).toNat
                      refine lv_iconst (v := 1) hx hb dX11_weigh_100 (by decide) ?_
                      refine a_isub (u := z_23.toInt) (v := 1) hx hb dX11_weigh_101 (rfl) (by decide) (by omega) (fun z_24 e_24 => ?_)
                      refine ma_12 (u := ((3 * i.toInt) + (x.toInt / 2))) hx hb hK hP hD hS dX11_weigh_102 (e_22) (by omega) (fun g_25 H locs eg_25 hP hD hS => ?_)
                      refine lv_aload_n hx hb dX11_weigh_103 rfl (lv_at hl 1 rfl) ?_
                      refine va_get (D := D) (ci := 11) (v := .ref (q 12)) (C := RX11) (T := TX11) (N := 47) hx hb hts (by decide +kernel) hown hK.1 hP 0 rfl rfl 30 (by decide) (hts (.fieldLink RX11 54 "JugglingHallModel" "lands" "[I") (by decide +kernel)) (fun _ h9 => h9) rfl dX11_weigh_104 ?_
                      refine lv_iconst (v := 3) hx hb dX11_weigh_107 (by decide) ?_
                      refine lv_iload_n hx hb dX11_weigh_108 rfl (lv_at hl 4 rfl) ?_
                      refine lv_iload hx hb dX11_weigh_109 (lv_at hl 0 rfl) ?_
                      refine a_iadd (u := i.toInt) (v := r_17.toInt) hx hb dX11_weigh_111 (rfl) (rfl) (by omega) (fun z_26 e_26 => ?_)
                      refine lv_iload_n hx hb dX11_weigh_112 rfl (lv_at hl 3 rfl) ?_
                      refine a_irem (u := (i.toInt + r_17.toInt)) (v := z_1.toInt) hx hb dX11_weigh_113 (e_26) (rfl) (by omega) (fun z_27 e_27 h_27 k_27 => ?_)
                      refine a_imul (u := 3) (v := z_27.toInt) hx hb dX11_weigh_114 (by decide) (rfl) (by omega) (fun z_28 e_28 => ?_)
                      refine lv_aload_n hx hb dX11_weigh_115 rfl (lv_at hl 1 rfl) ?_
                      refine lv_iload_n hx hb dX11_weigh_116 rfl (lv_at hl 2 rfl) ?_
                      refine lv_iload_n hx hb dX11_weigh_117 rfl (lv_at hl 4 rfl) ?_
                      refine lv_iload hx hb dX11_weigh_118 (lv_at hl 5 rfl) ?_
                      refine lv_iconst (v := 2) hx hb dX11_weigh_120 (by decide) ?_
                      refine a_idiv (u := x.toInt) (v := 2) hx hb dX11_weigh_121 (rfl) (by decide) (by omega) (fun z_29 e_29 => ?_)
                      refine lv_iload hx hb dX11_weigh_122 (lv_at hl 5 rfl) ?_
                      refine lv_iconst (v := 2) hx hb dX11_weigh_124 (by decide) ?_
                      refine a_irem (u := x.toInt) (v := 2) hx hb dX11_weigh_125 (rfl) (by decide) (by omega) (fun z_30 e_30 h_30 k_30 => ?_)
                      refine roP (va_runV (As := [.int a, .int i, .int z_29, .int z_30]) (rest := [.int z_28, .ref (q 12)]) ⟨hx, hb, hml, hown, hts⟩ (k_toAt2 l D cI cR cM _  (by first | assumption | omega) (hr0) (by first | assumption | omega) (by first | assumption | omega) (by first | assumption | omega)) (cwV 4 hts gX11_weigh_X11_toAt rfl rfl rfl (by decide +kernel) ⟨Nat.le_of_ble_eq_true rfl, Nat.le_of_ble_eq_true rfl⟩) (pre_V hK hP hD 0 11 rfl rfl) rfl rfl hl.1 rfl (lv_room (Nat.le_of_ble_eq_true rfl)) dX11_weigh_126 ⟨Nat.le_of_ble_eq_true rfl, Nat.le_of_ble_eq_true rfl⟩) hS hA hP (fun r_31 H locs hw hP hS => ?_)
                      obtain ⟨h_31, hx_31⟩ : (0 ≤ r_31.toInt ∧ r_31.toInt < (jn : Int)) ∧ (r_31.toInt = (f0 (a.toInt + 1 + 6 * i.toInt + 2 * z_29.toInt + z_30.toInt).toNat).toInt % 4) := hw
                      have ht9 : r_31.toInt = (f0 (a.toInt + 1 + (6 * i.toInt + x.toInt)).toNat).toInt % 4 := by
                        rw [hx_31]
                        congr 3
                        omega
                      refine a_iadd (u := (3 * z_27.toInt)) (v := r_31.toInt) hx hb dX11_weigh_129 (e_28) (rfl) (by omega) (fun z_32 e_32 => ?_)
                      have hbi : cy_b f0 a.toInt (f0 a.toInt.toNat).toInt (6 * i.toInt + x.toInt) = ((3 * z_27.toInt) + r_31.toInt) := by
                        unfold cy_b
                        rw [← hh9, ← ht9, show (6 * i.toInt + x.toInt) / 6 = i.toInt by omega, ← hn9]
                        omega
                      have hbx := cy_bb hj.2 hr3 hr6 (t := 6 * i.toInt + x.toInt) (by omega) (by omega)
                      refine lv_dup2_11 hx hb dX11_weigh_130 rfl rfl ?_
                      refine a_iald (f := g_25) (u := ((3 * z_27.toInt) + r_31.toInt)) hx hb hK.1 hP 13 0 rfl rfl dX11_weigh_131 (e_32) (by omega) (fun z_33 q_33 e_33 => ?_)
                      have hLd : -400 ≤ (g_25 (((3 * z_27.toInt) + r_31.toInt)).toNat).toInt ∧ (g_25 (((3 * z_27.toInt) + r_31.toInt)).toNat).toInt ≤ 400 := by
                        by_cases q : ((3 * z_27.toInt) + r_31.toInt) = ((3 * i.toInt) + (x.toInt / 2))
                        · rw [eg_25, q, pk_us]; omega
                        · rw [eg_25, un_i (by omega) (by omega) q]
                          have h6 := hL2 (((3 * z_27.toInt) + r_31.toInt)) (by omega) (by omega)
                          have h7 := cy_Lb f0 a.toInt (f0 a.toInt.toNat).toInt (((3 * z_27.toInt) + r_31.toInt)) (6 * i.toInt + x.toInt).toNat
                          have h8 := cy_Tb f0 a.toInt (((3 * z_27.toInt) + r_31.toInt)) (6 * i.toInt + x.toInt).toNat
                          omega
                      refine lv_iconst (v := 1) hx hb dX11_weigh_132 (by decide) ?_
                      refine a_iadd (u := z_33.toInt) (v := 1) hx hb dX11_weigh_133 (rfl) (by decide) (by omega) (fun z_34 e_34 => ?_)
                      refine ma_12 (u := ((3 * z_27.toInt) + r_31.toInt)) hx hb hK hP hD hS dX11_weigh_134 (e_32) (by omega) (fun g_35 H locs eg_35 hP hD hS => ?_)
                      obtain ⟨z_36, q_36, e_36⟩ := i_inc (a := x.toInt) (1) (rfl) (by decide) (by omega) (by omega)
                      refine lv_iinc (v := z_36) (lv' := [(4, .int z_36), (5, .int r_17), (0, .ref mm), (1, .int a), (2, .int z_1), (3, .int i)]) hx hb dX11_weigh_135 hl (k := 5) rfl q_36 (by decide) rfl (fun ls hl => ?_)
                      refine lv_goto (tgt := 44) hx hb dX11_weigh_138 (by decide) ?_
                      exact ih44 z_36 z_19 g_35 _ _ _ (by omega) (by first | assumption | omega) (by rw [show (6 * i.toInt + z_36.toInt).toNat = (6 * i.toInt + x.toInt + 1).toNat by omega, cy_Ss (by omega)]; omega) (by rw [show (6 * i.toInt + z_36.toInt).toNat = (6 * i.toInt + x.toInt + 1).toNat by omega]; exact cy_ws hL2 (by omega) (by omega) (show (6 * i.toInt + x.toInt) / 2 = ((3 * i.toInt) + (x.toInt / 2)) by omega) hbi (by omega) (by omega) eg_25 (by omega) eg_35 (by omega)) hP hD hS (lv_sub hl [2, 3, 4, 5, 0] rfl)
                    · refine lv_goto (tgt := 135) hx hb dX11_weigh_72 (by decide) ?_
                      obtain ⟨z_37, q_37, e_37⟩ := i_inc (a := x.toInt) (1) (rfl) (by decide) (by omega) (by omega)
                      refine lv_iinc (v := z_37) (lv' := [(4, .int z_37), (5, .int r_17), (0, .ref mm), (1, .int a), (2, .int z_1), (3, .int i)]) hx hb dX11_weigh_135 hl (k := 5) rfl q_37 (by decide) rfl (fun ls hl => ?_)
                      refine lv_goto (tgt := 44) hx hb dX11_weigh_138 (by decide) ?_
                      exact ih44 z_37 s7 gc _ _ _ (by omega) (by first | assumption | omega) (by rw [show (6 * i.toInt + z_37.toInt).toNat = (6 * i.toInt + x.toInt + 1).toNat by omega, cy_Ss (by omega)]; omega) (by rw [show (6 * i.toInt + z_37.toInt).toNat = (6 * i.toInt + x.toInt + 1).toNat by omega]; exact cy_w0 hL2 (by omega) (by omega)) hP hD hS (lv_sub hl [2, 3, 4, 5, 0] rfl)
              have hz_38 : (0 : Int32).toInt = 0 := by decide
              exact loop44 ((10 - (0 : Int32).toInt).toNat + 1) (0 : Int32) s6 gb _ _ _ (by omega) (by first | assumption | omega) (by rw [z32, Int.add_zero]; exact hs6) (by rw [z32, Int.add_zero]; exact hL) hP hD hS (lv_sub hl [1, 2, 3, 4, 0] rfl)
        have hz_39 : (0 : Int32).toInt = 0 := by decide
        have hz_40 : (0 : Int32).toInt = 0 := by decide
        exact loop36 ((30 - (0 : Int32).toInt).toNat + 1) (0 : Int32) (0 : Int32) ga _ _ _ (by omega) (by first | assumption | omega) (by rw [show (6 * (0 : Int32).toInt).toNat = 0 by decide]; exact z32) (fun p9 h8 h9 => by
          rw [show (6 * (0 : Int32).toInt).toNat = 0 by decide, hz0 p9 h8 (by omega)]; rfl) hP hD hS (lv_sub hl [1, 2, 3, 0] rfl)
      · refine lv_aload_n hx hb dX11_weigh_16 rfl (lv_at hl 0 rfl) ?_
        refine va_get (D := D) (ci := 11) (v := .ref (q 12)) (C := RX11) (T := TX11) (N := 47) hx hb hts (by decide +kernel) hown hK.1 hP 0 rfl rfl 30 (by decide) (hts (.fieldLink RX11 54 "JugglingHallModel" "lands" "[I") (by decide +kernel)) (fun _ h9 => h9) rfl dX11_weigh_17 ?_
        refine lv_iload_n hx hb dX11_weigh_20 rfl (lv_at hl 3 rfl) ?_
        refine lv_iconst (v := 0) hx hb dX11_weigh_21 (by decide) ?_
        refine ma_12 (u := k.toInt) hx hb hK hP hD hS dX11_weigh_22 (rfl) (by omega) (fun g_41 H locs eg_41 hP hD hS => ?_)
        obtain ⟨z_42, q_42, e_42⟩ := i_inc (a := k.toInt) (1) (rfl) (by decide) (by omega) (by omega)
        refine lv_iinc (v := z_42) (lv' := [(3, .int z_42), (0, .ref mm), (1, .int a), (2, .int z_1)]) hx hb dX11_weigh_23 hl (k := 3) rfl q_42 (by decide) rfl (fun ls hl => ?_)
        refine lv_goto (tgt := 9) hx hb dX11_weigh_26 (by decide) ?_
        exact ih9 z_42 g_41 _ _ _ (by omega) (by first | assumption | omega) (fun i9 h8 h9 => by
          by_cases q : i9 = k.toInt
          · rw [eg_41, q, pk_us]; decide
          · rw [eg_41, un_i (by omega) (by omega) (by omega)]; exact hz0 i9 h8 (by omega)) hP hD hS (lv_sub hl [1, 2, 3, 0] rfl)
  have hz_43 : (0 : Int32).toInt = 0 := by decide
  exact loop9 ((100 - (0 : Int32).toInt).toNat + 1) (0 : Int32) f12 _ _ _ (by omega) (by first | assumption | omega) (fun i9 h8 h9 => absurd h9 (by omega)) hP hD hS (lv_sub hl [2, 3, 1, 0] rfl)
set_option maxRecDepth 100000 in
set_option maxHeartbeats 4000000 in
theorem k_isGood3 (l : Launch) (D : va_G) (cI cR cM : ClassId) (sz : Nat) {jn mm : Nat} {q : Nat → Nat} {x0 x1 x2 x3 x4 x5 x6 x7 x8 x9 x10 x11 x12 x13 x14 x15 x16 x17 x18 x19 x20 : Int32} {f0 f1 f2 f3 f4 f5 f6 f7 f8 f9 f10 f11 f12 f13 f14 f15 f16 f17 f18 f19 f20 f21 f22 f23 f24 : Nat → Int32} {a : Int32}  (hj : 1 ≤ jn ∧ jn ≤ 3) (hr0 : a.toInt = -1 ∨ IsRow jn f0 a.toInt) : Met l yX11_isGood wsX11_isGood ({ frames := 2, cells := 0, slots := 0, locals := 49 }) (P0 D cI cR cM [.ref mm, .int a] sz (mX mm q jn cI x0 x1 x2 x3 x4 x5 x6 x7 x8 x9 x10 x11 x12 x13 x14 x15 x16 x17 x18 x19 x20 f0 f1 f2 f3 f4 f5 f6 f7 f8 f9 f10 f11 f12 f13 f14 f15 f16 f17 f18 f19 f20 f21 f22 f23 f24)) (QG (S := Int32 × Int32 × Int32 × (Nat → Int32)) (fun u => some (.int u.1)) (fun u => mX mm q jn cI x0 x1 x2 x3 x4 x5 x6 x7 x8 x9 x10 x11 x12 x13 x14 (u.2.1) (u.2.2.1) x17 x18 x19 x20 f0 f1 f2 f3 f4 f5 f6 f7 f8 f9 f10 f11 (u.2.2.2) f13 f14 f15 f16 f17 f18 f19 f20 f21 f22 f23 f24) (fun u => (u.1.toInt = 0 ∨ u.1.toInt = 1) ∧ (u.1.toInt = 1 → 0 ≤ a.toInt) ∧ (u.1.toInt = 1 → u.2.2.1.toInt = cy_S f0 a.toInt (6 * (f0 a.toInt.toNat).toInt).toNat) ∧ (u.1.toInt = 1 → cy_G f0 a.toInt (f0 a.toInt.toNat).toInt) ∧ (u.1.toInt = 0 → a.toInt = -1 ∨ ¬ cy_G f0 a.toInt (f0 a.toInt.toNat).toInt)) D (va_A (mX mm q jn cI x0 x1 x2 x3 x4 x5 x6 x7 x8 x9 x10 x11 x12 x13 x14 x15 x16 x17 x18 x19 x20 f0 f1 f2 f3 f4 f5 f6 f7 f8 f9 f10 f11 f12 f13 f14 f15 f16 f17 f18 f19 f20 f21 f22 f23 f24) sz)) 0 0 (va_A (mX mm q jn cI x0 x1 x2 x3 x4 x5 x6 x7 x8 x9 x10 x11 x12 x13 x14 x15 x16 x17 x18 x19 x20 f0 f1 f2 f3 f4 f5 f6 f7 f8 f9 f10 f11 f12 f13 f14 f15 f16 f17 f18 f19 f20 f21 f22 f23 f24) sz) := by
  refine go (cc := cX11_isGood) (maxL := 2) (ret := (some .boolean)) (by decide) rfl (Nat.le_of_ble_eq_true rfl) ?_
  intro p e s m below meth c ls args Q hQ hsz hx hb hr hml hts hown hlocks hnm hP hK hD hl
  subst hsz
  have hD := hD.self (sz := s.heap.size)
  generalize hAe : va_A (mX mm q jn cI x0 x1 x2 x3 x4 x5 x6 x7 x8 x9 x10 x11 x12 x13 x14 x15 x16 x17 x18 x19 x20 f0 f1 f2 f3 f4 f5 f6 f7 f8 f9 f10 f11 f12 f13 f14 f15 f16 f17 f18 f19 f20 f21 f22 f23 f24) s.heap.size = A at hD hQ
  have hA : ∀ q, s.heap.size ≤ q → A q := fun q h => by rw [← hAe]; exact Or.inr h
  have hS : va_S A s.heap s.heap [] := va_S.rf
  have hl : lv_has ls 2 [(0, .ref mm), (1, .int a)] := hl
  refine lv_iload_n hx hb dX11_isGood_0 rfl (lv_at hl 1 rfl) ?_
  refine a_if_ge (u := a.toInt) (tgt := 6) hx hb dX11_isGood_1 (by decide) (rfl) (fun c_1 => ?_) (fun c_1 => ?_)
  · refine lv_aload_n hx hb dX11_isGood_6 rfl (lv_at hl 0 rfl) ?_
    refine lv_iload_n hx hb dX11_isGood_7 rfl (lv_at hl 1 rfl) ?_
    refine call_g (wr := []) (va_runV (As := [.int a]) (rest := []) ⟨hx, hb, hml, hown, hts⟩ (k_weigh3 l D cI cR cM _  (by first | assumption | omega) (hr0.resolve_left (by omega))) (cwV 1 hts gX11_isGood_X11_weigh rfl rfl rfl (by decide +kernel) ⟨Nat.le_of_ble_eq_true rfl, Nat.le_of_ble_eq_true rfl⟩) (pre_V hK hP hD 0 11 rfl rfl) rfl rfl hl.1 rfl (lv_room (Nat.le_of_ble_eq_true rfl)) dX11_isGood_8 ⟨Nat.le_of_ble_eq_true rfl, Nat.le_of_ble_eq_true rfl⟩) hP hD hS hA [0, 1, 2, 3, 4, 5, 6, 7, 8, 9, 10, 11, 12, 13, 14, 15, 16, 17, 18, 19, 20, 21, 22, 23, 24, 25] [] (by with_unfolding_all rfl) rfl (by decide) (by decide) (fun u_2 H locs hw hP hD hS => ?_)
    obtain ⟨y15_2, y16_2, g12_2⟩ := u_2
    have hP : va_P D vwCl (mX mm q jn cI x0 x1 x2 x3 x4 x5 x6 x7 x8 x9 x10 x11 x12 x13 x14 y15_2 y16_2 x17 x18 x19 x20 f0 f1 f2 f3 f4 f5 f6 f7 f8 f9 f10 f11 g12_2 f13 f14 f15 f16 f17 f18 f19 f20 f21 f22 f23 f24) H := hP
    have hD : va_D A (mX mm q jn cI x0 x1 x2 x3 x4 x5 x6 x7 x8 x9 x10 x11 x12 x13 x14 y15_2 y16_2 x17 x18 x19 x20 f0 f1 f2 f3 f4 f5 f6 f7 f8 f9 f10 f11 g12_2 f13 f14 f15 f16 f17 f18 f19 f20 f21 f22 f23 f24) := hD
    obtain ⟨hb_2, hs_2, hg_2, hng_2⟩ : (-1 ≤ y15_2.toInt ∧ y15_2.toInt ≤ 71) ∧ (y16_2.toInt = cy_S f0 a.toInt (6 * (f0 a.toInt.toNat).toInt).toNat) ∧ (y15_2.toInt < 0 → cy_G f0 a.toInt (f0 a.toInt.toNat).toInt) ∧ (0 ≤ y15_2.toInt → ¬ cy_G f0 a.toInt (f0 a.toInt.toNat).toInt) := hw
    refine lv_aload_n hx hb dX11_isGood_11 rfl (lv_at hl 0 rfl) ?_
    refine va_get (D := D) (ci := 11) (v := .int y15_2) (C := RX11) (T := TX11) (N := 47) hx hb hts (by decide +kernel) hown hK.1 hP 0 rfl rfl 28 (by decide) (hts (.fieldLink RX11 249 "JugglingHallModel" "bad" "I") (by decide +kernel)) (fun _ h9 => h9) rfl dX11_isGood_12 ?_
    refine a_if_ge (u := y15_2.toInt) (tgt := 22) hx hb dX11_isGood_15 (by decide) (rfl) (fun c_3 => ?_) (fun c_3 => ?_)
    · refine lv_iconst (v := 0) hx hb dX11_isGood_22 (by decide) ?_
      have hz_4 : (0 : Int32).toInt = 0 := by decide
      exact g_zret ((0 : Int32), y15_2, y16_2, g12_2) hx hb hr hlocks hS (by first | exact Or.inl rfl | exact Or.inr rfl) rfl (⟨show (0 : Int32).toInt = 0 ∨ (0 : Int32).toInt = 1 from (by first | assumption | omega), show (0 : Int32).toInt = 1 → 0 ≤ a.toInt from (by first | assumption | omega), show (0 : Int32).toInt = 1 → y16_2.toInt = cy_S f0 a.toInt (6 * (f0 a.toInt.toNat).toInt).toNat from (by first | assumption | omega), show (0 : Int32).toInt = 1 → cy_G f0 a.toInt (f0 a.toInt.toNat).toInt from (fun q => absurd q (by decide)), show (0 : Int32).toInt = 0 → a.toInt = -1 ∨ ¬ cy_G f0 a.toInt (f0 a.toInt.toNat).toInt from (fun _ => Or.inr (hng_2 (by omega)))⟩) hP hD hQ (Nat.le_of_ble_eq_true rfl) (Nat.le_of_ble_eq_true rfl) dX11_isGood_23
    · refine lv_iconst (v := 1) hx hb dX11_isGood_18 (by decide) ?_
      refine lv_goto (tgt := 23) hx hb dX11_isGood_19 (by decide) ?_
      have hz_5 : (1 : Int32).toInt = 1 := by decide
      exact g_zret ((1 : Int32), y15_2, y16_2, g12_2) hx hb hr hlocks hS (by first | exact Or.inl rfl | exact Or.inr rfl) rfl (⟨show (1 : Int32).toInt = 0 ∨ (1 : Int32).toInt = 1 from (by first | assumption | omega), show (1 : Int32).toInt = 1 → 0 ≤ a.toInt from (by first | assumption | omega), show (1 : Int32).toInt = 1 → y16_2.toInt = cy_S f0 a.toInt (6 * (f0 a.toInt.toNat).toInt).toNat from (by first | assumption | omega), show (1 : Int32).toInt = 1 → cy_G f0 a.toInt (f0 a.toInt.toNat).toInt from (fun _ => hg_2 (by omega)), show (1 : Int32).toInt = 0 → a.toInt = -1 ∨ ¬ cy_G f0 a.toInt (f0 a.toInt.toNat).toInt from (fun q => absurd q (by decide))⟩) hP hD hQ (Nat.le_of_ble_eq_true rfl) (Nat.le_of_ble_eq_true rfl) dX11_isGood_23
  · refine lv_iconst (v := 0) hx hb dX11_isGood_4 (by decide) ?_
    have hz_6 : (0 : Int32).toInt = 0 := by decide
    exact g_zret ((0 : Int32), x15, x16, f12) hx hb hr hlocks hS (by first | exact Or.inl rfl | exact Or.inr rfl) rfl (⟨show (0 : Int32).toInt = 0 ∨ (0 : Int32).toInt = 1 from (by first | assumption | omega), show (0 : Int32).toInt = 1 → 0 ≤ a.toInt from (by first | assumption | omega), show (0 : Int32).toInt = 1 → x16.toInt = cy_S f0 a.toInt (6 * (f0 a.toInt.toNat).toInt).toNat from (by first | assumption | omega), show (0 : Int32).toInt = 1 → cy_G f0 a.toInt (f0 a.toInt.toNat).toInt from (fun q => absurd q (by decide)), show (0 : Int32).toInt = 0 → a.toInt = -1 ∨ ¬ cy_G f0 a.toInt (f0 a.toInt.toNat).toInt from (fun _ => Or.inl (hr0.elim id (fun q9 => by have := q9.1; omega)))⟩) hP hD hQ (Nat.le_of_ble_eq_true rfl) (Nat.le_of_ble_eq_true rfl) dX11_isGood_5
set_option maxRecDepth 100000 in
set_option maxHeartbeats 4000000 in
theorem k_isPlainRow3 (l : Launch) (D : va_G) (cI cR cM : ClassId) (sz : Nat) {jn mm : Nat} {q : Nat → Nat} {x0 x1 x2 x3 x4 x5 x6 x7 x8 x9 x10 x11 x12 x13 x14 x15 x16 x17 x18 x19 x20 : Int32} {f0 f1 f2 f3 f4 f5 f6 f7 f8 f9 f10 f11 f12 f13 f14 f15 f16 f17 f18 f19 f20 f21 f22 f23 f24 : Nat → Int32} {a : Int32}  (hj : 1 ≤ jn ∧ jn ≤ 3) (hrow9 : IsRow jn f0 a.toInt) (hj1 : jn = 1) : Met l yX11_isPlainRow wsX11_isPlainRow ({ frames := 1, cells := 0, slots := 0, locals := 24 }) (P0 D cI cR cM [.ref mm, .int a] sz (mX mm q jn cI x0 x1 x2 x3 x4 x5 x6 x7 x8 x9 x10 x11 x12 x13 x14 x15 x16 x17 x18 x19 x20 f0 f1 f2 f3 f4 f5 f6 f7 f8 f9 f10 f11 f12 f13 f14 f15 f16 f17 f18 f19 f20 f21 f22 f23 f24)) (QP (fun r => (r.toInt = 0 ∨ r.toInt = 1) ∧ (r.toInt = 1 → ∀ i9 : Int, 0 ≤ i9 → i9 < (f0 a.toInt.toNat).toInt → cy_h f0 a.toInt (6 * i9 + 1) = 0) ∧ (r.toInt = 0 → ¬ (∀ i9 : Int, 0 ≤ i9 → i9 < (f0 a.toInt.toNat).toInt → cy_h f0 a.toInt (6 * i9 + 1) = 0))) sz) 0 0 (va_A [] sz) := by
  refine go (cc := cX11_isPlainRow) (maxL := 3) (ret := (some .boolean)) (by decide) rfl (Nat.le_of_ble_eq_true rfl) ?_
  intro p e s m below meth c ls args Q hQ hsz hx hb hr hml hts hown hlocks hnm hP hK hD hl
  subst hsz
  have hS : va_S (va_A [] s.heap.size) s.heap s.heap [] := va_S.rf
  have hA : ∀ q, s.heap.size ≤ q → va_A [] s.heap.size q := fun q h => Or.inr h
  have hl : lv_has ls 3 [(0, .ref mm), (1, .int a)] := hl
  have hr0 := hrow9
  obtain ⟨hr1, hr2, hr3, hr4, hr5, hr6⟩ := hrow9
  refine lv_iconst (v := 0) hx hb dX11_isPlainRow_0 (by decide) ?_
  refine lv_istore_n (lv' := [(2, .int 0), (0, .ref mm), (1, .int a)]) hx hb dX11_isPlainRow_1 rfl hl (by decide) rfl (fun ls hl => ?_)
  have loop2 : ∀ (ddloop2 : Nat) (i : Int32) (H : Heap) (locs : List Loc) (ls : Array Slot), (30 - i.toInt).toNat < ddloop2 → (0 ≤ i.toInt ∧ i.toInt ≤ (f0 a.toInt.toNat).toInt) → (∀ i9 : Int, 0 ≤ i9 → i9 < i.toInt → cy_h f0 a.toInt (6 * i9 + 1) = 0) → va_P D vwCl (mX mm q jn cI x0 x1 x2 x3 x4 x5 x6 x7 x8 x9 x10 x11 x12 x13 x14 x15 x16 x17 x18 x19 x20 f0 f1 f2 f3 f4 f5 f6 f7 f8 f9 f10 f11 f12 f13 f14 f15 f16 f17 f18 f19 f20 f21 f22 f23 f24) H → va_S (va_A [] s.heap.size) s.heap H locs → lv_has ls 3 [(0, .ref mm), (1, .int a), (2, .int i)] → W p l e ({ frames := 1, cells := 0, slots := 0, locals := 24 }) s m args below meth c H locs 0 0 Q (F0 m 2 ls []) := by
    intro ddloop2
    induction ddloop2 with
    | zero =>
      intro i H locs ls hdd
      exact absurd hdd (Nat.not_lt_zero _)
    | succ ddloop2 ih2 =>
      intro i H locs ls hdd hi hpl hP hS hl
      refine lv_iload_n hx hb dX11_isPlainRow_2 rfl (lv_at hl 2 rfl) ?_
      refine lv_aload_n hx hb dX11_isPlainRow_3 rfl (lv_at hl 0 rfl) ?_
      refine va_get (D := D) (ci := 11) (v := .ref (q 0)) (C := RX11) (T := TX11) (N := 47) hx hb hts (by decide +kernel) hown hK.1 hP 0 rfl rfl 1 (by decide) (hts (.fieldLink RX11 8 "JugglingHallModel" "rows" "[I") (by decide +kernel)) (fun _ h9 => h9) rfl dX11_isPlainRow_4 ?_
      refine lv_iload_n hx hb dX11_isPlainRow_7 rfl (lv_at hl 1 rfl) ?_
      refine a_iald (f := f0) (u := a.toInt) hx hb hK.1 hP 1 0 rfl rfl dX11_isPlainRow_8 (rfl) (by omega) (fun z_1 q_1 e_1 => ?_)
      have hn9 : z_1.toInt = (f0 a.toInt.toNat).toInt := e_1
      refine a_icmp_ge (u := i.toInt) (v := z_1.toInt) (tgt := 31) hx hb dX11_isPlainRow_9 (by decide) (rfl) (rfl) (fun c_2 => ?_) (fun c_2 => ?_)
      · refine lv_aload_n hx hb dX11_isPlainRow_31 rfl (lv_at hl 0 rfl) ?_
        refine va_get (D := D) (ci := 11) (v := .int (nI jn)) (C := RX11) (T := TX11) (N := 47) hx hb hts (by decide +kernel) hown hK.1 hP 0 rfl rfl 0 (by decide) (hts (.fieldLink RX11 93 "JugglingHallModel" "jugglers" "I") (by decide +kernel)) (fun _ h9 => h9) rfl dX11_isPlainRow_32 ?_
        refine lv_iconst (v := 1) hx hb dX11_isPlainRow_35 (by decide) ?_
        refine a_icmp_ne (u := (jn : Int)) (v := 1) (tgt := 43) hx hb dX11_isPlainRow_36 (by decide) (nI_toInt (by omega)) (by decide) (fun c_3 => ?_) (fun c_3 => ?_)
        · refine lv_iconst (v := 0) hx hb dX11_isPlainRow_43 (by decide) ?_
          have hz_4 : (0 : Int32).toInt = 0 := by decide
          exact rp_zret hx hb hr hlocks hS (by first | exact Or.inl rfl | exact Or.inr rfl) (⟨show (0 : Int32).toInt = 0 ∨ (0 : Int32).toInt = 1 from (by first | assumption | omega), show (0 : Int32).toInt = 1 → ∀ i9 : Int, 0 ≤ i9 → i9 < (f0 a.toInt.toNat).toInt → cy_h f0 a.toInt (6 * i9 + 1) = 0 from (fun q => absurd q (by decide)), show (0 : Int32).toInt = 0 → ¬ (∀ i9 : Int, 0 ≤ i9 → i9 < (f0 a.toInt.toNat).toInt → cy_h f0 a.toInt (6 * i9 + 1) = 0) from (by exfalso; omega)⟩) hQ dX11_isPlainRow_44
        · refine lv_iconst (v := 1) hx hb dX11_isPlainRow_39 (by decide) ?_
          refine lv_goto (tgt := 44) hx hb dX11_isPlainRow_40 (by decide) ?_
          have hz_5 : (1 : Int32).toInt = 1 := by decide
          exact rp_zret hx hb hr hlocks hS (by first | exact Or.inl rfl | exact Or.inr rfl) (⟨show (1 : Int32).toInt = 0 ∨ (1 : Int32).toInt = 1 from (by first | assumption | omega), show (1 : Int32).toInt = 1 → ∀ i9 : Int, 0 ≤ i9 → i9 < (f0 a.toInt.toNat).toInt → cy_h f0 a.toInt (6 * i9 + 1) = 0 from (fun _ i9 h8 h9 => hpl i9 h8 (by omega)), show (1 : Int32).toInt = 0 → ¬ (∀ i9 : Int, 0 ≤ i9 → i9 < (f0 a.toInt.toNat).toInt → cy_h f0 a.toInt (6 * i9 + 1) = 0) from (fun q => absurd q (by decide))⟩) hQ dX11_isPlainRow_44
      · refine lv_aload_n hx hb dX11_isPlainRow_12 rfl (lv_at hl 0 rfl) ?_
        refine lv_iload_n hx hb dX11_isPlainRow_13 rfl (lv_at hl 1 rfl) ?_
        refine lv_iload_n hx hb dX11_isPlainRow_14 rfl (lv_at hl 2 rfl) ?_
        refine lv_iconst (v := 0) hx hb dX11_isPlainRow_15 (by decide) ?_
        refine lv_iconst (v := 1) hx hb dX11_isPlainRow_16 (by decide) ?_
        have hz_6 : (0 : Int32).toInt = 0 := by decide
        have hz_7 : (1 : Int32).toInt = 1 := by decide
        refine roP (va_runV (As := [.int a, .int i, .int 0, .int 1]) (rest := []) ⟨hx, hb, hml, hown, hts⟩ (k_heightAt2 l D cI cR cM _  (by first | assumption | omega) (hr0) (by first | assumption | omega) (by first | assumption | omega) (by first | assumption | omega)) (cwV 4 hts gX11_isPlainRow_X11_heightAt rfl rfl rfl (by decide +kernel) ⟨Nat.le_of_ble_eq_true rfl, Nat.le_of_ble_eq_true rfl⟩) (pre_V hK hP hD 0 11 rfl rfl) rfl rfl hl.1 rfl (lv_room (Nat.le_of_ble_eq_true rfl)) dX11_isPlainRow_17 ⟨Nat.le_of_ble_eq_true rfl, Nat.le_of_ble_eq_true rfl⟩) hS hA hP (fun r_8 H locs hw hP hS => ?_)
        obtain ⟨h_8, hx_8⟩ : (0 ≤ r_8.toInt ∧ r_8.toInt ≤ 9) ∧ (r_8.toInt = (f0 (a.toInt + 1 + 6 * i.toInt + 2 * (0 : Int32).toInt + (1 : Int32).toInt).toNat).toInt / 4) := hw
        have hh9 : r_8.toInt = cy_h f0 a.toInt (6 * i.toInt + 1) := by
          rw [hx_8]; unfold cy_h
          congr 3
          have z9 := z32
          have z8 : (1 : Int32).toInt = 1 := by decide
          omega
        refine a_if_le (u := r_8.toInt) (tgt := 25) hx hb dX11_isPlainRow_20 (by decide) (rfl) (fun c_9 => ?_) (fun c_9 => ?_)
        · obtain ⟨z_10, q_10, e_10⟩ := i_inc (a := i.toInt) (1) (rfl) (by decide) (by omega) (by omega)
          refine lv_iinc (v := z_10) (lv' := [(2, .int z_10), (0, .ref mm), (1, .int a)]) hx hb dX11_isPlainRow_25 hl (k := 2) rfl q_10 (by decide) rfl (fun ls hl => ?_)
          refine lv_goto (tgt := 2) hx hb dX11_isPlainRow_28 (by decide) ?_
          exact ih2 z_10 _ _ _ (by omega) (by first | assumption | omega) (fun i9 h8 h9 => by
            by_cases q : i9 = i.toInt
            · rw [q]; omega
            · exact hpl i9 h8 (by omega)) hP hS (lv_sub hl [1, 2, 0] rfl)
        · refine lv_iconst (v := 0) hx hb dX11_isPlainRow_23 (by decide) ?_
          have hz_11 : (0 : Int32).toInt = 0 := by decide
          exact rp_zret hx hb hr hlocks hS (by first | exact Or.inl rfl | exact Or.inr rfl) (⟨show (0 : Int32).toInt = 0 ∨ (0 : Int32).toInt = 1 from (by first | assumption | omega), show (0 : Int32).toInt = 1 → ∀ i9 : Int, 0 ≤ i9 → i9 < (f0 a.toInt.toNat).toInt → cy_h f0 a.toInt (6 * i9 + 1) = 0 from (fun q => absurd q (by decide)), show (0 : Int32).toInt = 0 → ¬ (∀ i9 : Int, 0 ≤ i9 → i9 < (f0 a.toInt.toNat).toInt → cy_h f0 a.toInt (6 * i9 + 1) = 0) from (fun _ q9 => by have h8 := q9 i.toInt (by omega) (by omega); omega)⟩) hQ dX11_isPlainRow_24
  have hz_12 : (0 : Int32).toInt = 0 := by decide
  exact loop2 ((30 - (0 : Int32).toInt).toNat + 1) (0 : Int32) _ _ _ (by omega) (by first | assumption | omega) (fun i9 h8 h9 => absurd h9 (by omega)) hP hS (lv_sub hl [1, 2, 0] rfl)
set_option maxRecDepth 100000 in
set_option maxHeartbeats 4000000 in
theorem k_isPlainGood3 (l : Launch) (D : va_G) (cI cR cM : ClassId) (sz : Nat) {jn mm : Nat} {q : Nat → Nat} {x0 x1 x2 x3 x4 x5 x6 x7 x8 x9 x10 x11 x12 x13 x14 x15 x16 x17 x18 x19 x20 : Int32} {f0 f1 f2 f3 f4 f5 f6 f7 f8 f9 f10 f11 f12 f13 f14 f15 f16 f17 f18 f19 f20 f21 f22 f23 f24 : Nat → Int32} {a : Int32}  (hj : 1 ≤ jn ∧ jn ≤ 3) (hr0 : a.toInt = -1 ∨ (IsRow jn f0 a.toInt ∧ ZX jn f0 (a.toInt + 1) (f0 a.toInt.toNat).toInt)) (hj1 : jn = 1) : Met l yX11_isPlainGood wsX11_isPlainGood ({ frames := 3, cells := 0, slots := 0, locals := 70 }) (P0 D cI cR cM [.ref mm, .int a] sz (mX mm q jn cI x0 x1 x2 x3 x4 x5 x6 x7 x8 x9 x10 x11 x12 x13 x14 x15 x16 x17 x18 x19 x20 f0 f1 f2 f3 f4 f5 f6 f7 f8 f9 f10 f11 f12 f13 f14 f15 f16 f17 f18 f19 f20 f21 f22 f23 f24)) (QG (S := Int32 × Int32 × Int32 × (Nat → Int32)) (fun u => some (.int u.1)) (fun u => mX mm q jn cI x0 x1 x2 x3 x4 x5 x6 x7 x8 x9 x10 x11 x12 x13 x14 (u.2.1) (u.2.2.1) x17 x18 x19 x20 f0 f1 f2 f3 f4 f5 f6 f7 f8 f9 f10 f11 (u.2.2.2) f13 f14 f15 f16 f17 f18 f19 f20 f21 f22 f23 f24) (fun u => (u.1.toInt = 0 ∨ u.1.toInt = 1) ∧ (u.1.toInt = 1 → 0 ≤ a.toInt) ∧ (u.1.toInt = 1 → cy_G f0 a.toInt (f0 a.toInt.toNat).toInt ∧ (∀ i9 : Int, 0 ≤ i9 → i9 < (f0 a.toInt.toNat).toInt → cy_h f0 a.toInt (6 * i9 + 1) = 0)) ∧ (u.1.toInt = 0 → a.toInt = -1 ∨ ¬ (cy_G f0 a.toInt (f0 a.toInt.toNat).toInt ∧ (∀ i9 : Int, 0 ≤ i9 → i9 < (f0 a.toInt.toNat).toInt → cy_h f0 a.toInt (6 * i9 + 1) = 0)))) D (va_A (mX mm q jn cI x0 x1 x2 x3 x4 x5 x6 x7 x8 x9 x10 x11 x12 x13 x14 x15 x16 x17 x18 x19 x20 f0 f1 f2 f3 f4 f5 f6 f7 f8 f9 f10 f11 f12 f13 f14 f15 f16 f17 f18 f19 f20 f21 f22 f23 f24) sz)) 0 0 (va_A (mX mm q jn cI x0 x1 x2 x3 x4 x5 x6 x7 x8 x9 x10 x11 x12 x13 x14 x15 x16 x17 x18 x19 x20 f0 f1 f2 f3 f4 f5 f6 f7 f8 f9 f10 f11 f12 f13 f14 f15 f16 f17 f18 f19 f20 f21 f22 f23 f24) sz) := by
  refine go (cc := cX11_isPlainGood) (maxL := 2) (ret := (some .boolean)) (by decide) rfl (Nat.le_of_ble_eq_true rfl) ?_
  intro p e s m below meth c ls args Q hQ hsz hx hb hr hml hts hown hlocks hnm hP hK hD hl
  subst hsz
  have hD := hD.self (sz := s.heap.size)
  generalize hAe : va_A (mX mm q jn cI x0 x1 x2 x3 x4 x5 x6 x7 x8 x9 x10 x11 x12 x13 x14 x15 x16 x17 x18 x19 x20 f0 f1 f2 f3 f4 f5 f6 f7 f8 f9 f10 f11 f12 f13 f14 f15 f16 f17 f18 f19 f20 f21 f22 f23 f24) s.heap.size = A at hD hQ
  have hA : ∀ q, s.heap.size ≤ q → A q := fun q h => by rw [← hAe]; exact Or.inr h
  have hS : va_S A s.heap s.heap [] := va_S.rf
  have hl : lv_has ls 2 [(0, .ref mm), (1, .int a)] := hl
  refine lv_aload_n hx hb dX11_isPlainGood_0 rfl (lv_at hl 0 rfl) ?_
  refine lv_iload_n hx hb dX11_isPlainGood_1 rfl (lv_at hl 1 rfl) ?_
  refine call_g (wr := []) (va_runV (As := [.int a]) (rest := []) ⟨hx, hb, hml, hown, hts⟩ (k_isGood3 l D cI cR cM _  (by first | assumption | omega) (hr0.imp id (fun q => q.1))) (cwV 1 hts gX11_isPlainGood_X11_isGood rfl rfl rfl (by decide +kernel) ⟨Nat.le_of_ble_eq_true rfl, Nat.le_of_ble_eq_true rfl⟩) (pre_V hK hP hD 0 11 rfl rfl) rfl rfl hl.1 rfl (lv_room (Nat.le_of_ble_eq_true rfl)) dX11_isPlainGood_2 ⟨Nat.le_of_ble_eq_true rfl, Nat.le_of_ble_eq_true rfl⟩) hP hD hS hA [0, 1, 2, 3, 4, 5, 6, 7, 8, 9, 10, 11, 12, 13, 14, 15, 16, 17, 18, 19, 20, 21, 22, 23, 24, 25] [] (by with_unfolding_all rfl) rfl (by decide) (by decide) (fun u_1 H locs hw hP hD hS => ?_)
  obtain ⟨r_1, y15_1, y16_1, g12_1⟩ := u_1
  have hP : va_P D vwCl (mX mm q jn cI x0 x1 x2 x3 x4 x5 x6 x7 x8 x9 x10 x11 x12 x13 x14 y15_1 y16_1 x17 x18 x19 x20 f0 f1 f2 f3 f4 f5 f6 f7 f8 f9 f10 f11 g12_1 f13 f14 f15 f16 f17 f18 f19 f20 f21 f22 f23 f24) H := hP
  have hD : va_D A (mX mm q jn cI x0 x1 x2 x3 x4 x5 x6 x7 x8 x9 x10 x11 x12 x13 x14 y15_1 y16_1 x17 x18 x19 x20 f0 f1 f2 f3 f4 f5 f6 f7 f8 f9 f10 f11 g12_1 f13 f14 f15 f16 f17 f18 f19 f20 f21 f22 f23 f24) := hD
  obtain ⟨h_1, hg_1, hs_1, hG_1, hN_1⟩ : (r_1.toInt = 0 ∨ r_1.toInt = 1) ∧ (r_1.toInt = 1 → 0 ≤ a.toInt) ∧ (r_1.toInt = 1 → y16_1.toInt = cy_S f0 a.toInt (6 * (f0 a.toInt.toNat).toInt).toNat) ∧ (r_1.toInt = 1 → cy_G f0 a.toInt (f0 a.toInt.toNat).toInt) ∧ (r_1.toInt = 0 → a.toInt = -1 ∨ ¬ cy_G f0 a.toInt (f0 a.toInt.toNat).toInt) := hw
  refine a_if_eq (u := r_1.toInt) (tgt := 20) hx hb dX11_isPlainGood_5 (by decide) (rfl) (fun c_2 => ?_) (fun c_2 => ?_)
  · refine lv_iconst (v := 0) hx hb dX11_isPlainGood_20 (by decide) ?_
    have hz_3 : (0 : Int32).toInt = 0 := by decide
    exact g_zret ((0 : Int32), y15_1, y16_1, g12_1) hx hb hr hlocks hS (by first | exact Or.inl rfl | exact Or.inr rfl) rfl (⟨show (0 : Int32).toInt = 0 ∨ (0 : Int32).toInt = 1 from (by first | assumption | omega), show (0 : Int32).toInt = 1 → 0 ≤ a.toInt from (by first | assumption | omega), show (0 : Int32).toInt = 1 → cy_G f0 a.toInt (f0 a.toInt.toNat).toInt ∧ (∀ i9 : Int, 0 ≤ i9 → i9 < (f0 a.toInt.toNat).toInt → cy_h f0 a.toInt (6 * i9 + 1) = 0) from (fun q => absurd q (by decide)), show (0 : Int32).toInt = 0 → a.toInt = -1 ∨ ¬ (cy_G f0 a.toInt (f0 a.toInt.toNat).toInt ∧ (∀ i9 : Int, 0 ≤ i9 → i9 < (f0 a.toInt.toNat).toInt → cy_h f0 a.toInt (6 * i9 + 1) = 0)) from (fun _ => (hN_1 (by omega)).imp id (fun q9 q8 => q9 q8.1))⟩) hP hD hQ (Nat.le_of_ble_eq_true rfl) (Nat.le_of_ble_eq_true rfl) dX11_isPlainGood_21
  · refine lv_aload_n hx hb dX11_isPlainGood_8 rfl (lv_at hl 0 rfl) ?_
    refine lv_iload_n hx hb dX11_isPlainGood_9 rfl (lv_at hl 1 rfl) ?_
    refine roP (va_runV (As := [.int a]) (rest := []) ⟨hx, hb, hml, hown, hts⟩ (k_isPlainRow3 l D cI cR cM _  (by first | assumption | omega) ((hr0.resolve_left (by omega)).1) (by first | assumption | omega)) (cwV 1 hts gX11_isPlainGood_X11_isPlainRow rfl rfl rfl (by decide +kernel) ⟨Nat.le_of_ble_eq_true rfl, Nat.le_of_ble_eq_true rfl⟩) (pre_V hK hP hD 0 11 rfl rfl) rfl rfl hl.1 rfl (lv_room (Nat.le_of_ble_eq_true rfl)) dX11_isPlainGood_10 ⟨Nat.le_of_ble_eq_true rfl, Nat.le_of_ble_eq_true rfl⟩) hS hA hP (fun r_4 H locs hw hP hS => ?_)
    obtain ⟨h_4, hpl_4, hnp_4⟩ : (r_4.toInt = 0 ∨ r_4.toInt = 1) ∧ (r_4.toInt = 1 → ∀ i9 : Int, 0 ≤ i9 → i9 < (f0 a.toInt.toNat).toInt → cy_h f0 a.toInt (6 * i9 + 1) = 0) ∧ (r_4.toInt = 0 → ¬ (∀ i9 : Int, 0 ≤ i9 → i9 < (f0 a.toInt.toNat).toInt → cy_h f0 a.toInt (6 * i9 + 1) = 0)) := hw
    refine a_if_eq (u := r_4.toInt) (tgt := 20) hx hb dX11_isPlainGood_13 (by decide) (rfl) (fun c_5 => ?_) (fun c_5 => ?_)
    · refine lv_iconst (v := 0) hx hb dX11_isPlainGood_20 (by decide) ?_
      have hz_6 : (0 : Int32).toInt = 0 := by decide
      exact g_zret ((0 : Int32), y15_1, y16_1, g12_1) hx hb hr hlocks hS (by first | exact Or.inl rfl | exact Or.inr rfl) rfl (⟨show (0 : Int32).toInt = 0 ∨ (0 : Int32).toInt = 1 from (by first | assumption | omega), show (0 : Int32).toInt = 1 → 0 ≤ a.toInt from (by first | assumption | omega), show (0 : Int32).toInt = 1 → cy_G f0 a.toInt (f0 a.toInt.toNat).toInt ∧ (∀ i9 : Int, 0 ≤ i9 → i9 < (f0 a.toInt.toNat).toInt → cy_h f0 a.toInt (6 * i9 + 1) = 0) from (fun q => absurd q (by decide)), show (0 : Int32).toInt = 0 → a.toInt = -1 ∨ ¬ (cy_G f0 a.toInt (f0 a.toInt.toNat).toInt ∧ (∀ i9 : Int, 0 ≤ i9 → i9 < (f0 a.toInt.toNat).toInt → cy_h f0 a.toInt (6 * i9 + 1) = 0)) from (fun _ => Or.inr (fun q8 => hnp_4 (by omega) q8.2))⟩) hP hD hQ (Nat.le_of_ble_eq_true rfl) (Nat.le_of_ble_eq_true rfl) dX11_isPlainGood_21
    · refine lv_iconst (v := 1) hx hb dX11_isPlainGood_16 (by decide) ?_
      refine lv_goto (tgt := 21) hx hb dX11_isPlainGood_17 (by decide) ?_
      have hz_7 : (1 : Int32).toInt = 1 := by decide
      exact g_zret ((1 : Int32), y15_1, y16_1, g12_1) hx hb hr hlocks hS (by first | exact Or.inl rfl | exact Or.inr rfl) rfl (⟨show (1 : Int32).toInt = 0 ∨ (1 : Int32).toInt = 1 from (by first | assumption | omega), show (1 : Int32).toInt = 1 → 0 ≤ a.toInt from (by first | assumption | omega), show (1 : Int32).toInt = 1 → cy_G f0 a.toInt (f0 a.toInt.toNat).toInt ∧ (∀ i9 : Int, 0 ≤ i9 → i9 < (f0 a.toInt.toNat).toInt → cy_h f0 a.toInt (6 * i9 + 1) = 0) from (fun _ => ⟨hG_1 (by omega), hpl_4 (by omega)⟩), show (1 : Int32).toInt = 0 → a.toInt = -1 ∨ ¬ (cy_G f0 a.toInt (f0 a.toInt.toNat).toInt ∧ (∀ i9 : Int, 0 ≤ i9 → i9 < (f0 a.toInt.toNat).toInt → cy_h f0 a.toInt (6 * i9 + 1) = 0)) from (fun q => absurd q (by decide))⟩) hP hD hQ (Nat.le_of_ble_eq_true rfl) (Nat.le_of_ble_eq_true rfl) dX11_isPlainGood_21
theorem sq_k {w : Int → Int} {n b : Int} {j : Nat} {k : Int} (hk : k = (j : Int)) (hn : 0 < n) (hw : ∀ i : Int, 0 ≤ i → i < 2 * n → w i ≤ 9) : stQ w n b 10 j ↔ ∃ h : Int, k < h ∧ h < 10 ∧ w (2 * ((b - (h - k)) % n)) = h := by
  constructor
  · rintro ⟨a, a1, a2, a3⟩
    have q1 := Int.emod_nonneg (b - a) (show n ≠ 0 by omega)
    have q2 := Int.emod_lt_of_pos (b - a) hn
    have q3 := hw (2 * ((b - a) % n)) (by omega) (by omega)
    refine ⟨a + k, by omega, by omega, ?_⟩
    rw [show b - (a + k - k) = b - a by omega, a3]; omega
  · rintro ⟨h, h1, h2, h3⟩
    exact ⟨h - k, by omega, by omega, by rw [h3]; omega⟩
set_option maxRecDepth 100000 in
set_option maxHeartbeats 4000000 in
theorem k_stateOf3 (l : Launch) (D : va_G) (cI cR cM : ClassId) (sz : Nat) {jn mm : Nat} {q : Nat → Nat} {x0 x1 x2 x3 x4 x5 x6 x7 x8 x9 x10 x11 x12 x13 x14 x15 x16 x17 x18 x19 x20 : Int32} {f0 f1 f2 f3 f4 f5 f6 f7 f8 f9 f10 f11 f12 f13 f14 f15 f16 f17 f18 f19 f20 f21 f22 f23 f24 : Nat → Int32} {a b : Int32} {w : Int → Int} (hj : 1 ≤ jn ∧ jn ≤ 3) (hrow9 : IsRow jn f0 a.toInt) (hb0 : 0 ≤ b.toInt ∧ b.toInt < (f0 a.toInt.toNat).toInt) (hrs : RSo f0 (a.toInt + 1) w (f0 a.toInt.toNat).toInt) (hw9 : ∀ i9 : Int, 0 ≤ i9 → i9 < 2 * (f0 a.toInt.toNat).toInt → w i9 ≤ 9) : Met l yX11_stateOf wsX11_stateOf ({ frames := 1, cells := 0, slots := 0, locals := 24 }) (P0 D cI cR cM [.ref mm, .int a, .int b] sz (mX mm q jn cI x0 x1 x2 x3 x4 x5 x6 x7 x8 x9 x10 x11 x12 x13 x14 x15 x16 x17 x18 x19 x20 f0 f1 f2 f3 f4 f5 f6 f7 f8 f9 f10 f11 f12 f13 f14 f15 f16 f17 f18 f19 f20 f21 f22 f23 f24)) (QP (fun r => (∃ M9 : Nat, r = nI M9 ∧ StM w (f0 a.toInt.toNat).toInt b.toInt M9)) sz) 0 0 (va_A [] sz) := by
  refine go (cc := cX11_stateOf) (maxL := 6) (ret := (some .int)) (by decide) rfl (Nat.le_of_ble_eq_true rfl) ?_
  intro p e s m below meth c ls args Q hQ hsz hx hb hr hml hts hown hlocks hnm hP hK hD hl
  subst hsz
  have hS : va_S (va_A [] s.heap.size) s.heap s.heap [] := va_S.rf
  have hA : ∀ q, s.heap.size ≤ q → va_A [] s.heap.size q := fun q h => Or.inr h
  have hl : lv_has ls 6 [(0, .ref mm), (1, .int a), (2, .int b)] := hl
  have hr0 := hrow9
  obtain ⟨hr1, hr2, hr3, hr4, hr5, hr6⟩ := hrow9
  refine lv_iconst (v := 0) hx hb dX11_stateOf_0 (by decide) ?_
  refine lv_istore_n (lv' := [(3, .int 0), (0, .ref mm), (1, .int a), (2, .int b)]) hx hb dX11_stateOf_1 rfl hl (by decide) rfl (fun ls hl => ?_)
  refine lv_iconst (v := 0) hx hb dX11_stateOf_2 (by decide) ?_
  refine lv_istore (lv' := [(4, .int 0), (3, .int 0), (0, .ref mm), (1, .int a), (2, .int b)]) hx hb dX11_stateOf_3 hl (by decide) rfl (fun ls hl => ?_)
  have loop5 : ∀ (ddloop5 : Nat) (se : Int32) (k : Int32) (H : Heap) (locs : List Loc) (ls : Array Slot), (10 - k.toInt).toNat < ddloop5 → (0 ≤ k.toInt ∧ k.toInt ≤ 9) → (Hd (∃ M9 : Nat, M9 < 512 ∧ se = nI M9 ∧ ∀ j9 : Nat, j9 < 9 → (M9.testBit j9 = true ↔ ((j9 : Int) < k.toInt ∧ stQ w (f0 a.toInt.toNat).toInt b.toInt 10 j9)))) → va_P D vwCl (mX mm q jn cI x0 x1 x2 x3 x4 x5 x6 x7 x8 x9 x10 x11 x12 x13 x14 x15 x16 x17 x18 x19 x20 f0 f1 f2 f3 f4 f5 f6 f7 f8 f9 f10 f11 f12 f13 f14 f15 f16 f17 f18 f19 f20 f21 f22 f23 f24) H → va_S (va_A [] s.heap.size) s.heap H locs → lv_has ls 6 [(0, .ref mm), (1, .int a), (2, .int b), (3, .int se), (4, .int k)] → W p l e ({ frames := 1, cells := 0, slots := 0, locals := 24 }) s m args below meth c H locs 0 0 Q (F0 m 5 ls []) := by
    intro ddloop5
    induction ddloop5 with
    | zero =>
      intro se k H locs ls hdd
      exact absurd hdd (Nat.not_lt_zero _)
    | succ ddloop5 ih5 =>
      intro se k H locs ls hdd hk hse hP hS hl
      obtain ⟨M9, hm1, hm2, hm3⟩ := hse
      refine lv_iload hx hb dX11_stateOf_5 (lv_at hl 4 rfl) ?_
      refine lv_bipush (v := 9) hx hb dX11_stateOf_7 (by decide) ?_
      refine a_icmp_ge (u := k.toInt) (v := 9) (tgt := 72) hx hb dX11_stateOf_9 (by decide) (rfl) (by decide) (fun c_1 => ?_) (fun c_1 => ?_)
      · refine lv_iload_n hx hb dX11_stateOf_72 rfl (lv_at hl 3 rfl) ?_
        exact rp_iret hx hb hr hlocks hS (show ∃ M9 : Nat, se = nI M9 ∧ StM w (f0 a.toInt.toNat).toInt b.toInt M9 from (⟨M9, hm2, hm1, fun j9 h9 => by rw [hm3 j9 h9]; exact ⟨fun q9 => q9.2, fun q9 => ⟨by omega, q9⟩⟩⟩)) hQ dX11_stateOf_73
      · refine lv_iload hx hb dX11_stateOf_12 (lv_at hl 4 rfl) ?_
        refine lv_iconst (v := 1) hx hb dX11_stateOf_14 (by decide) ?_
        refine a_iadd (u := k.toInt) (v := 1) hx hb dX11_stateOf_15 (rfl) (by decide) (by omega) (fun z_2 e_2 => ?_)
        refine lv_istore (lv' := [(5, .int z_2), (0, .ref mm), (1, .int a), (2, .int b), (3, .int se), (4, .int k)]) hx hb dX11_stateOf_16 hl (by decide) rfl (fun ls hl => ?_)
        have loop18 : ∀ (ddloop18 : Nat) (sf : Int32) (h5 : Int32) (H : Heap) (locs : List Loc) (ls : Array Slot), (20 - h5.toInt).toNat < ddloop18 → (k.toInt < h5.toInt ∧ h5.toInt ≤ 10) → (Hd (∃ M9 : Nat, M9 < 512 ∧ sf = nI M9 ∧ ∀ j9 : Nat, j9 < 9 → (M9.testBit j9 = true ↔ (((j9 : Int) < k.toInt ∧ stQ w (f0 a.toInt.toNat).toInt b.toInt 10 j9) ∨ ((j9 : Int) = k.toInt ∧ ∃ h9 : Int, k.toInt < h9 ∧ h9 < h5.toInt ∧ w (2 * ((b.toInt - (h9 - k.toInt)) % (f0 a.toInt.toNat).toInt)) = h9))))) → va_P D vwCl (mX mm q jn cI x0 x1 x2 x3 x4 x5 x6 x7 x8 x9 x10 x11 x12 x13 x14 x15 x16 x17 x18 x19 x20 f0 f1 f2 f3 f4 f5 f6 f7 f8 f9 f10 f11 f12 f13 f14 f15 f16 f17 f18 f19 f20 f21 f22 f23 f24) H → va_S (va_A [] s.heap.size) s.heap H locs → lv_has ls 6 [(0, .ref mm), (1, .int a), (2, .int b), (3, .int sf), (4, .int k), (5, .int h5)] → W p l e ({ frames := 1, cells := 0, slots := 0, locals := 24 }) s m args below meth c H locs 0 0 Q (F0 m 18 ls []) := by
          intro ddloop18
          induction ddloop18 with
          | zero =>
            intro sf h5 H locs ls hdd
            exact absurd hdd (Nat.not_lt_zero _)
          | succ ddloop18 ih18 =>
            intro sf h5 H locs ls hdd hh5 hsf hP hS hl
            obtain ⟨M9, hm1, hm2, hm3⟩ := hsf
            refine lv_iload hx hb dX11_stateOf_18 (lv_at hl 5 rfl) ?_
            refine lv_bipush (v := 10) hx hb dX11_stateOf_20 (by decide) ?_
            refine a_icmp_ge (u := h5.toInt) (v := 10) (tgt := 66) hx hb dX11_stateOf_22 (by decide) (rfl) (by decide) (fun c_3 => ?_) (fun c_3 => ?_)
            · obtain ⟨z_4, q_4, e_4⟩ := i_inc (a := k.toInt) (1) (rfl) (by decide) (by omega) (by omega)
              refine lv_iinc (v := z_4) (lv' := [(4, .int z_4), (0, .ref mm), (1, .int a), (2, .int b), (3, .int sf), (5, .int h5)]) hx hb dX11_stateOf_66 hl (k := 4) rfl q_4 (by decide) rfl (fun ls hl => ?_)
              refine lv_goto (tgt := 5) hx hb dX11_stateOf_69 (by decide) ?_
              exact ih5 sf z_4 _ _ _ (by omega) (by first | assumption | omega) (⟨M9, hm1, hm2, fun j9 h9 => by
                rw [hm3 j9 h9]
                by_cases q9 : (j9 : Int) = k.toInt
                · rw [sq_k (j := j9) (k := k.toInt) q9.symm (by omega) hw9]
                  constructor
                  · rintro (q8 | ⟨-, h8, h7, h6, h5_⟩)
                    · omega
                    · exact ⟨by omega, h8, h7, by omega, h5_⟩
                  · rintro ⟨-, h8, h7, h6, h5_⟩
                    exact Or.inr ⟨q9, h8, h7, by omega, h5_⟩
                · constructor
                  · rintro (q8 | q8)
                    · exact ⟨by omega, q8.2⟩
                    · exact absurd q8.1 q9
                  · intro q8
                    exact Or.inl ⟨by omega, q8.2⟩⟩) hP hS (lv_sub hl [1, 2, 3, 4, 0] rfl)
            · refine lv_aload_n hx hb dX11_stateOf_25 rfl (lv_at hl 0 rfl) ?_
              refine lv_iload_n hx hb dX11_stateOf_26 rfl (lv_at hl 1 rfl) ?_
              refine lv_iload_n hx hb dX11_stateOf_27 rfl (lv_at hl 2 rfl) ?_
              refine lv_iload hx hb dX11_stateOf_28 (lv_at hl 5 rfl) ?_
              refine lv_iload hx hb dX11_stateOf_30 (lv_at hl 4 rfl) ?_
              refine a_isub (u := h5.toInt) (v := k.toInt) hx hb dX11_stateOf_32 (rfl) (rfl) (by omega) (fun z_5 e_5 => ?_)
              refine a_isub (u := b.toInt) (v := (h5.toInt - k.toInt)) hx hb dX11_stateOf_33 (rfl) (e_5) (by omega) (fun z_6 e_6 => ?_)
              refine lv_aload_n hx hb dX11_stateOf_34 rfl (lv_at hl 0 rfl) ?_
              refine va_get (D := D) (ci := 11) (v := .ref (q 0)) (C := RX11) (T := TX11) (N := 47) hx hb hts (by decide +kernel) hown hK.1 hP 0 rfl rfl 1 (by decide) (hts (.fieldLink RX11 8 "JugglingHallModel" "rows" "[I") (by decide +kernel)) (fun _ h9 => h9) rfl dX11_stateOf_35 ?_
              refine lv_iload_n hx hb dX11_stateOf_38 rfl (lv_at hl 1 rfl) ?_
              refine a_iald (f := f0) (u := a.toInt) hx hb hK.1 hP 1 0 rfl rfl dX11_stateOf_39 (rfl) (by omega) (fun z_7 q_7 e_7 => ?_)
              have hn9 : z_7.toInt = (f0 a.toInt.toNat).toInt := e_7
              refine roP (va_runS (As := [.int z_6, .int z_7]) (rest := [.int a, .ref mm]) ⟨hx, hb, hml, hown, hts⟩ (k_mod2 l D cI cR cM _  (by first | assumption | omega) (by first | assumption | omega)) (va_cwS 2 hts gX11_stateOf_X11_mod rfl rfl rfl (by decide +kernel) ⟨Nat.le_of_ble_eq_true rfl, Nat.le_of_ble_eq_true rfl⟩) (pre_S hK va_P_nil (va_D_nil (A := fun _ => True))) rfl rfl hl.1 rfl (lv_room (Nat.le_of_ble_eq_true rfl)) dX11_stateOf_40 ⟨Nat.le_of_ble_eq_true rfl, Nat.le_of_ble_eq_true rfl⟩) hS hA hP (fun r_8 H locs hw hP hS => ?_)
              obtain ⟨h_8, hb_8⟩ : (r_8.toInt = z_6.toInt % z_7.toInt) ∧ (0 ≤ r_8.toInt ∧ r_8.toInt < z_7.toInt) := hw
              refine lv_iconst (v := 0) hx hb dX11_stateOf_43 (by decide) ?_
              refine lv_iconst (v := 0) hx hb dX11_stateOf_44 (by decide) ?_
              have hz_9 : (0 : Int32).toInt = 0 := by decide
              have hz_10 : (0 : Int32).toInt = 0 := by decide
              refine roP (va_runV (As := [.int a, .int r_8, .int 0, .int 0]) (rest := []) ⟨hx, hb, hml, hown, hts⟩ (k_heightAt2 l D cI cR cM _  (by first | assumption | omega) (hr0) (by first | assumption | omega) (by first | assumption | omega) (by first | assumption | omega)) (cwV 4 hts gX11_stateOf_X11_heightAt rfl rfl rfl (by decide +kernel) ⟨Nat.le_of_ble_eq_true rfl, Nat.le_of_ble_eq_true rfl⟩) (pre_V hK hP hD 0 11 rfl rfl) rfl rfl hl.1 rfl (lv_room (Nat.le_of_ble_eq_true rfl)) dX11_stateOf_45 ⟨Nat.le_of_ble_eq_true rfl, Nat.le_of_ble_eq_true rfl⟩) hS hA hP (fun r_11 H locs hw hP hS => ?_)
              obtain ⟨h_11, hx_11⟩ : (0 ≤ r_11.toInt ∧ r_11.toInt ≤ 9) ∧ (r_11.toInt = (f0 (a.toInt + 1 + 6 * r_8.toInt + 2 * (0 : Int32).toInt + (0 : Int32).toInt).toNat).toInt / 4) := hw
              have hAv : r_11.toInt = w (2 * ((b.toInt - (h5.toInt - k.toInt)) % (f0 a.toInt.toNat).toInt)) := by
                have q1 := (rh_1 hrs (i := (b.toInt - (h5.toInt - k.toInt)) % (f0 a.toInt.toNat).toInt) (x := 0) (Int.emod_nonneg _ (by omega)) (Int.emod_lt_of_pos _ (by omega)) (by omega) (by omega)).1
                rw [Int.add_zero, Int.add_zero] at q1
                rw [← q1, hx_11]
                unfold cy_h
                congr 3
                have hq := h_8
                rw [show b.toInt - (h5.toInt - k.toInt) = z_6.toInt by omega, ← hn9, ← hq]
                have z9 := z32
                omega
              refine lv_iload hx hb dX11_stateOf_48 (lv_at hl 5 rfl) ?_
              refine a_icmp_ne (u := r_11.toInt) (v := h5.toInt) (tgt := 60) hx hb dX11_stateOf_50 (by decide) (rfl) (rfl) (fun c_12 => ?_) (fun c_12 => ?_)
              · obtain ⟨z_13, q_13, e_13⟩ := i_inc (a := h5.toInt) (1) (rfl) (by decide) (by omega) (by omega)
                refine lv_iinc (v := z_13) (lv' := [(5, .int z_13), (0, .ref mm), (1, .int a), (2, .int b), (3, .int sf), (4, .int k)]) hx hb dX11_stateOf_60 hl (k := 5) rfl q_13 (by decide) rfl (fun ls hl => ?_)
                refine lv_goto (tgt := 18) hx hb dX11_stateOf_63 (by decide) ?_
                exact ih18 sf z_13 _ _ _ (by omega) (by first | assumption | omega) (⟨M9, hm1, hm2, fun j9 h9 => by
                  rw [hm3 j9 h9]
                  constructor
                  · rintro (q9 | ⟨q9, h8, h7, h6, h5_⟩)
                    · exact Or.inl q9
                    · exact Or.inr ⟨q9, h8, h7, by omega, h5_⟩
                  · rintro (q9 | ⟨q9, h8, h7, h6, h5_⟩)
                    · exact Or.inl q9
                    · by_cases q8 : h8 = h5.toInt
                      · rw [q8, ← hAv] at h5_; omega
                      · exact Or.inr ⟨q9, h8, h7, by omega, h5_⟩⟩) hP hS (lv_sub hl [1, 2, 3, 4, 5, 0] rfl)
              · refine lv_iload_n hx hb dX11_stateOf_53 rfl (lv_at hl 3 rfl) ?_
                refine lv_iconst (v := 1) hx hb dX11_stateOf_54 (by decide) ?_
                refine lv_iload hx hb dX11_stateOf_55 (lv_at hl 4 rfl) ?_
                refine lv_ishl hx hb dX11_stateOf_57 ?_
                refine lv_topi (fun z_14 q_14 => ?_)
                refine lv_ior hx hb dX11_stateOf_58 ?_
                refine lv_topi (fun z_15 q_15 => ?_)
                refine lv_istore_n (lv' := [(3, .int z_15), (0, .ref mm), (1, .int a), (2, .int b), (4, .int k), (5, .int h5)]) hx hb dX11_stateOf_59 rfl hl (by decide) rfl (fun ls hl => ?_)
                obtain ⟨z_16, q_16, e_16⟩ := i_inc (a := h5.toInt) (1) (rfl) (by decide) (by omega) (by omega)
                refine lv_iinc (v := z_16) (lv' := [(5, .int z_16), (3, .int z_15), (0, .ref mm), (1, .int a), (2, .int b), (4, .int k)]) hx hb dX11_stateOf_60 hl (k := 5) rfl q_16 (by decide) rfl (fun ls hl => ?_)
                refine lv_goto (tgt := 18) hx hb dX11_stateOf_63 (by decide) ?_
                exact ih18 z_15 z_16 _ _ _ (by omega) (by first | assumption | omega) (⟨M9 ||| 2 ^ k.toInt.toNat, or_lt hm1 (by omega), by
                  have e9 := or_sh k.toInt.toNat (by omega) M9 hm1
                  rw [← nI_ofT (show 0 ≤ k.toInt by omega)] at e9
                  rw [q_15, q_14, hm2]; exact e9, fun j9 h9 => by
                  rw [or_tb, hm3 j9 h9]
                  constructor
                  · rintro ((q9 | ⟨q9, h8, h7, h6, h5_⟩) | q9)
                    · exact Or.inl q9
                    · exact Or.inr ⟨q9, h8, h7, by omega, h5_⟩
                    · exact Or.inr ⟨by omega, h5.toInt, by omega, by omega, by rw [← hAv]; omega⟩
                  · rintro (q9 | ⟨q9, h8, h7, h6, h5_⟩)
                    · exact Or.inl (Or.inl q9)
                    · exact Or.inr (by omega)⟩) hP hS (lv_sub hl [2, 3, 4, 1, 5, 0] rfl)
        exact loop18 ((20 - z_2.toInt).toNat + 1) se z_2 _ _ _ (by omega) (by first | assumption | omega) (⟨M9, hm1, hm2, fun j9 h9 => by
          rw [hm3 j9 h9]
          constructor
          · intro q9; exact Or.inl q9
          · rintro (q9 | ⟨-, h8, h7, h6, -⟩)
            · exact q9
            · omega⟩) hP hS (lv_sub hl [1, 2, 3, 4, 5, 0] rfl)
  have hz_17 : (0 : Int32).toInt = 0 := by decide
  have hz_18 : (0 : Int32).toInt = 0 := by decide
  exact loop5 ((10 - (0 : Int32).toInt).toNat + 1) (0 : Int32) (0 : Int32) _ _ _ (by omega) (by first | assumption | omega) (⟨0, by decide, rfl, fun j9 h9 => ⟨fun q9 => (by rw [Nat.zero_testBit] at q9; cases q9), fun q9 => by have := q9.1; rw [show (0 : Int32).toInt = 0 from rfl] at this; omega⟩⟩) hP hS (lv_sub hl [2, 3, 4, 1, 0] rfl)
set_option maxRecDepth 100000 in
set_option maxHeartbeats 4000000 in
theorem k_rowOf3 (l : Launch) (D : va_G) (cI cR cM : ClassId) (sz : Nat) {jn mm : Nat} {q : Nat → Nat} {x0 x1 x2 x3 x4 x5 x6 x7 x8 x9 x10 x11 x12 x13 x14 x15 x16 x17 x18 x19 x20 : Int32} {f0 f1 f2 f3 f4 f5 f6 f7 f8 f9 f10 f11 f12 f13 f14 f15 f16 f17 f18 f19 f20 f21 f22 f23 f24 : Nat → Int32} {k : Int32}  (h1 : 0 ≤ x1.toInt ∧ x1.toInt ≤ 60) (hR : RowsX jn f0) (hRZ : RowsZ jn f0) : Met l yX11_rowOf wsX11_rowOf ({ frames := 2, cells := 0, slots := 0, locals := 44 }) (P0 D cI cR cM [.ref mm, .int k] sz (mX mm q jn cI x0 x1 x2 x3 x4 x5 x6 x7 x8 x9 x10 x11 x12 x13 x14 x15 x16 x17 x18 x19 x20 f0 f1 f2 f3 f4 f5 f6 f7 f8 f9 f10 f11 f12 f13 f14 f15 f16 f17 f18 f19 f20 f21 f22 f23 f24)) (QP (fun r => (r.toInt = -1 ∨ (IsRow jn f0 r.toInt ∧ ZX jn f0 (r.toInt + 1) (f0 r.toInt.toNat).toInt)) ∧ (r.toInt ≤ 150 * (8 * x1.toInt + 7)) ∧ ((¬ (0 ≤ k.toInt ∧ k.toInt < 8) ∧ r.toInt = -1) ∨ ((0 ≤ k.toInt ∧ k.toInt < 8) ∧ LatV f0 k.toInt x1.toInt r.toInt))) sz) 0 0 (va_A [] sz) := by
  refine go (cc := cX11_rowOf) (maxL := 2) (ret := (some .int)) (by decide) rfl (Nat.le_of_ble_eq_true rfl) ?_
  intro p e s m below meth c ls args Q hQ hsz hx hb hr hml hts hown hlocks hnm hP hK hD hl
  subst hsz
  have hS : va_S (va_A [] s.heap.size) s.heap s.heap [] := va_S.rf
  have hA : ∀ q, s.heap.size ≤ q → va_A [] s.heap.size q := fun q h => Or.inr h
  have hl : lv_has ls 2 [(0, .ref mm), (1, .int k)] := hl
  refine lv_iload_n hx hb dX11_rowOf_0 rfl (lv_at hl 1 rfl) ?_
  refine lv_iconst (v := 0) hx hb dX11_rowOf_1 (by decide) ?_
  refine lv_bipush (v := 7) hx hb dX11_rowOf_2 (by decide) ?_
  have hz_1 : (0 : Int32).toInt = 0 := by decide
  have hz_2 : (7 : Int32).toInt = 7 := by decide
  refine roP (va_runS (As := [.int k, .int 0, .int 7]) (rest := []) ⟨hx, hb, hml, hown, hts⟩ (k_isIn l D cI cR cM _  ) (va_cwS 3 hts gX11_rowOf_X11_isIn rfl rfl rfl (by decide +kernel) ⟨Nat.le_of_ble_eq_true rfl, Nat.le_of_ble_eq_true rfl⟩) (pre_S hK va_P_nil (va_D_nil (A := fun _ => True))) rfl rfl hl.1 rfl (lv_room (Nat.le_of_ble_eq_true rfl)) dX11_rowOf_4 ⟨Nat.le_of_ble_eq_true rfl, Nat.le_of_ble_eq_true rfl⟩) hS hA hP (fun r_3 H locs hw hP hS => ?_)
  have h_3 : ((r_3.toInt = 1 ∧ (0 : Int32).toInt ≤ k.toInt ∧ k.toInt ≤ (7 : Int32).toInt) ∨ (r_3.toInt = 0 ∧ (k.toInt < (0 : Int32).toInt ∨ (7 : Int32).toInt < k.toInt))) := hw
  refine a_if_eq (u := r_3.toInt) (tgt := 22) hx hb dX11_rowOf_7 (by decide) (rfl) (fun c_4 => ?_) (fun c_4 => ?_)
  · refine lv_iconst (v := (-1)) hx hb dX11_rowOf_22 (by decide) ?_
    have hz_5 : (-1 : Int32).toInt = (-1) := by decide
    exact rp_iret hx hb hr hlocks hS (⟨show (-1 : Int32).toInt = -1 ∨ (IsRow jn f0 (-1 : Int32).toInt ∧ ZX jn f0 ((-1 : Int32).toInt + 1) (f0 (-1 : Int32).toInt.toNat).toInt) from (Or.inl (by omega)), show (-1 : Int32).toInt ≤ 150 * (8 * x1.toInt + 7) from (by first | assumption | omega), show (¬ (0 ≤ k.toInt ∧ k.toInt < 8) ∧ (-1 : Int32).toInt = -1) ∨ ((0 ≤ k.toInt ∧ k.toInt < 8) ∧ LatV f0 k.toInt x1.toInt (-1 : Int32).toInt) from (Or.inl ⟨by omega, by decide⟩)⟩) hQ dX11_rowOf_23
  · refine lv_aload_n hx hb dX11_rowOf_10 rfl (lv_at hl 0 rfl) ?_
    refine lv_iload_n hx hb dX11_rowOf_11 rfl (lv_at hl 1 rfl) ?_
    refine lv_aload_n hx hb dX11_rowOf_12 rfl (lv_at hl 0 rfl) ?_
    refine va_get (D := D) (ci := 11) (v := .int x1) (C := RX11) (T := TX11) (N := 47) hx hb hts (by decide +kernel) hown hK.1 hP 0 rfl rfl 4 (by decide) (hts (.fieldLink RX11 104 "JugglingHallModel" "looked" "I") (by decide +kernel)) (fun _ h9 => h9) rfl dX11_rowOf_13 ?_
    refine roP (va_runV (As := [.int k, .int x1]) (rest := []) ⟨hx, hb, hml, hown, hts⟩ (k_latest4 l D cI cR cM _  (by first | assumption | omega) (by first | assumption | omega) (by first | assumption | omega) (by first | assumption | omega)) (cwV 2 hts gX11_rowOf_X11_latest rfl rfl rfl (by decide +kernel) ⟨Nat.le_of_ble_eq_true rfl, Nat.le_of_ble_eq_true rfl⟩) (pre_V hK hP hD 0 11 rfl rfl) rfl rfl hl.1 rfl (lv_room (Nat.le_of_ble_eq_true rfl)) dX11_rowOf_16 ⟨Nat.le_of_ble_eq_true rfl, Nat.le_of_ble_eq_true rfl⟩) hS hA hP (fun r_6 H locs hw hP hS => ?_)
    obtain ⟨h_6, hle_6, hL_6⟩ : (r_6.toInt = -1 ∨ (IsRow jn f0 r_6.toInt ∧ ZX jn f0 (r_6.toInt + 1) (f0 r_6.toInt.toNat).toInt)) ∧ (r_6.toInt ≤ 150 * (8 * x1.toInt + 7)) ∧ (LatV f0 k.toInt x1.toInt r_6.toInt) := hw
    refine lv_goto (tgt := 23) hx hb dX11_rowOf_19 (by decide) ?_
    exact rp_iret hx hb hr hlocks hS (⟨show r_6.toInt = -1 ∨ (IsRow jn f0 r_6.toInt ∧ ZX jn f0 (r_6.toInt + 1) (f0 r_6.toInt.toNat).toInt) from (h_6), show r_6.toInt ≤ 150 * (8 * x1.toInt + 7) from (by first | assumption | omega), show (¬ (0 ≤ k.toInt ∧ k.toInt < 8) ∧ r_6.toInt = -1) ∨ ((0 ≤ k.toInt ∧ k.toInt < 8) ∧ LatV f0 k.toInt x1.toInt r_6.toInt) from (Or.inr ⟨by omega, hL_6⟩)⟩) hQ dX11_rowOf_23
theorem rf_at {R : Nat → Int32} {T lk x r : Int} {Ev : Int → Env1} (h : RefR R T Ev) (hO : ∀ t : Int, 0 ≤ t → t ≤ T → EOk (Ev t)) (hl : 0 ≤ lk ∧ lk ≤ T) (hx : 0 ≤ x ∧ x < 8) (hv : LatV R x lk r) (hr : r = -1 ∨ 1 ≤ (R r.toNat).toInt) (hr0 : r = -1 ∨ 0 ≤ r) : (r = -1 ∧ (Ev lk x).1 = 0) ∨ (0 ≤ r ∧ 0 < (Ev lk x).1 ∧ (Ev lk x).1 = (R r.toNat).toInt ∧ RSo R (r + 1) (Ev lk x).2 (R r.toNat).toInt ∧ ∀ i : Int, 0 ≤ i → i < 2 * (R r.toNat).toInt → (Ev lk x).2 i ≤ 9) := by
  obtain ⟨a1, a2⟩ := h lk x hl.1 hl.2 hx.1 hx.2 r hv
  rcases hr0 with q | q
  · exact Or.inl ⟨q, a1 q⟩
  · obtain ⟨b1, b2⟩ := a2 q
    refine Or.inr ⟨q, by omega, b1, by rw [← b1]; exact b2, fun i i0 i1 => ?_⟩
    have := (hO lk hl.1 hl.2 x hx.1 hx.2).2.2 (i / 2) (by omega) (by omega)
    unfold Srt at this
    rcases (show i % 2 = 0 ∨ i % 2 = 1 by omega) with e | e
    · rw [show 2 * (i / 2) = i by omega] at this; omega
    · rw [show 2 * (i / 2) + 1 = i by omega] at this; omega
set_option maxRecDepth 100000 in
set_option maxHeartbeats 4000000 in
theorem k_state3 (l : Launch) (D : va_G) (cI cR cM : ClassId) (sz : Nat) {jn mm : Nat} {q : Nat → Nat} {x0 x1 x2 x3 x4 x5 x6 x7 x8 x9 x10 x11 x12 x13 x14 x15 x16 x17 x18 x19 x20 : Int32} {f0 f1 f2 f3 f4 f5 f6 f7 f8 f9 f10 f11 f12 f13 f14 f15 f16 f17 f18 f19 f20 f21 f22 f23 f24 : Nat → Int32} {a b : Int32} {Ev : Int → Env1} (hj : 1 ≤ jn ∧ jn ≤ 3) (h0 : 0 ≤ x0.toInt ∧ x0.toInt ≤ 60) (h1 : 0 ≤ x1.toInt ∧ x1.toInt ≤ 60) (hR : RowsX jn f0) (hRZ : RowsZ jn f0) (h10 : x1.toInt ≤ x0.toInt) (hj1 : jn = 1) (hEv : RefR f0 x0.toInt Ev) (hEO : ∀ t9 : Int, 0 ≤ t9 → t9 ≤ x0.toInt → EOk (Ev t9)) : Met l yX11_state wsX11_state ({ frames := 4, cells := 0, slots := 0, locals := 91 }) (P0 D cI cR cM [.ref mm, .int a, .int b] sz (mX mm q jn cI x0 x1 x2 x3 x4 x5 x6 x7 x8 x9 x10 x11 x12 x13 x14 x15 x16 x17 x18 x19 x20 f0 f1 f2 f3 f4 f5 f6 f7 f8 f9 f10 f11 f12 f13 f14 f15 f16 f17 f18 f19 f20 f21 f22 f23 f24)) (QG (S := Int32 × Int32 × Int32 × (Nat → Int32)) (fun u => some (.int u.1)) (fun u => mX mm q jn cI x0 x1 x2 x3 x4 x5 x6 x7 x8 x9 x10 x11 x12 x13 x14 (u.2.1) (u.2.2.1) x17 x18 x19 x20 f0 f1 f2 f3 f4 f5 f6 f7 f8 f9 f10 f11 (u.2.2.2) f13 f14 f15 f16 f17 f18 f19 f20 f21 f22 f23 f24) (fun u => (StAns Ev x1.toInt a.toInt b.toInt u.1.toInt)) D (va_A (mX mm q jn cI x0 x1 x2 x3 x4 x5 x6 x7 x8 x9 x10 x11 x12 x13 x14 x15 x16 x17 x18 x19 x20 f0 f1 f2 f3 f4 f5 f6 f7 f8 f9 f10 f11 f12 f13 f14 f15 f16 f17 f18 f19 f20 f21 f22 f23 f24) sz)) 0 0 (va_A (mX mm q jn cI x0 x1 x2 x3 x4 x5 x6 x7 x8 x9 x10 x11 x12 x13 x14 x15 x16 x17 x18 x19 x20 f0 f1 f2 f3 f4 f5 f6 f7 f8 f9 f10 f11 f12 f13 f14 f15 f16 f17 f18 f19 f20 f21 f22 f23 f24) sz) := by
  refine go (cc := cX11_state) (maxL := 4) (ret := (some .int)) (by decide) rfl (Nat.le_of_ble_eq_true rfl) ?_
  intro p e s m below meth c ls args Q hQ hsz hx hb hr hml hts hown hlocks hnm hP hK hD hl
  subst hsz
  have hD := hD.self (sz := s.heap.size)
  generalize hAe : va_A (mX mm q jn cI x0 x1 x2 x3 x4 x5 x6 x7 x8 x9 x10 x11 x12 x13 x14 x15 x16 x17 x18 x19 x20 f0 f1 f2 f3 f4 f5 f6 f7 f8 f9 f10 f11 f12 f13 f14 f15 f16 f17 f18 f19 f20 f21 f22 f23 f24) s.heap.size = A at hD hQ
  have hA : ∀ q, s.heap.size ≤ q → A q := fun q h => by rw [← hAe]; exact Or.inr h
  have hS : va_S A s.heap s.heap [] := va_S.rf
  have hl : lv_has ls 4 [(0, .ref mm), (1, .int a), (2, .int b)] := hl
  refine lv_aload_n hx hb dX11_state_0 rfl (lv_at hl 0 rfl) ?_
  refine lv_iload_n hx hb dX11_state_1 rfl (lv_at hl 1 rfl) ?_
  refine roP (va_runV (As := [.int a]) (rest := []) ⟨hx, hb, hml, hown, hts⟩ (k_rowOf3 l D cI cR cM _  (by first | assumption | omega) (by first | assumption | omega) (by first | assumption | omega)) (cwV 1 hts gX11_state_X11_rowOf rfl rfl rfl (by decide +kernel) ⟨Nat.le_of_ble_eq_true rfl, Nat.le_of_ble_eq_true rfl⟩) (pre_V hK hP hD 0 11 rfl rfl) rfl rfl hl.1 rfl (lv_room (Nat.le_of_ble_eq_true rfl)) dX11_state_2 ⟨Nat.le_of_ble_eq_true rfl, Nat.le_of_ble_eq_true rfl⟩) hS hA hP (fun r_1 H locs hw hP hS => ?_)
  obtain ⟨h_1, hle_1, hv_1⟩ : (r_1.toInt = -1 ∨ (IsRow jn f0 r_1.toInt ∧ ZX jn f0 (r_1.toInt + 1) (f0 r_1.toInt.toNat).toInt)) ∧ (r_1.toInt ≤ 150 * (8 * x1.toInt + 7)) ∧ ((¬ (0 ≤ a.toInt ∧ a.toInt < 8) ∧ r_1.toInt = -1) ∨ ((0 ≤ a.toInt ∧ a.toInt < 8) ∧ LatV f0 a.toInt x1.toInt r_1.toInt)) := hw
  have hr9 : r_1.toInt = -1 ∨ 1 ≤ (f0 r_1.toInt.toNat).toInt := h_1.imp id (fun q9 => q9.1.2.2.1)
  have hr8 : r_1.toInt = -1 ∨ 0 ≤ r_1.toInt := h_1.imp id (fun q9 => q9.1.1)
  have hAt : (r_1.toInt = -1 ∧ (¬ (0 ≤ a.toInt ∧ a.toInt < 8) ∨ ((0 ≤ a.toInt ∧ a.toInt < 8) ∧ (Ev x1.toInt a.toInt).1 = 0))) ∨ (0 ≤ r_1.toInt ∧ (0 ≤ a.toInt ∧ a.toInt < 8) ∧ 0 < (Ev x1.toInt a.toInt).1 ∧ (Ev x1.toInt a.toInt).1 = (f0 r_1.toInt.toNat).toInt ∧ RSo f0 (r_1.toInt + 1) (Ev x1.toInt a.toInt).2 (f0 r_1.toInt.toNat).toInt ∧ ∀ i : Int, 0 ≤ i → i < 2 * (f0 r_1.toInt.toNat).toInt → (Ev x1.toInt a.toInt).2 i ≤ 9) := by
    rcases hv_1 with ⟨q1, q2⟩ | ⟨q1, q2⟩
    · exact Or.inl ⟨q2, Or.inl q1⟩
    · rcases rf_at hEv hEO (by omega) q1 q2 hr9 hr8 with ⟨q3, q4⟩ | ⟨q3, q4⟩
      · exact Or.inl ⟨q3, Or.inr ⟨q1, q4⟩⟩
      · exact Or.inr ⟨q3, q1, q4⟩
  have hAt : Hd _ := hAt
  refine lv_istore_n (lv' := [(3, .int r_1), (0, .ref mm), (1, .int a), (2, .int b)]) hx hb dX11_state_5 rfl hl (by decide) rfl (fun ls hl => ?_)
  refine lv_aload_n hx hb dX11_state_6 rfl (lv_at hl 1 rfl) ?_
  refine lv_iload_n hx hb dX11_state_7 rfl (lv_at hl 0 rfl) ?_
  refine call_g (wr := []) (va_runV (As := [.int r_1]) (rest := []) ⟨hx, hb, hml, hown, hts⟩ (k_isPlainGood3 l D cI cR cM _  (by first | assumption | omega) (h_1) (by first | assumption | omega)) (cwV 1 hts gX11_state_X11_isPlainGood rfl rfl rfl (by decide +kernel) ⟨Nat.le_of_ble_eq_true rfl, Nat.le_of_ble_eq_true rfl⟩) (pre_V hK hP hD 0 11 rfl rfl) rfl rfl hl.1 rfl (lv_room (Nat.le_of_ble_eq_true rfl)) dX11_state_8 ⟨Nat.le_of_ble_eq_true rfl, Nat.le_of_ble_eq_true rfl⟩) hP hD hS hA [0, 1, 2, 3, 4, 5, 6, 7, 8, 9, 10, 11, 12, 13, 14, 15, 16, 17, 18, 19, 20, 21, 22, 23, 24, 25] [] (by with_unfolding_all rfl) rfl (by decide) (by decide) (fun u_2 H locs hw hP hD hS => ?_)
  obtain ⟨r_2, y15_2, y16_2, g12_2⟩ := u_2
  have hP : va_P D vwCl (mX mm q jn cI x0 x1 x2 x3 x4 x5 x6 x7 x8 x9 x10 x11 x12 x13 x14 y15_2 y16_2 x17 x18 x19 x20 f0 f1 f2 f3 f4 f5 f6 f7 f8 f9 f10 f11 g12_2 f13 f14 f15 f16 f17 f18 f19 f20 f21 f22 f23 f24) H := hP
  have hD : va_D A (mX mm q jn cI x0 x1 x2 x3 x4 x5 x6 x7 x8 x9 x10 x11 x12 x13 x14 y15_2 y16_2 x17 x18 x19 x20 f0 f1 f2 f3 f4 f5 f6 f7 f8 f9 f10 f11 g12_2 f13 f14 f15 f16 f17 f18 f19 f20 f21 f22 f23 f24) := hD
  obtain ⟨h_2, hg_2, hG_2, hN_2⟩ : (r_2.toInt = 0 ∨ r_2.toInt = 1) ∧ (r_2.toInt = 1 → 0 ≤ r_1.toInt) ∧ (r_2.toInt = 1 → cy_G f0 r_1.toInt (f0 r_1.toInt.toNat).toInt ∧ (∀ i9 : Int, 0 ≤ i9 → i9 < (f0 r_1.toInt.toNat).toInt → cy_h f0 r_1.toInt (6 * i9 + 1) = 0)) ∧ (r_2.toInt = 0 → r_1.toInt = -1 ∨ ¬ (cy_G f0 r_1.toInt (f0 r_1.toInt.toNat).toInt ∧ (∀ i9 : Int, 0 ≤ i9 → i9 < (f0 r_1.toInt.toNat).toInt → cy_h f0 r_1.toInt (6 * i9 + 1) = 0))) := hw
  refine a_if_eq (u := r_2.toInt) (tgt := 30) hx hb dX11_state_11 (by decide) (rfl) (fun c_3 => ?_) (fun c_3 => ?_)
  · refine lv_iconst (v := (-1)) hx hb dX11_state_30 (by decide) ?_
    have hz_4 : (-1 : Int32).toInt = (-1) := by decide
    exact g_iret ((-1 : Int32), y15_2, y16_2, g12_2) hx hb hr hlocks hS rfl (show StAns Ev x1.toInt a.toInt b.toInt (-1 : Int32).toInt from (by
      rcases hAt with ⟨c0, c1⟩ | ⟨c0, c1, c2, c3, c4, c5⟩
      · rcases c1 with c1 | ⟨c1, c2⟩
        · exact Or.inl ⟨c1, by decide⟩
        · exact Or.inr ⟨c1, Or.inr ⟨fun q9 => by have := q9.1; omega, by decide⟩⟩
      · have g3 := (hN_2 (by omega)).resolve_left (by omega)
        have hz : ZX 1 f0 (r_1.toInt + 1) (f0 r_1.toInt.toNat).toInt := by have q9 := (h_1.resolve_left (by omega)).2; rw [hj1] at q9; exact q9
        refine Or.inr ⟨c1, Or.inr ⟨fun q9 => g3 ⟨(cy_GW c4 hz (by omega)).mpr (by rw [← c3]; exact q9.2.2.1), (pl_W c4).mpr (by rw [← c3]; exact q9.2.1)⟩, by decide⟩⟩)) hP hD hQ (Nat.le_of_ble_eq_true rfl) (Nat.le_of_ble_eq_true rfl) dX11_state_31
  · have hge := hg_2 (by omega)
    have hrw := (h_1.resolve_left (by omega)).1
    have hrw1 := hrw
    obtain ⟨ha1, ha2, ha3, ha4, ha5, ha6⟩ := hrw1
    refine lv_iload_n hx hb dX11_state_14 rfl (lv_at hl 3 rfl) ?_
    refine lv_iconst (v := 0) hx hb dX11_state_15 (by decide) ?_
    refine lv_aload_n hx hb dX11_state_16 rfl (lv_at hl 1 rfl) ?_
    refine va_get (D := D) (ci := 11) (v := .ref (q 0)) (C := RX11) (T := TX11) (N := 47) hx hb hts (by decide +kernel) hown hK.1 hP 0 rfl rfl 1 (by decide) (hts (.fieldLink RX11 8 "JugglingHallModel" "rows" "[I") (by decide +kernel)) (fun _ h9 => h9) rfl dX11_state_17 ?_
    refine lv_iload_n hx hb dX11_state_20 rfl (lv_at hl 0 rfl) ?_
    refine a_iald (f := f0) (u := r_1.toInt) hx hb hK.1 hP 1 0 rfl rfl dX11_state_21 (rfl) (by omega) (fun z_5 q_5 e_5 => ?_)
    refine lv_iconst (v := 1) hx hb dX11_state_22 (by decide) ?_
    refine a_isub (u := z_5.toInt) (v := 1) hx hb dX11_state_23 (rfl) (by decide) (by omega) (fun z_6 e_6 => ?_)
    have hz_7 : (0 : Int32).toInt = 0 := by decide
    refine roP (va_runS (As := [.int b, .int 0, .int z_6]) (rest := []) ⟨hx, hb, hml, hown, hts⟩ (k_isIn l D cI cR cM _  ) (va_cwS 3 hts gX11_state_X11_isIn rfl rfl rfl (by decide +kernel) ⟨Nat.le_of_ble_eq_true rfl, Nat.le_of_ble_eq_true rfl⟩) (pre_S hK va_P_nil (va_D_nil (A := fun _ => True))) rfl rfl hl.1 rfl (lv_room (Nat.le_of_ble_eq_true rfl)) dX11_state_24 ⟨Nat.le_of_ble_eq_true rfl, Nat.le_of_ble_eq_true rfl⟩) hS hA hP (fun r_8 H locs hw hP hS => ?_)
    have h_8 : ((r_8.toInt = 1 ∧ (0 : Int32).toInt ≤ b.toInt ∧ b.toInt ≤ z_6.toInt) ∨ (r_8.toInt = 0 ∧ (b.toInt < (0 : Int32).toInt ∨ z_6.toInt < b.toInt))) := hw
    refine a_if_ne (u := r_8.toInt) (tgt := 32) hx hb dX11_state_27 (by decide) (rfl) (fun c_9 => ?_) (fun c_9 => ?_)
    · refine lv_aload_n hx hb dX11_state_32 rfl (lv_at hl 1 rfl) ?_
      refine lv_iload_n hx hb dX11_state_33 rfl (lv_at hl 0 rfl) ?_
      refine lv_iload_n hx hb dX11_state_34 rfl (lv_at hl 3 rfl) ?_
      refine roP (va_runV (As := [.int r_1, .int b]) (rest := []) ⟨hx, hb, hml, hown, hts⟩ (k_stateOf3 l D cI cR cM _ (w := (Ev x1.toInt a.toInt).2) (by first | assumption | omega) (hrw) (by first | assumption | omega) ((hAt.resolve_left (fun q9 => by have := q9.1; omega)).2.2.2.2.1) ((hAt.resolve_left (fun q9 => by have := q9.1; omega)).2.2.2.2.2)) (cwV 2 hts gX11_state_X11_stateOf rfl rfl rfl (by decide +kernel) ⟨Nat.le_of_ble_eq_true rfl, Nat.le_of_ble_eq_true rfl⟩) (pre_V hK hP hD 0 11 rfl rfl) rfl rfl hl.1 rfl (lv_room (Nat.le_of_ble_eq_true rfl)) dX11_state_35 ⟨Nat.le_of_ble_eq_true rfl, Nat.le_of_ble_eq_true rfl⟩) hS hA hP (fun r_10 H locs hw hP hS => ?_)
      have hM_10 : (∃ M9 : Nat, r_10 = nI M9 ∧ StM (Ev x1.toInt a.toInt).2 (f0 r_1.toInt.toNat).toInt b.toInt M9) := hw
      exact g_iret (r_10, y15_2, y16_2, g12_2) hx hb hr hlocks hS rfl (show StAns Ev x1.toInt a.toInt b.toInt r_10.toInt from (by
        obtain ⟨c0, c1, c2, c3, c4, c5⟩ := hAt.resolve_left (fun q9 => by have := q9.1; omega)
        obtain ⟨M9, g1, g2⟩ := hM_10
        have g3 := hG_2 (by omega)
        have hz : ZX 1 f0 (r_1.toInt + 1) (f0 r_1.toInt.toNat).toInt := by have q9 := (h_1.resolve_left (by omega)).2; rw [hj1] at q9; exact q9
        have g4 := (cy_GW c4 hz (by omega)).mp g3.1
        have g5 := (pl_W c4).mp g3.2
        rw [← c3] at g2 g4 g5
        refine Or.inr ⟨c1, Or.inl ⟨M9, ⟨c2, g5, g4, by omega, by omega⟩, ?_, g2⟩⟩
        rw [g1, nI_toInt (by have := g2.1; omega)])) hP hD hQ (Nat.le_of_ble_eq_true rfl) (Nat.le_of_ble_eq_true rfl) dX11_state_38
    · refine lv_iconst (v := (-1)) hx hb dX11_state_30 (by decide) ?_
      have hz_11 : (-1 : Int32).toInt = (-1) := by decide
      exact g_iret ((-1 : Int32), y15_2, y16_2, g12_2) hx hb hr hlocks hS rfl (show StAns Ev x1.toInt a.toInt b.toInt (-1 : Int32).toInt from (by
        obtain ⟨c0, c1, c2, c3, c4, c5⟩ := hAt.resolve_left (fun q9 => by have := q9.1; have := hg_2 (by omega); omega)
        exact Or.inr ⟨c1, Or.inr ⟨fun q9 => by have h8 := q9.2.2.2; omega, by decide⟩⟩)) hP hD hQ (Nat.le_of_ble_eq_true rfl) (Nat.le_of_ble_eq_true rfl) dX11_state_31
