set_option maxRecDepth 100000 in
set_option maxHeartbeats 4000000 in
theorem k_isCaughtAhead3 (l : Launch) (D : va_G) (cI cR cM : ClassId) (sz : Nat) {jn mm : Nat} {q : Nat → Nat} {x0 x1 x2 x3 x4 x5 x6 x7 x8 x9 x10 x11 x12 x13 x14 x15 x16 x17 x18 x19 x20 : Int32} {f0 f1 f2 f3 f4 f5 f6 f7 f8 f9 f10 f11 f12 f13 f14 f15 f16 f17 f18 f19 f20 f21 f22 f23 f24 : Nat → Int32} {a t u9 : Int32}  (hj : 1 ≤ jn ∧ jn ≤ 3) (hrow9 : IsRow jn f0 a.toInt) (ht0 : 0 ≤ t.toInt ∧ t.toInt < 6 * (f0 a.toInt.toNat).toInt) (hu0 : 0 ≤ u9.toInt ∧ u9.toInt < 6 * (f0 a.toInt.toNat).toInt) : Met l yX11_isCaughtAhead wsX11_isCaughtAhead ({ frames := 1, cells := 0, slots := 0, locals := 22 }) (P0 D cI cR cM [.ref mm, .int a, .int t, .int u9] sz (mX mm q jn cI x0 x1 x2 x3 x4 x5 x6 x7 x8 x9 x10 x11 x12 x13 x14 x15 x16 x17 x18 x19 x20 f0 f1 f2 f3 f4 f5 f6 f7 f8 f9 f10 f11 f12 f13 f14 f15 f16 f17 f18 f19 f20 f21 f22 f23 f24)) (QP (fun r => (r.toInt = 0 ∨ r.toInt = 1) ∧ ((r.toInt = 1 ∧ PA f0 a.toInt t.toInt u9.toInt) ∨ (r.toInt = 0 ∧ ¬ PA f0 a.toInt t.toInt u9.toInt))) sz) 0 0 (va_A [] sz) := by
  refine go (cc := cX11_isCaughtAhead) (maxL := 6) (ret := (some .boolean)) (by decide) rfl (Nat.le_of_ble_eq_true rfl) ?_
  intro p e s m below meth c ls args Q hQ hsz hx hb hr hml hts hown hlocks hnm hP hK hD hl
  subst hsz
  have hS : va_S (va_A [] s.heap.size) s.heap s.heap [] := va_S.rf
  have hA : ∀ q, s.heap.size ≤ q → va_A [] s.heap.size q := fun q h => Or.inr h
  have hl : lv_has ls 6 [(0, .ref mm), (1, .int a), (2, .int t), (3, .int u9)] := hl
  refine lv_aload_n hx hb dX11_isCaughtAhead_0 rfl (lv_at hl 0 rfl) ?_
  refine lv_iload_n hx hb dX11_isCaughtAhead_1 rfl (lv_at hl 1 rfl) ?_
  refine lv_iload_n hx hb dX11_isCaughtAhead_2 rfl (lv_at hl 2 rfl) ?_
  refine roP (va_runV (As := [.int a, .int t]) (rest := []) ⟨hx, hb, hml, hown, hts⟩ (k_heightOf2 l D cI cR cM _  (by first | assumption | omega) (by first | assumption | omega) (by first | assumption | omega)) (cwV 2 hts gX11_isCaughtAhead_X11_heightOf rfl rfl rfl (by decide +kernel) ⟨Nat.le_of_ble_eq_true rfl, Nat.le_of_ble_eq_true rfl⟩) (pre_V hK hP hD 0 11 rfl rfl) rfl rfl hl.1 rfl (lv_room (Nat.le_of_ble_eq_true rfl)) dX11_isCaughtAhead_3 ⟨Nat.le_of_ble_eq_true rfl, Nat.le_of_ble_eq_true rfl⟩) hS hA hP (fun r_1 H locs hw hP hS => ?_)
  obtain ⟨h_1, hb_1⟩ : (r_1.toInt = cy_h f0 a.toInt t.toInt) ∧ (0 ≤ r_1.toInt ∧ r_1.toInt ≤ 9) := hw
  have hx9 := h_1
  refine lv_istore (lv' := [(4, .int r_1), (0, .ref mm), (1, .int a), (2, .int t), (3, .int u9)]) hx hb dX11_isCaughtAhead_6 hl (by decide) rfl (fun ls hl => ?_)
  refine lv_aload_n hx hb dX11_isCaughtAhead_8 rfl (lv_at hl 1 rfl) ?_
  refine lv_iload_n hx hb dX11_isCaughtAhead_9 rfl (lv_at hl 2 rfl) ?_
  refine lv_iload_n hx hb dX11_isCaughtAhead_10 rfl (lv_at hl 4 rfl) ?_
  refine roP (va_runV (As := [.int a, .int u9]) (rest := []) ⟨hx, hb, hml, hown, hts⟩ (k_heightOf2 l D cI cR cM _  (by first | assumption | omega) (by first | assumption | omega) (by first | assumption | omega)) (cwV 2 hts gX11_isCaughtAhead_X11_heightOf rfl rfl rfl (by decide +kernel) ⟨Nat.le_of_ble_eq_true rfl, Nat.le_of_ble_eq_true rfl⟩) (pre_V hK hP hD 0 11 rfl rfl) rfl rfl hl.1 rfl (lv_room (Nat.le_of_ble_eq_true rfl)) dX11_isCaughtAhead_11 ⟨Nat.le_of_ble_eq_true rfl, Nat.le_of_ble_eq_true rfl⟩) hS hA hP (fun r_2 H locs hw hP hS => ?_)
  obtain ⟨h_2, hb_2⟩ : (r_2.toInt = cy_h f0 a.toInt u9.toInt) ∧ (0 ≤ r_2.toInt ∧ r_2.toInt ≤ 9) := hw
  have hy9 := h_2
  refine lv_istore (lv' := [(5, .int r_2), (4, .int r_1), (0, .ref mm), (1, .int a), (2, .int t), (3, .int u9)]) hx hb dX11_isCaughtAhead_14 hl (by decide) rfl (fun ls hl => ?_)
  refine lv_iload hx hb dX11_isCaughtAhead_16 (lv_at hl 1 rfl) ?_
  refine lv_iload hx hb dX11_isCaughtAhead_18 (lv_at hl 0 rfl) ?_
  refine a_icmp_eq (u := r_1.toInt) (v := r_2.toInt) (tgt := 38) hx hb dX11_isCaughtAhead_20 (by decide) (rfl) (rfl) (fun c_3 => ?_) (fun c_3 => ?_)
  · refine lv_iload_n hx hb dX11_isCaughtAhead_38 rfl (lv_at hl 4 rfl) ?_
    refine lv_bipush (v := 6) hx hb dX11_isCaughtAhead_39 (by decide) ?_
    refine a_irem (u := t.toInt) (v := 6) hx hb dX11_isCaughtAhead_41 (rfl) (by decide) (by omega) (fun z_4 e_4 h_4 k_4 => ?_)
    refine lv_iload_n hx hb dX11_isCaughtAhead_42 rfl (lv_at hl 5 rfl) ?_
    refine lv_bipush (v := 6) hx hb dX11_isCaughtAhead_43 (by decide) ?_
    refine a_irem (u := u9.toInt) (v := 6) hx hb dX11_isCaughtAhead_45 (rfl) (by decide) (by omega) (fun z_5 e_5 h_5 k_5 => ?_)
    refine a_icmp_ge (u := z_4.toInt) (v := z_5.toInt) (tgt := 53) hx hb dX11_isCaughtAhead_46 (by decide) (rfl) (rfl) (fun c_6 => ?_) (fun c_6 => ?_)
    · refine lv_iconst (v := 0) hx hb dX11_isCaughtAhead_53 (by decide) ?_
      have hz_7 : (0 : Int32).toInt = 0 := by decide
      exact rp_zret hx hb hr hlocks hS (by first | exact Or.inl rfl | exact Or.inr rfl) (⟨show (0 : Int32).toInt = 0 ∨ (0 : Int32).toInt = 1 from (by first | assumption | omega), show ((0 : Int32).toInt = 1 ∧ PA f0 a.toInt t.toInt u9.toInt) ∨ ((0 : Int32).toInt = 0 ∧ ¬ PA f0 a.toInt t.toInt u9.toInt) from (Or.inr ⟨rfl, by unfold PA; rw [← hx9, ← hy9]; omega⟩)⟩) hQ dX11_isCaughtAhead_54
    · refine lv_iconst (v := 1) hx hb dX11_isCaughtAhead_49 (by decide) ?_
      refine lv_goto (tgt := 54) hx hb dX11_isCaughtAhead_50 (by decide) ?_
      have hz_8 : (1 : Int32).toInt = 1 := by decide
      exact rp_zret hx hb hr hlocks hS (by first | exact Or.inl rfl | exact Or.inr rfl) (⟨show (1 : Int32).toInt = 0 ∨ (1 : Int32).toInt = 1 from (by first | assumption | omega), show ((1 : Int32).toInt = 1 ∧ PA f0 a.toInt t.toInt u9.toInt) ∨ ((1 : Int32).toInt = 0 ∧ ¬ PA f0 a.toInt t.toInt u9.toInt) from (Or.inl ⟨rfl, by unfold PA; rw [← hx9, ← hy9]; omega⟩)⟩) hQ dX11_isCaughtAhead_54
  · refine lv_iload hx hb dX11_isCaughtAhead_23 (lv_at hl 1 rfl) ?_
    refine lv_iload hx hb dX11_isCaughtAhead_25 (lv_at hl 0 rfl) ?_
    refine a_icmp_le (u := r_1.toInt) (v := r_2.toInt) (tgt := 34) hx hb dX11_isCaughtAhead_27 (by decide) (rfl) (rfl) (fun c_9 => ?_) (fun c_9 => ?_)
    · refine lv_iconst (v := 0) hx hb dX11_isCaughtAhead_34 (by decide) ?_
      refine lv_goto (tgt := 54) hx hb dX11_isCaughtAhead_35 (by decide) ?_
      have hz_10 : (0 : Int32).toInt = 0 := by decide
      exact rp_zret hx hb hr hlocks hS (by first | exact Or.inl rfl | exact Or.inr rfl) (⟨show (0 : Int32).toInt = 0 ∨ (0 : Int32).toInt = 1 from (by first | assumption | omega), show ((0 : Int32).toInt = 1 ∧ PA f0 a.toInt t.toInt u9.toInt) ∨ ((0 : Int32).toInt = 0 ∧ ¬ PA f0 a.toInt t.toInt u9.toInt) from (Or.inr ⟨rfl, by unfold PA; rw [← hx9, ← hy9]; omega⟩)⟩) hQ dX11_isCaughtAhead_54
    · refine lv_iconst (v := 1) hx hb dX11_isCaughtAhead_30 (by decide) ?_
      refine lv_goto (tgt := 54) hx hb dX11_isCaughtAhead_31 (by decide) ?_
      have hz_11 : (1 : Int32).toInt = 1 := by decide
      exact rp_zret hx hb hr hlocks hS (by first | exact Or.inl rfl | exact Or.inr rfl) (⟨show (1 : Int32).toInt = 0 ∨ (1 : Int32).toInt = 1 from (by first | assumption | omega), show ((1 : Int32).toInt = 1 ∧ PA f0 a.toInt t.toInt u9.toInt) ∨ ((1 : Int32).toInt = 0 ∧ ¬ PA f0 a.toInt t.toInt u9.toInt) from (Or.inl ⟨rfl, by unfold PA; rw [← hx9, ← hy9]; omega⟩)⟩) hQ dX11_isCaughtAhead_54
set_option maxRecDepth 100000 in
set_option maxHeartbeats 4000000 in
theorem k_landOn3 (l : Launch) (D : va_G) (cI cR cM : ClassId) (sz : Nat) {jn mm : Nat} {q : Nat → Nat} {x0 x1 x2 x3 x4 x5 x6 x7 x8 x9 x10 x11 x12 x13 x14 x15 x16 x17 x18 x19 x20 : Int32} {f0 f1 f2 f3 f4 f5 f6 f7 f8 f9 f10 f11 f12 f13 f14 f15 f16 f17 f18 f19 f20 f21 f22 f23 f24 : Nat → Int32} {a b d : Int32} {w so : Int → Int} (hj : 1 ≤ jn ∧ jn ≤ 3) (hrow9 : IsRow jn f0 a.toInt) (hj1 : jn = 1) (hrs : RSo f0 (a.toInt + 1) w (f0 a.toInt.toNat).toInt) (hZ9 : ZX jn f0 (a.toInt + 1) (f0 a.toInt.toNat).toInt) (hGd : GdW w (f0 a.toInt.toNat).toInt) (hSF : SrcF w (f0 a.toInt.toNat).toInt so) (hb0 : 0 ≤ b.toInt ∧ b.toInt < (f0 a.toInt.toNat).toInt) (hd0 : d.toInt = 0) : Met l yX11_landOn wsX11_landOn ({ frames := 2, cells := 0, slots := 0, locals := 47 }) (P0 D cI cR cM [.ref mm, .int a, .int b, .int d] sz (mX mm q jn cI x0 x1 x2 x3 x4 x5 x6 x7 x8 x9 x10 x11 x12 x13 x14 x15 x16 x17 x18 x19 x20 f0 f1 f2 f3 f4 f5 f6 f7 f8 f9 f10 f11 f12 f13 f14 f15 f16 f17 f18 f19 f20 f21 f22 f23 f24)) (QG (S := Int32 × (Nat → Int32)) (fun u => some (.int u.1)) (fun u => mX mm q jn cI x0 x1 x2 x3 x4 x5 x6 x7 x8 x9 x10 x11 x12 x13 x14 x15 x16 x17 x18 x19 x20 f0 f1 f2 f3 f4 f5 f6 f7 f8 f9 f10 f11 f12 f13 f14 f15 (u.2) f17 f18 f19 f20 f21 f22 f23 f24) (fun u => (u.1.toInt = Lct w (f0 a.toInt.toNat).toInt b.toInt (2 * (f0 a.toInt.toNat).toInt).toNat) ∧ (1 ≤ u.1.toInt → (u.2 0).toInt = 6 * (so (2 * b.toInt) / 2) + so (2 * b.toInt) % 2) ∧ (2 ≤ u.1.toInt → (u.2 1).toInt = 6 * (so (2 * b.toInt + 1) / 2) + so (2 * b.toInt + 1) % 2)) D (va_A (mX mm q jn cI x0 x1 x2 x3 x4 x5 x6 x7 x8 x9 x10 x11 x12 x13 x14 x15 x16 x17 x18 x19 x20 f0 f1 f2 f3 f4 f5 f6 f7 f8 f9 f10 f11 f12 f13 f14 f15 f16 f17 f18 f19 f20 f21 f22 f23 f24) sz)) 0 0 (va_A (mX mm q jn cI x0 x1 x2 x3 x4 x5 x6 x7 x8 x9 x10 x11 x12 x13 x14 x15 x16 x17 x18 x19 x20 f0 f1 f2 f3 f4 f5 f6 f7 f8 f9 f10 f11 f12 f13 f14 f15 f16 f17 f18 f19 f20 f21 f22 f23 f24) sz) := by
  refine go (cc := cX11_landOn) (maxL := 9) (ret := (some .int)) (by decide) rfl (Nat.le_of_ble_eq_true rfl) ?_
  intro p e s m below meth c ls args Q hQ hsz hx hb hr hml hts hown hlocks hnm hP hK hD hl
  subst hsz
  have hD := hD.self (sz := s.heap.size)
  generalize hAe : va_A (mX mm q jn cI x0 x1 x2 x3 x4 x5 x6 x7 x8 x9 x10 x11 x12 x13 x14 x15 x16 x17 x18 x19 x20 f0 f1 f2 f3 f4 f5 f6 f7 f8 f9 f10 f11 f12 f13 f14 f15 f16 f17 f18 f19 f20 f21 f22 f23 f24) s.heap.size = A at hD hQ
  have hA : ∀ q, s.heap.size ≤ q → A q := fun q h => by rw [← hAe]; exact Or.inr h
  have hS : va_S A s.heap s.heap [] := va_S.rf
  have hl : lv_has ls 9 [(0, .ref mm), (1, .int a), (2, .int b), (3, .int d)] := hl
  have hr0 := hrow9
  obtain ⟨hr1, hr2, hr3, hr4, hr5, hr6⟩ := hrow9
  refine lv_aload_n hx hb dX11_landOn_0 rfl (lv_at hl 0 rfl) ?_
  refine va_get (D := D) (ci := 11) (v := .ref (q 0)) (C := RX11) (T := TX11) (N := 47) hx hb hts (by decide +kernel) hown hK.1 hP 0 rfl rfl 1 (by decide) (hts (.fieldLink RX11 8 "JugglingHallModel" "rows" "[I") (by decide +kernel)) (fun _ h9 => h9) rfl dX11_landOn_1 ?_
  refine lv_iload_n hx hb dX11_landOn_4 rfl (lv_at hl 1 rfl) ?_
  refine a_iald (f := f0) (u := a.toInt) hx hb hK.1 hP 1 0 rfl rfl dX11_landOn_5 (rfl) (by omega) (fun z_1 q_1 e_1 => ?_)
  have hn9 : z_1.toInt = (f0 a.toInt.toNat).toInt := e_1
  refine lv_istore (lv' := [(4, .int z_1), (0, .ref mm), (1, .int a), (2, .int b), (3, .int d)]) hx hb dX11_landOn_6 hl (by decide) rfl (fun ls hl => ?_)
  refine lv_iconst (v := 0) hx hb dX11_landOn_8 (by decide) ?_
  refine lv_istore (lv' := [(5, .int 0), (4, .int z_1), (0, .ref mm), (1, .int a), (2, .int b), (3, .int d)]) hx hb dX11_landOn_9 hl (by decide) rfl (fun ls hl => ?_)
  refine lv_iconst (v := 0) hx hb dX11_landOn_11 (by decide) ?_
  refine lv_istore (lv' := [(6, .int 0), (5, .int 0), (4, .int z_1), (0, .ref mm), (1, .int a), (2, .int b), (3, .int d)]) hx hb dX11_landOn_12 hl (by decide) rfl (fun ls hl => ?_)
  have loop14 : ∀ (ddloop14 : Nat) (m5 : Int32) (t : Int32) (ga : (Nat → Int32)) (H : Heap) (locs : List Loc) (ls : Array Slot), (6 * (f0 a.toInt.toNat).toInt - t.toInt).toNat < ddloop14 → (0 ≤ t.toInt ∧ t.toInt ≤ 6 * (f0 a.toInt.toNat).toInt) → (0 ≤ m5.toInt ∧ m5.toInt ≤ 2) → (SLp w (f0 a.toInt.toNat).toInt b.toInt (T6 t.toInt) m5.toInt ga) → va_P D vwCl (mX mm q jn cI x0 x1 x2 x3 x4 x5 x6 x7 x8 x9 x10 x11 x12 x13 x14 x15 x16 x17 x18 x19 x20 f0 f1 f2 f3 f4 f5 f6 f7 f8 f9 f10 f11 f12 f13 f14 f15 ga f17 f18 f19 f20 f21 f22 f23 f24) H → va_D A (mX mm q jn cI x0 x1 x2 x3 x4 x5 x6 x7 x8 x9 x10 x11 x12 x13 x14 x15 x16 x17 x18 x19 x20 f0 f1 f2 f3 f4 f5 f6 f7 f8 f9 f10 f11 f12 f13 f14 f15 ga f17 f18 f19 f20 f21 f22 f23 f24) → va_S A s.heap H locs → lv_has ls 9 [(0, .ref mm), (1, .int a), (2, .int b), (3, .int d), (4, .int z_1), (5, .int m5), (6, .int t)] → W p l e ({ frames := 2, cells := 0, slots := 0, locals := 47 }) s m args below meth c H locs 0 0 Q (F0 m 14 ls []) := by
    intro ddloop14
    induction ddloop14 with
    | zero =>
      intro m5 t ga H locs ls hdd
      exact absurd hdd (Nat.not_lt_zero _)
    | succ ddloop14 ih14 =>
      intro m5 t ga H locs ls hdd ht hm5 hSL hP hD hS hl
      refine lv_iload hx hb dX11_landOn_14 (lv_at hl 6 rfl) ?_
      refine lv_bipush (v := 6) hx hb dX11_landOn_16 (by decide) ?_
      refine lv_iload hx hb dX11_landOn_18 (lv_at hl 4 rfl) ?_
      refine a_imul (u := 6) (v := z_1.toInt) hx hb dX11_landOn_20 (by decide) (rfl) (by omega) (fun z_2 e_2 => ?_)
      refine a_icmp_ge (u := t.toInt) (v := (6 * z_1.toInt)) (tgt := 141) hx hb dX11_landOn_21 (by decide) (rfl) (e_2) (fun c_3 => ?_) (fun c_3 => ?_)
      · refine lv_iload hx hb dX11_landOn_141 (lv_at hl 5 rfl) ?_
        exact g_iret (m5, ga) hx hb hr hlocks hS rfl (⟨show m5.toInt = Lct w (f0 a.toInt.toNat).toInt b.toInt (2 * (f0 a.toInt.toNat).toInt).toNat from ((SL_e (by rw [← T6_e, show 6 * (f0 a.toInt.toNat).toInt = t.toInt by omega]; exact hSL) hSF hb0).1), show 1 ≤ m5.toInt → (ga 0).toInt = 6 * (so (2 * b.toInt) / 2) + so (2 * b.toInt) % 2 from ((SL_e (by rw [← T6_e, show 6 * (f0 a.toInt.toNat).toInt = t.toInt by omega]; exact hSL) hSF hb0).2.1), show 2 ≤ m5.toInt → (ga 1).toInt = 6 * (so (2 * b.toInt + 1) / 2) + so (2 * b.toInt + 1) % 2 from ((SL_e (by rw [← T6_e, show 6 * (f0 a.toInt.toNat).toInt = t.toInt by omega]; exact hSL) hSF hb0).2.2)⟩) hP hD hQ (Nat.le_of_ble_eq_true rfl) (Nat.le_of_ble_eq_true rfl) dX11_landOn_143
      · refine lv_aload_n hx hb dX11_landOn_24 rfl (lv_at hl 0 rfl) ?_
        refine lv_iload_n hx hb dX11_landOn_25 rfl (lv_at hl 1 rfl) ?_
        refine lv_iload hx hb dX11_landOn_26 (lv_at hl 6 rfl) ?_
        refine roP (va_runV (As := [.int a, .int t]) (rest := []) ⟨hx, hb, hml, hown, hts⟩ (k_heightOf2 l D cI cR cM _  (by first | assumption | omega) (hr0) (by first | assumption | omega)) (cwV 2 hts gX11_landOn_X11_heightOf rfl rfl rfl (by decide +kernel) ⟨Nat.le_of_ble_eq_true rfl, Nat.le_of_ble_eq_true rfl⟩) (pre_V hK hP hD 0 11 rfl rfl) rfl rfl hl.1 rfl (lv_room (Nat.le_of_ble_eq_true rfl)) dX11_landOn_28 ⟨Nat.le_of_ble_eq_true rfl, Nat.le_of_ble_eq_true rfl⟩) hS hA hP (fun r_4 H locs hw hP hS => ?_)
        obtain ⟨h_4, hb_4⟩ : (r_4.toInt = cy_h f0 a.toInt t.toInt) ∧ (0 ≤ r_4.toInt ∧ r_4.toInt ≤ 9) := hw
        have ht0 := ht.1
        have ht1 : t.toInt < 6 * (f0 a.toInt.toNat).toInt := by omega
        have hh9 : r_4.toInt = cy_h f0 a.toInt t.toInt := h_4
        refine lv_istore (lv' := [(7, .int r_4), (0, .ref mm), (1, .int a), (2, .int b), (3, .int d), (4, .int z_1), (5, .int m5), (6, .int t)]) hx hb dX11_landOn_31 hl (by decide) rfl (fun ls hl => ?_)
        refine lv_iload hx hb dX11_landOn_33 (lv_at hl 0 rfl) ?_
        refine a_if_eq (u := r_4.toInt) (tgt := 135) hx hb dX11_landOn_35 (by decide) (rfl) (fun c_5 => ?_) (fun c_5 => ?_)
        · obtain ⟨z_6, q_6, e_6⟩ := i_inc (a := t.toInt) (1) (rfl) (by decide) (by omega) (by omega)
          refine lv_iinc (v := z_6) (lv' := [(6, .int z_6), (7, .int r_4), (0, .ref mm), (1, .int a), (2, .int b), (3, .int d), (4, .int z_1), (5, .int m5)]) hx hb dX11_landOn_135 hl (k := 7) rfl q_6 (by decide) rfl (fun ls hl => ?_)
          refine lv_goto (tgt := 14) hx hb dX11_landOn_138 (by decide) ?_
          exact ih14 m5 z_6 ga _ _ _ (by omega) (by first | assumption | omega) (by first | assumption | omega) (by
            rw [show z_6.toInt = t.toInt + 1 by omega]
            by_cases q9 : t.toInt % 6 < 2
            · obtain ⟨u1, u2, u3⟩ := T6_u q9 ht0 ht1
              rw [T6_s q9]
              exact SL_n hSL u1 u2 (fun q8 => q8.2.2.1 (by rw [← (rh_T hrs ht0 ht1 q9).1]; omega))
            · rw [T6_n q9]; exact hSL) hP hD hS (lv_sub hl [2, 3, 4, 5, 6, 7, 0] rfl)
        · have hh : cy_h f0 a.toInt t.toInt ≠ 0 := by omega
          have hq6 := rh_u (by rw [← hj1]; exact hZ9) ht0 ht1 hh
          obtain ⟨hu1, hu2, hu3⟩ := T6_u hq6 ht0 ht1
          obtain ⟨hTh, hT4⟩ := rh_T hrs ht0 ht1 hq6
          refine lv_iload hx hb dX11_landOn_38 (lv_at hl 7 rfl) ?_
          refine lv_bipush (v := 6) hx hb dX11_landOn_40 (by decide) ?_
          refine a_idiv (u := t.toInt) (v := 6) hx hb dX11_landOn_42 (rfl) (by decide) (by omega) (fun z_7 e_7 => ?_)
          refine lv_iload hx hb dX11_landOn_43 (lv_at hl 0 rfl) ?_
          refine a_iadd (u := (t.toInt / 6)) (v := r_4.toInt) hx hb dX11_landOn_45 (e_7) (rfl) (by omega) (fun z_8 e_8 => ?_)
          refine lv_iload hx hb dX11_landOn_46 (lv_at hl 5 rfl) ?_
          refine a_irem (u := ((t.toInt / 6) + r_4.toInt)) (v := z_1.toInt) hx hb dX11_landOn_48 (e_8) (rfl) (by omega) (fun z_9 e_9 h_9 k_9 => ?_)
          have hcq : z_9.toInt = (t.toInt / 6 + cy_h f0 a.toInt t.toInt) % (f0 a.toInt.toNat).toInt := by rw [← hn9, ← hh9]; first | exact e_9 | omega
          refine lv_iload_n hx hb dX11_landOn_49 rfl (lv_at hl 3 rfl) ?_
          refine a_icmp_ne (u := z_9.toInt) (v := b.toInt) (tgt := 135) hx hb dX11_landOn_50 (by decide) (rfl) (rfl) (fun c_10 => ?_) (fun c_10 => ?_)
          · obtain ⟨z_11, q_11, e_11⟩ := i_inc (a := t.toInt) (1) (rfl) (by decide) (by omega) (by omega)
            refine lv_iinc (v := z_11) (lv' := [(6, .int z_11), (7, .int r_4), (0, .ref mm), (1, .int a), (2, .int b), (3, .int d), (4, .int z_1), (5, .int m5)]) hx hb dX11_landOn_135 hl (k := 7) rfl q_11 (by decide) rfl (fun ls hl => ?_)
            refine lv_goto (tgt := 14) hx hb dX11_landOn_138 (by decide) ?_
            exact ih14 m5 z_11 ga _ _ _ (by omega) (by first | assumption | omega) (by first | assumption | omega) (by
              rw [show z_11.toInt = t.toInt + 1 by omega, T6_s hq6]
              exact SL_n hSL hu1 hu2 (fun q8 => by have h9 := q8.2.2.2; rw [show T6 t.toInt / 2 = t.toInt / 6 by omega, ← hTh] at h9; omega)) hP hD hS (lv_sub hl [2, 3, 4, 5, 6, 7, 0] rfl)
          · refine lv_aload_n hx hb dX11_landOn_53 rfl (lv_at hl 1 rfl) ?_
            refine va_get (D := D) (ci := 11) (v := .ref (q 0)) (C := RX11) (T := TX11) (N := 47) hx hb hts (by decide +kernel) hown hK.1 hP 0 rfl rfl 1 (by decide) (hts (.fieldLink RX11 8 "JugglingHallModel" "rows" "[I") (by decide +kernel)) (fun _ h9 => h9) rfl dX11_landOn_54 ?_
            refine lv_iload_n hx hb dX11_landOn_57 rfl (lv_at hl 2 rfl) ?_
            refine lv_iconst (v := 1) hx hb dX11_landOn_58 (by decide) ?_
            refine a_iadd (u := a.toInt) (v := 1) hx hb dX11_landOn_59 (rfl) (by decide) (by omega) (fun z_12 e_12 => ?_)
            refine lv_iload hx hb dX11_landOn_60 (lv_at hl 7 rfl) ?_
            refine a_iadd (u := (a.toInt + 1)) (v := t.toInt) hx hb dX11_landOn_62 (e_12) (rfl) (by omega) (fun z_13 e_13 => ?_)
            refine a_iald (f := f0) (u := ((a.toInt + 1) + t.toInt)) hx hb hK.1 hP 1 0 rfl rfl dX11_landOn_63 (e_13) (by omega) (fun z_14 q_14 e_14 => ?_)
            obtain ⟨hc1, hc2, hc3, hc4⟩ := cy_c hr6 (t := t.toInt) (by omega) (by omega)
            have hcz : z_14.toInt = (f0 (a.toInt + 1 + t.toInt).toNat).toInt := by rw [q_14, show ((a.toInt + 1) + t.toInt) = a.toInt + 1 + t.toInt by omega]
            refine lv_iconst (v := 4) hx hb dX11_landOn_64 (by decide) ?_
            refine a_irem (u := z_14.toInt) (v := 4) hx hb dX11_landOn_65 (rfl) (by decide) (by omega) (fun z_15 e_15 h_15 k_15 => ?_)
            refine lv_iload_n hx hb dX11_landOn_66 rfl (lv_at hl 4 rfl) ?_
            refine a_icmp_eq (u := z_15.toInt) (v := d.toInt) (tgt := 73) hx hb dX11_landOn_67 (by decide) (rfl) (rfl) (fun c_16 => ?_) (fun c_16 => ?_)
            · have hLn : Lnr w (f0 a.toInt.toNat).toInt b.toInt (T6 t.toInt) := ⟨hu1, hu2, by rw [← hTh]; exact hh, by rw [show T6 t.toInt / 2 = t.toInt / 6 by omega, ← hTh, ← hcq]; omega⟩
              have hS1 := SL_1 hSL hGd hb0 hLn
              refine lv_iload hx hb dX11_landOn_73 (lv_at hl 6 rfl) ?_
              refine lv_istore (lv' := [(8, .int m5), (7, .int r_4), (0, .ref mm), (1, .int a), (2, .int b), (3, .int d), (4, .int z_1), (5, .int m5), (6, .int t)]) hx hb dX11_landOn_75 hl (by decide) rfl (fun ls hl => ?_)
              have loop77 : ∀ (ddloop77 : Nat) (k8 : Int32) (gb : (Nat → Int32)) (H : Heap) (locs : List Loc) (ls : Array Slot), (k8.toInt).toNat < ddloop77 → (0 ≤ k8.toInt ∧ k8.toInt ≤ m5.toInt) → ((k8.toInt = m5.toInt ∧ gb = ga) ∨ (m5.toInt = 1 ∧ k8.toInt = 0 ∧ gb = upd ga 1 (ga 0) ∧ PA f0 a.toInt t.toInt (ga 0).toInt)) → va_P D vwCl (mX mm q jn cI x0 x1 x2 x3 x4 x5 x6 x7 x8 x9 x10 x11 x12 x13 x14 x15 x16 x17 x18 x19 x20 f0 f1 f2 f3 f4 f5 f6 f7 f8 f9 f10 f11 f12 f13 f14 f15 gb f17 f18 f19 f20 f21 f22 f23 f24) H → va_D A (mX mm q jn cI x0 x1 x2 x3 x4 x5 x6 x7 x8 x9 x10 x11 x12 x13 x14 x15 x16 x17 x18 x19 x20 f0 f1 f2 f3 f4 f5 f6 f7 f8 f9 f10 f11 f12 f13 f14 f15 gb f17 f18 f19 f20 f21 f22 f23 f24) → va_S A s.heap H locs → lv_has ls 9 [(0, .ref mm), (1, .int a), (2, .int b), (3, .int d), (4, .int z_1), (5, .int m5), (6, .int t), (7, .int r_4), (8, .int k8)] → W p l e ({ frames := 2, cells := 0, slots := 0, locals := 47 }) s m args below meth c H locs 0 0 Q (F0 m 77 ls []) := by
                intro ddloop77
                induction ddloop77 with
                | zero =>
                  intro k8 gb H locs ls hdd
                  exact absurd hdd (Nat.not_lt_zero _)
                | succ ddloop77 ih77 =>
                  intro k8 gb H locs ls hdd hk8 hIn hP hD hS hl
                  refine lv_iload hx hb dX11_landOn_77 (lv_at hl 8 rfl) ?_
                  refine a_if_le (u := k8.toInt) (tgt := 123) hx hb dX11_landOn_79 (by decide) (rfl) (fun c_17 => ?_) (fun c_17 => ?_)
                  · refine lv_aload_n hx hb dX11_landOn_123 rfl (lv_at hl 0 rfl) ?_
                    refine va_get (D := D) (ci := 11) (v := .ref (q 16)) (C := RX11) (T := TX11) (N := 47) hx hb hts (by decide +kernel) hown hK.1 hP 0 rfl rfl 34 (by decide) (hts (.fieldLink RX11 66 "JugglingHallModel" "landing" "[I") (by decide +kernel)) (fun _ h9 => h9) rfl dX11_landOn_124 ?_
                    refine lv_iload hx hb dX11_landOn_127 (lv_at hl 8 rfl) ?_
                    refine lv_iload hx hb dX11_landOn_129 (lv_at hl 6 rfl) ?_
                    refine ma_16 (u := k8.toInt) hx hb hK hP hD hS dX11_landOn_131 (rfl) (by omega) (fun g_18 H locs eg_18 hP hD hS => ?_)
                    obtain ⟨z_19, q_19, e_19⟩ := i_inc (a := m5.toInt) (1) (rfl) (by decide) (by omega) (by omega)
                    refine lv_iinc (v := z_19) (lv' := [(5, .int z_19), (0, .ref mm), (1, .int a), (2, .int b), (3, .int d), (4, .int z_1), (6, .int t), (7, .int r_4), (8, .int k8)]) hx hb dX11_landOn_132 hl (k := 5) rfl q_19 (by decide) rfl (fun ls hl => ?_)
                    obtain ⟨z_20, q_20, e_20⟩ := i_inc (a := t.toInt) (1) (rfl) (by decide) (by omega) (by omega)
                    refine lv_iinc (v := z_20) (lv' := [(6, .int z_20), (5, .int z_19), (0, .ref mm), (1, .int a), (2, .int b), (3, .int d), (4, .int z_1), (7, .int r_4), (8, .int k8)]) hx hb dX11_landOn_135 hl (k := 6) rfl q_20 (by decide) rfl (fun ls hl => ?_)
                    refine lv_goto (tgt := 14) hx hb dX11_landOn_138 (by decide) ?_
                    exact ih14 z_19 z_20 g_18 _ _ _ (by omega) (by first | assumption | omega) (by first | assumption | omega) (by
                      rw [show z_20.toInt = t.toInt + 1 by omega, T6_s hq6, show z_19.toInt = m5.toInt + 1 by omega]
                      rcases hIn with ⟨i1, i2⟩ | ⟨i1, i2, i3, i4⟩
                      · refine SL_a (v := 0) hSL hGd hb0 hLn (by omega) ?_
                        rw [eg_18, show k8.toInt.toNat = 0 by omega, pk_us]; omega
                      · refine SL_c hSL hrs hGd hb0 hLn i1 (by rw [hu3]; exact i4) ?_ ?_
                        · rw [eg_18, i3, show k8.toInt.toNat = 0 by omega]; rfl
                        · rw [eg_18, show k8.toInt.toNat = 0 by omega, pk_us]; omega) hP hD hS (lv_sub hl [2, 3, 4, 5, 6, 1, 0] rfl)
                  · refine lv_aload_n hx hb dX11_landOn_82 rfl (lv_at hl 0 rfl) ?_
                    refine lv_iload_n hx hb dX11_landOn_83 rfl (lv_at hl 1 rfl) ?_
                    refine lv_iload hx hb dX11_landOn_84 (lv_at hl 6 rfl) ?_
                    refine lv_aload_n hx hb dX11_landOn_86 rfl (lv_at hl 0 rfl) ?_
                    refine va_get (D := D) (ci := 11) (v := .ref (q 16)) (C := RX11) (T := TX11) (N := 47) hx hb hts (by decide +kernel) hown hK.1 hP 0 rfl rfl 34 (by decide) (hts (.fieldLink RX11 66 "JugglingHallModel" "landing" "[I") (by decide +kernel)) (fun _ h9 => h9) rfl dX11_landOn_87 ?_
                    refine lv_iload hx hb dX11_landOn_90 (lv_at hl 8 rfl) ?_
                    refine lv_iconst (v := 1) hx hb dX11_landOn_92 (by decide) ?_
                    refine a_isub (u := k8.toInt) (v := 1) hx hb dX11_landOn_93 (rfl) (by decide) (by omega) (fun z_21 e_21 => ?_)
                    refine a_iald (f := gb) (u := (k8.toInt - 1)) hx hb hK.1 hP 17 0 rfl rfl dX11_landOn_94 (e_21) (by omega) (fun z_22 q_22 e_22 => ?_)
                    have hok : 0 ≤ z_22.toInt ∧ z_22.toInt < 6 * (f0 a.toInt.toNat).toInt := by
                      rcases hIn with ⟨i1, i2⟩ | ⟨i1, i2, i3, i4⟩
                      · rw [q_22, show (k8.toInt - 1).toNat = 0 by omega, i2]; exact hS1.2.2 (by omega)
                      · exfalso; omega
                    refine roP (va_runV (As := [.int a, .int t, .int z_22]) (rest := []) ⟨hx, hb, hml, hown, hts⟩ (k_isCaughtAhead3 l D cI cR cM _  (by first | assumption | omega) (hr0) (by first | assumption | omega) (by first | assumption | omega)) (cwV 3 hts gX11_landOn_X11_isCaughtAhead rfl rfl rfl (by decide +kernel) ⟨Nat.le_of_ble_eq_true rfl, Nat.le_of_ble_eq_true rfl⟩) (pre_V hK hP hD 0 11 rfl rfl) rfl rfl hl.1 rfl (lv_room (Nat.le_of_ble_eq_true rfl)) dX11_landOn_95 ⟨Nat.le_of_ble_eq_true rfl, Nat.le_of_ble_eq_true rfl⟩) hS hA hP (fun r_23 H locs hw hP hS => ?_)
                    obtain ⟨h_23, hp_23⟩ : (r_23.toInt = 0 ∨ r_23.toInt = 1) ∧ ((r_23.toInt = 1 ∧ PA f0 a.toInt t.toInt z_22.toInt) ∨ (r_23.toInt = 0 ∧ ¬ PA f0 a.toInt t.toInt z_22.toInt)) := hw
                    refine a_if_eq (u := r_23.toInt) (tgt := 123) hx hb dX11_landOn_98 (by decide) (rfl) (fun c_24 => ?_) (fun c_24 => ?_)
                    · refine lv_aload_n hx hb dX11_landOn_123 rfl (lv_at hl 0 rfl) ?_
                      refine va_get (D := D) (ci := 11) (v := .ref (q 16)) (C := RX11) (T := TX11) (N := 47) hx hb hts (by decide +kernel) hown hK.1 hP 0 rfl rfl 34 (by decide) (hts (.fieldLink RX11 66 "JugglingHallModel" "landing" "[I") (by decide +kernel)) (fun _ h9 => h9) rfl dX11_landOn_124 ?_
                      refine lv_iload hx hb dX11_landOn_127 (lv_at hl 8 rfl) ?_
                      refine lv_iload hx hb dX11_landOn_129 (lv_at hl 6 rfl) ?_
                      refine ma_16 (u := k8.toInt) hx hb hK hP hD hS dX11_landOn_131 (rfl) (by omega) (fun g_25 H locs eg_25 hP hD hS => ?_)
                      obtain ⟨z_26, q_26, e_26⟩ := i_inc (a := m5.toInt) (1) (rfl) (by decide) (by omega) (by omega)
                      refine lv_iinc (v := z_26) (lv' := [(5, .int z_26), (0, .ref mm), (1, .int a), (2, .int b), (3, .int d), (4, .int z_1), (6, .int t), (7, .int r_4), (8, .int k8)]) hx hb dX11_landOn_132 hl (k := 5) rfl q_26 (by decide) rfl (fun ls hl => ?_)
                      obtain ⟨z_27, q_27, e_27⟩ := i_inc (a := t.toInt) (1) (rfl) (by decide) (by omega) (by omega)
                      refine lv_iinc (v := z_27) (lv' := [(6, .int z_27), (5, .int z_26), (0, .ref mm), (1, .int a), (2, .int b), (3, .int d), (4, .int z_1), (7, .int r_4), (8, .int k8)]) hx hb dX11_landOn_135 hl (k := 6) rfl q_27 (by decide) rfl (fun ls hl => ?_)
                      refine lv_goto (tgt := 14) hx hb dX11_landOn_138 (by decide) ?_
                      exact ih14 z_26 z_27 g_25 _ _ _ (by omega) (by first | assumption | omega) (by first | assumption | omega) (by
                        rw [show z_27.toInt = t.toInt + 1 by omega, T6_s hq6, show z_26.toInt = m5.toInt + 1 by omega]
                        rcases hIn with ⟨i1, i2⟩ | ⟨i1, i2, i3, i4⟩
                        · refine SL_b hSL hrs hGd hb0 hLn (by omega) (by rw [hu3, ← i2]; have h9 := (hp_23.resolve_left (fun q9 => by have := q9.1; omega)).2; rw [q_22, show (k8.toInt - 1).toNat = 0 by omega] at h9; exact h9) ?_ ?_
                          · rw [eg_25, i2, show k8.toInt.toNat = 1 by omega]; rfl
                          · rw [eg_25, show k8.toInt.toNat = 1 by omega, pk_us]; omega
                        · exfalso; omega) hP hD hS (lv_sub hl [2, 3, 4, 5, 6, 1, 0] rfl)
                    · refine lv_aload_n hx hb dX11_landOn_101 rfl (lv_at hl 0 rfl) ?_
                      refine va_get (D := D) (ci := 11) (v := .ref (q 16)) (C := RX11) (T := TX11) (N := 47) hx hb hts (by decide +kernel) hown hK.1 hP 0 rfl rfl 34 (by decide) (hts (.fieldLink RX11 66 "JugglingHallModel" "landing" "[I") (by decide +kernel)) (fun _ h9 => h9) rfl dX11_landOn_102 ?_
                      refine lv_iload hx hb dX11_landOn_105 (lv_at hl 8 rfl) ?_
                      refine lv_aload_n hx hb dX11_landOn_107 rfl (lv_at hl 0 rfl) ?_
                      refine va_get (D := D) (ci := 11) (v := .ref (q 16)) (C := RX11) (T := TX11) (N := 47) hx hb hts (by decide +kernel) hown hK.1 hP 0 rfl rfl 34 (by decide) (hts (.fieldLink RX11 66 "JugglingHallModel" "landing" "[I") (by decide +kernel)) (fun _ h9 => h9) rfl dX11_landOn_108 ?_
                      refine lv_iload hx hb dX11_landOn_111 (lv_at hl 8 rfl) ?_
                      refine lv_iconst (v := 1) hx hb dX11_landOn_113 (by decide) ?_
                      refine a_isub (u := k8.toInt) (v := 1) hx hb dX11_landOn_114 (rfl) (by decide) (by omega) (fun z_28 e_28 => ?_)
                      refine a_iald (f := gb) (u := (k8.toInt - 1)) hx hb hK.1 hP 17 0 rfl rfl dX11_landOn_115 (e_28) (by omega) (fun z_29 q_29 e_29 => ?_)
                      refine ma_16 (u := k8.toInt) hx hb hK hP hD hS dX11_landOn_116 (rfl) (by omega) (fun g_30 H locs eg_30 hP hD hS => ?_)
                      obtain ⟨z_31, q_31, e_31⟩ := i_inc (a := k8.toInt) (-1) (rfl) (by decide) (by omega) (by omega)
                      refine lv_iinc (v := z_31) (lv' := [(8, .int z_31), (0, .ref mm), (1, .int a), (2, .int b), (3, .int d), (4, .int z_1), (5, .int m5), (6, .int t), (7, .int r_4)]) hx hb dX11_landOn_117 hl (k := 8) rfl q_31 (by decide) rfl (fun ls hl => ?_)
                      refine lv_goto (tgt := 77) hx hb dX11_landOn_120 (by decide) ?_
                      exact ih77 z_31 g_30 _ _ _ (by omega) (by first | assumption | omega) (by
                        rcases hIn with ⟨i1, i2⟩ | ⟨i1, i2, i3, i4⟩
                        · refine Or.inr ⟨by omega, by omega, ?_, ?_⟩
                          · rw [eg_30, q_29, show k8.toInt.toNat = 1 by omega, show (k8.toInt - 1).toNat = 0 by omega, i2]
                          · have h9 := (hp_23.resolve_right (fun q9 => by have := q9.1; omega)).2; rw [q_22, show (k8.toInt - 1).toNat = 0 by omega, i2] at h9; exact h9
                        · exfalso; omega) hP hD hS (lv_sub hl [1, 2, 3, 4, 5, 6, 7, 8, 0] rfl)
              exact loop77 ((m5.toInt).toNat + 1) m5 ga _ _ _ (by omega) (by first | assumption | omega) (Or.inl ⟨by omega, rfl⟩) hP hD hS (lv_sub hl [2, 3, 4, 5, 6, 7, 8, 1, 0] rfl)
            · refine lv_goto (tgt := 135) hx hb dX11_landOn_70 (by decide) ?_
              obtain ⟨z_32, q_32, e_32⟩ := i_inc (a := t.toInt) (1) (rfl) (by decide) (by omega) (by omega)
              refine lv_iinc (v := z_32) (lv' := [(6, .int z_32), (7, .int r_4), (0, .ref mm), (1, .int a), (2, .int b), (3, .int d), (4, .int z_1), (5, .int m5)]) hx hb dX11_landOn_135 hl (k := 7) rfl q_32 (by decide) rfl (fun ls hl => ?_)
              refine lv_goto (tgt := 14) hx hb dX11_landOn_138 (by decide) ?_
              exact ih14 m5 z_32 ga _ _ _ (by omega) (by first | assumption | omega) (by first | assumption | omega) (by exfalso; omega) hP hD hS (lv_sub hl [2, 3, 4, 5, 6, 7, 0] rfl)
  have hz_33 : (0 : Int32).toInt = 0 := by decide
  have hz_34 : (0 : Int32).toInt = 0 := by decide
  exact loop14 ((6 * (f0 a.toInt.toNat).toInt - (0 : Int32).toInt).toNat + 1) (0 : Int32) (0 : Int32) f16 _ _ _ (by omega) (by first | assumption | omega) (by first | assumption | omega) (by rw [z32]; exact SL_0) hP hD hS (lv_sub hl [3, 4, 5, 6, 2, 1, 0] rfl)
