set_option maxRecDepth 100000 in
set_option maxHeartbeats 4000000 in
theorem k_comes3 (l : Launch) (D : va_G) (cI cR cM : ClassId) (sz : Nat) {jn mm : Nat} {q : Nat → Nat} {x0 x1 x2 x3 x4 x5 x6 x7 x8 x9 x10 x11 x12 x13 x14 x15 x16 x17 x18 x19 x20 : Int32} {f0 f1 f2 f3 f4 f5 f6 f7 f8 f9 f10 f11 f12 f13 f14 f15 f16 f17 f18 f19 f20 f21 f22 f23 f24 : Nat → Int32} {a b d : Int32} {hi m9 : Int} {s9 : Int → Int} (hj : 1 ≤ jn ∧ jn ≤ 3) (ha0 : 0 ≤ a.toInt ∧ 6 * a.toInt + 6 ≤ hi) (hb0 : 0 ≤ b.toInt ∧ b.toInt < (jn : Int)) (hv : CellX jn d) (hC : CellsX jn f7 0 hi) (hh2 : hi ≤ 144) (hj1 : jn = 1) (hRS : RS f7 s9 m9) (hm9 : hi = 6 * m9) (hd9 : 4 ≤ d.toInt) : Met l yX11_comes wsX11_comes ({ frames := 1, cells := 0, slots := 0, locals := 23 }) (P0 D cI cR cM [.ref mm, .int a, .int b, .int d] sz (mX mm q jn cI x0 x1 x2 x3 x4 x5 x6 x7 x8 x9 x10 x11 x12 x13 x14 x15 x16 x17 x18 x19 x20 f0 f1 f2 f3 f4 f5 f6 f7 f8 f9 f10 f11 f12 f13 f14 f15 f16 f17 f18 f19 f20 f21 f22 f23 f24)) (QG (S := Int32 × (Nat → Int32)) (fun u => some (.int u.1)) (fun u => mX mm q jn cI x0 x1 x2 x3 x4 x5 x6 x7 x8 x9 x10 x11 x12 x13 x14 x15 x16 x17 x18 x19 x20 f0 f1 f2 f3 f4 f5 f6 (u.2) f8 f9 f10 f11 f12 f13 f14 f15 f16 f17 f18 f19 f20 f21 f22 f23 f24) (fun u => (u.1.toInt = 0 ∨ u.1.toInt = 1) ∧ (CellsX jn u.2 0 hi) ∧ (∀ i : Int, 0 ≤ i → i ≠ (6 * a.toInt + 2 * b.toInt) → i ≠ (6 * a.toInt + 2 * b.toInt) + 1 → u.2 i.toNat = f7 i.toNat) ∧ (Hd ((u.1.toInt = 1 ∧ ∃ u9, insW s9 a.toInt (d.toInt / 4) = some u9 ∧ RS u.2 u9 m9) ∨ (u.1.toInt = 0 ∧ insW s9 a.toInt (d.toInt / 4) = none ∧ RS u.2 s9 m9)))) D (va_A (mX mm q jn cI x0 x1 x2 x3 x4 x5 x6 x7 x8 x9 x10 x11 x12 x13 x14 x15 x16 x17 x18 x19 x20 f0 f1 f2 f3 f4 f5 f6 f7 f8 f9 f10 f11 f12 f13 f14 f15 f16 f17 f18 f19 f20 f21 f22 f23 f24) sz)) 0 0 (va_A (mX mm q jn cI x0 x1 x2 x3 x4 x5 x6 x7 x8 x9 x10 x11 x12 x13 x14 x15 x16 x17 x18 x19 x20 f0 f1 f2 f3 f4 f5 f6 f7 f8 f9 f10 f11 f12 f13 f14 f15 f16 f17 f18 f19 f20 f21 f22 f23 f24) sz) := by
  refine go (cc := cX11_comes) (maxL := 5) (ret := (some .boolean)) (by decide) rfl (Nat.le_of_ble_eq_true rfl) ?_
  intro p e s m below meth c ls args Q hQ hsz hx hb hr hml hts hown hlocks hnm hP hK hD hl
  subst hsz
  have hD := hD.self (sz := s.heap.size)
  generalize hAe : va_A (mX mm q jn cI x0 x1 x2 x3 x4 x5 x6 x7 x8 x9 x10 x11 x12 x13 x14 x15 x16 x17 x18 x19 x20 f0 f1 f2 f3 f4 f5 f6 f7 f8 f9 f10 f11 f12 f13 f14 f15 f16 f17 f18 f19 f20 f21 f22 f23 f24) s.heap.size = A at hD hQ
  have hA : ∀ q, s.heap.size ≤ q → A q := fun q h => by rw [← hAe]; exact Or.inr h
  have hS : va_S A s.heap s.heap [] := va_S.rf
  have hl : lv_has ls 5 [(0, .ref mm), (1, .int a), (2, .int b), (3, .int d)] := hl
  have hXa : (6 * a.toInt + 2 * b.toInt) = 6 * a.toInt := by omega
  obtain ⟨hsA, hsB⟩ := RS_a hRS (b := a.toInt) (by omega) (by omega)
  rw [← hXa] at hsA hsB
  have hd4 : d.toInt % 4 = 0 := by obtain ⟨e1, e2, e3, e4⟩ := hv; omega
  obtain ⟨hcA1, hcA2, hcA3, hcA4⟩ := hC.1 (6 * a.toInt + 2 * b.toInt) (by omega) (by omega)
  obtain ⟨hcB1, hcB2, hcB3, hcB4⟩ := hC.1 ((6 * a.toInt + 2 * b.toInt) + 1) (by omega) (by omega)
  have hcZ := hC.2 (3 * a.toInt + b.toInt) (by omega) (by omega)
  rw [show 0 + 2 * (3 * a.toInt + b.toInt) = (6 * a.toInt + 2 * b.toInt) by omega] at hcZ
  refine lv_bipush (v := 6) hx hb dX11_comes_0 (by decide) ?_
  refine lv_iload_n hx hb dX11_comes_2 rfl (lv_at hl 1 rfl) ?_
  refine a_imul (u := 6) (v := a.toInt) hx hb dX11_comes_3 (by decide) (rfl) (by omega) (fun z_1 e_1 => ?_)
  refine lv_iconst (v := 2) hx hb dX11_comes_4 (by decide) ?_
  refine lv_iload_n hx hb dX11_comes_5 rfl (lv_at hl 2 rfl) ?_
  refine a_imul (u := 2) (v := b.toInt) hx hb dX11_comes_6 (by decide) (rfl) (by omega) (fun z_2 e_2 => ?_)
  refine a_iadd (u := (6 * a.toInt)) (v := (2 * b.toInt)) hx hb dX11_comes_7 (e_1) (e_2) (by omega) (fun z_3 e_3 => ?_)
  refine lv_istore (lv' := [(4, .int z_3), (0, .ref mm), (1, .int a), (2, .int b), (3, .int d)]) hx hb dX11_comes_8 hl (by decide) rfl (fun ls hl => ?_)
  refine lv_aload_n hx hb dX11_comes_10 rfl (lv_at hl 1 rfl) ?_
  refine va_get (D := D) (ci := 11) (v := .ref (q 7)) (C := RX11) (T := TX11) (N := 47) hx hb hts (by decide +kernel) hown hK.1 hP 0 rfl rfl 18 (by decide) (hts (.fieldLink RX11 39 "JugglingHallModel" "spare" "[I") (by decide +kernel)) (fun _ h9 => h9) rfl dX11_comes_11 ?_
  refine lv_iload hx hb dX11_comes_14 (lv_at hl 0 rfl) ?_
  refine a_iald (f := f7) (u := ((6 * a.toInt) + (2 * b.toInt))) hx hb hK.1 hP 8 0 rfl rfl dX11_comes_16 (e_3) (by omega) (fun z_4 q_4 e_4 => ?_)
  refine a_if_ne (u := z_4.toInt) (tgt := 31) hx hb dX11_comes_17 (by decide) (rfl) (fun c_5 => ?_) (fun c_5 => ?_)
  · refine lv_aload_n hx hb dX11_comes_31 rfl (lv_at hl 1 rfl) ?_
    refine va_get (D := D) (ci := 11) (v := .ref (q 7)) (C := RX11) (T := TX11) (N := 47) hx hb hts (by decide +kernel) hown hK.1 hP 0 rfl rfl 18 (by decide) (hts (.fieldLink RX11 39 "JugglingHallModel" "spare" "[I") (by decide +kernel)) (fun _ h9 => h9) rfl dX11_comes_32 ?_
    refine lv_iload hx hb dX11_comes_35 (lv_at hl 0 rfl) ?_
    refine lv_iconst (v := 1) hx hb dX11_comes_37 (by decide) ?_
    refine a_iadd (u := ((6 * a.toInt) + (2 * b.toInt))) (v := 1) hx hb dX11_comes_38 (e_3) (by decide) (by omega) (fun z_6 e_6 => ?_)
    refine a_iald (f := f7) (u := (((6 * a.toInt) + (2 * b.toInt)) + 1)) hx hb hK.1 hP 8 0 rfl rfl dX11_comes_39 (e_6) (by omega) (fun z_7 q_7 e_7 => ?_)
    refine a_if_ne (u := z_7.toInt) (tgt := 56) hx hb dX11_comes_40 (by decide) (rfl) (fun c_8 => ?_) (fun c_8 => ?_)
    · refine lv_iconst (v := 0) hx hb dX11_comes_56 (by decide) ?_
      have hz_9 : (0 : Int32).toInt = 0 := by decide
      exact g_zret ((0 : Int32), f7) hx hb hr hlocks hS (by first | exact Or.inl rfl | exact Or.inr rfl) rfl (⟨show (0 : Int32).toInt = 0 ∨ (0 : Int32).toInt = 1 from (by first | assumption | omega), show CellsX jn f7 0 hi from (hC), show ∀ i : Int, 0 ≤ i → i ≠ (6 * a.toInt + 2 * b.toInt) → i ≠ (6 * a.toInt + 2 * b.toInt) + 1 → f7 i.toNat = f7 i.toNat from (fun _ _ _ _ => rfl), show Hd (((0 : Int32).toInt = 1 ∧ ∃ u9, insW s9 a.toInt (d.toInt / 4) = some u9 ∧ RS f7 u9 m9) ∨ ((0 : Int32).toInt = 0 ∧ insW s9 a.toInt (d.toInt / 4) = none ∧ RS f7 s9 m9)) from (Or.inr ⟨by omega, by unfold insW; rw [if_neg (by omega), if_pos (by omega)], hRS⟩)⟩) hP hD hQ (Nat.le_of_ble_eq_true rfl) (Nat.le_of_ble_eq_true rfl) dX11_comes_57
    · refine lv_aload_n hx hb dX11_comes_43 rfl (lv_at hl 1 rfl) ?_
      refine va_get (D := D) (ci := 11) (v := .ref (q 7)) (C := RX11) (T := TX11) (N := 47) hx hb hts (by decide +kernel) hown hK.1 hP 0 rfl rfl 18 (by decide) (hts (.fieldLink RX11 39 "JugglingHallModel" "spare" "[I") (by decide +kernel)) (fun _ h9 => h9) rfl dX11_comes_44 ?_
      refine lv_iload hx hb dX11_comes_47 (lv_at hl 0 rfl) ?_
      refine lv_iconst (v := 1) hx hb dX11_comes_49 (by decide) ?_
      refine a_iadd (u := ((6 * a.toInt) + (2 * b.toInt))) (v := 1) hx hb dX11_comes_50 (e_3) (by decide) (by omega) (fun z_10 e_10 => ?_)
      refine lv_iload_n hx hb dX11_comes_51 rfl (lv_at hl 4 rfl) ?_
      refine ma_7 (u := (((6 * a.toInt) + (2 * b.toInt)) + 1)) hx hb hK hP hD hS dX11_comes_52 (e_10) (by omega) (fun g_11 H locs eg_11 hP hD hS => ?_)
      have hX : (6 * a.toInt + 2 * b.toInt) + 1 = (((6 * a.toInt) + (2 * b.toInt)) + 1) := by omega
      have hB0 : g_11 (6 * a.toInt + 2 * b.toInt).toNat = f7 (6 * a.toInt + 2 * b.toInt).toNat := by rw [eg_11, un_i (by omega) (by omega) (by omega)]
      have hB1 : g_11 ((6 * a.toInt + 2 * b.toInt) + 1).toNat = d := by rw [eg_11, ← hX, pk_us]
      have hBu : ∀ i : Int, 0 ≤ i → i ≠ (6 * a.toInt + 2 * b.toInt) → i ≠ (6 * a.toInt + 2 * b.toInt) + 1 → g_11 i.toNat = f7 i.toNat := fun i i0 i1 i2 => by rw [eg_11, un_i i0 (by omega) (by omega)]
      have hc0 : CellX jn (g_11 (6 * a.toInt + 2 * b.toInt).toNat) := by rw [hB0]; exact hC.1 _ (by omega) (by omega)
      have hc1 : CellX jn (g_11 ((6 * a.toInt + 2 * b.toInt) + 1).toNat) := by rw [hB1]; exact hv
      refine lv_goto (tgt := 58) hx hb dX11_comes_53 (by decide) ?_
      refine lv_aload_n hx hb dX11_comes_58 rfl (lv_at hl 1 rfl) ?_
      refine va_get (D := D) (ci := 11) (v := .ref (q 7)) (C := RX11) (T := TX11) (N := 47) hx hb hts (by decide +kernel) hown hK.1 hP 0 rfl rfl 18 (by decide) (hts (.fieldLink RX11 39 "JugglingHallModel" "spare" "[I") (by decide +kernel)) (fun _ h9 => h9) rfl dX11_comes_59 ?_
      refine lv_iload hx hb dX11_comes_62 (lv_at hl 0 rfl) ?_
      have hxe0 : z_3.toInt = (6 * a.toInt + 2 * b.toInt) := by omega
      have hPc := hP.sub (ws' := [(q 7, .inl (cI, 144, .inl g_11))]) [8] (by with_unfolding_all rfl)
      have hDc := hD.sub (ws' := [(q 7, .inl (cI, 144, .inl g_11))]) [8] (by decide) (by with_unfolding_all rfl)
      refine call_g (wr := [(mm, .inr (11, mXF q jn x0 x1 x2 x3 x4 x5 x6 x7 x8 x9 x10 x11 x12 x13 x14 x15 x16 x17 x18 x19 x20)), (q 0, .inl (cI, 73200, .inl f0)), (q 1, .inl (cI, 488, .inl f1)), (q 2, .inl (cI, 300, .inl f2)), (q 3, .inl (cI, 2400, .inl f3)), (q 4, .inl (cI, 6, .inl f4)), (q 5, .inl (cI, 6, .inl f5)), (q 6, .inl (cI, 7, .inl f6)), (q 8, .inl (cI, 8, .inl f8)), (q 9, .inl (cI, 1152, .inl f9)), (q 10, .inl (cI, 8, .inl f10)), (q 11, .inl (cI, 8, .inl f11)), (q 12, .inl (cI, 72, .inl f12)), (q 13, .inl (cI, 144, .inl f13)), (q 14, .inl (cI, 144, .inl f14)), (q 15, .inl (cI, 144, .inl f15)), (q 16, .inl (cI, 6, .inl f16)), (q 17, .inl (cI, 512, .inl f17)), (q 18, .inl (cI, 512, .inl f18)), (q 19, .inl (cI, 11, .inl f19)), (q 20, .inl (cI, 11, .inl f20)), (q 21, .inl (cI, 300, .inl f21)), (q 22, .inl (cI, 300, .inl f22)), (q 23, .inl (cI, 8, .inl f23)), (q 24, .inl (cI, 8, .inl f24))]) (va_runS (As := [.ref (q 7), .int z_3]) (rest := []) ⟨hx, hb, hml, hown, hts⟩ (k_order2 l D cI cR cM _  (by first | assumption | omega) (by rw [hxe0]; exact ⟨hc0.1, hc0.2.2.2⟩) (by rw [hxe0]; exact ⟨hc1.1, hc1.2.2.2⟩) (by decide)) (va_cwS 2 hts gX11_comes_X11_order rfl rfl rfl (by decide +kernel) ⟨Nat.le_of_ble_eq_true rfl, Nat.le_of_ble_eq_true rfl⟩) (pre_S hK hPc hDc) rfl rfl hl.1 rfl (lv_room (Nat.le_of_ble_eq_true rfl)) dX11_comes_64 ⟨Nat.le_of_ble_eq_true rfl, Nat.le_of_ble_eq_true rfl⟩) hP hD hS hA [8] [0, 1, 2, 3, 4, 5, 6, 7, 9, 10, 11, 12, 13, 14, 15, 16, 17, 18, 19, 20, 21, 22, 23, 24, 25] (by with_unfolding_all rfl) (by with_unfolding_all rfl) (by decide) (by decide) (fun g_12 H locs hw hP hD hS => ?_)
      have hP : va_P D vwCl (mX mm q jn cI x0 x1 x2 x3 x4 x5 x6 x7 x8 x9 x10 x11 x12 x13 x14 x15 x16 x17 x18 x19 x20 f0 f1 f2 f3 f4 f5 f6 g_12 f8 f9 f10 f11 f12 f13 f14 f15 f16 f17 f18 f19 f20 f21 f22 f23 f24) H := hP.sub [0, 1, 2, 3, 4, 5, 6, 7, 25, 8, 9, 10, 11, 12, 13, 14, 15, 16, 17, 18, 19, 20, 21, 22, 23, 24] (by with_unfolding_all rfl)
      have hD : va_D A (mX mm q jn cI x0 x1 x2 x3 x4 x5 x6 x7 x8 x9 x10 x11 x12 x13 x14 x15 x16 x17 x18 x19 x20 f0 f1 f2 f3 f4 f5 f6 g_12 f8 f9 f10 f11 f12 f13 f14 f15 f16 f17 f18 f19 f20 f21 f22 f23 f24) := hD.sub [0, 1, 2, 3, 4, 5, 6, 7, 25, 8, 9, 10, 11, 12, 13, 14, 15, 16, 17, 18, 19, 20, 21, 22, 23, 24] (by decide) (by with_unfolding_all rfl)
      obtain ⟨hu_12, hs_12, hz_12, hw_12⟩ : (∀ i : Int, 0 ≤ i → i ≠ z_3.toInt → i ≠ z_3.toInt + 1 → g_12 i.toNat = g_11 i.toNat) ∧ ((g_12 z_3.toInt.toNat = g_11 z_3.toInt.toNat ∧ g_12 (z_3.toInt + 1).toNat = g_11 (z_3.toInt + 1).toNat) ∨ (g_12 z_3.toInt.toNat = g_11 (z_3.toInt + 1).toNat ∧ g_12 (z_3.toInt + 1).toNat = g_11 z_3.toInt.toNat)) ∧ ((g_12 z_3.toInt.toNat).toInt = 0 → (g_12 (z_3.toInt + 1).toNat).toInt = 0) ∧ ((¬ ((g_11 (z_3.toInt + 1).toNat).toInt / 4 > (g_11 z_3.toInt.toNat).toInt / 4 ∨ ((g_11 (z_3.toInt + 1).toNat).toInt / 4 = (g_11 z_3.toInt.toNat).toInt / 4 ∧ (g_11 (z_3.toInt + 1).toNat).toInt % 4 < (g_11 z_3.toInt.toNat).toInt % 4)) ∧ g_12 z_3.toInt.toNat = g_11 z_3.toInt.toNat ∧ g_12 (z_3.toInt + 1).toNat = g_11 (z_3.toInt + 1).toNat) ∨ (((g_11 (z_3.toInt + 1).toNat).toInt / 4 > (g_11 z_3.toInt.toNat).toInt / 4 ∨ ((g_11 (z_3.toInt + 1).toNat).toInt / 4 = (g_11 z_3.toInt.toNat).toInt / 4 ∧ (g_11 (z_3.toInt + 1).toNat).toInt % 4 < (g_11 z_3.toInt.toNat).toInt % 4)) ∧ g_12 z_3.toInt.toNat = g_11 (z_3.toInt + 1).toNat ∧ g_12 (z_3.toInt + 1).toNat = g_11 z_3.toInt.toNat)) := hw
      rw [hxe0] at hu_12 hs_12 hz_12
      have hp1 : CellX jn (g_12 (6 * a.toInt + 2 * b.toInt).toNat) := by
        rcases hs_12 with q | q
        · rw [q.1]; exact hc0
        · rw [q.1]; exact hc1
      have hp2 : CellX jn (g_12 ((6 * a.toInt + 2 * b.toInt) + 1).toNat) := by
        rcases hs_12 with q | q
        · rw [q.2]; exact hc1
        · rw [q.2]; exact hc0
      have hCC : CellsX jn g_12 0 hi := cx_set2 (k := 3 * a.toInt + b.toInt) hC (by omega) (by omega) (fun i i0 i1 i2 => by rw [hu_12 i i0 i1 i2]; exact hBu i i0 i1 i2) hp1 hp2 hz_12
      rw [hxe0] at hw_12
      refine lv_iconst (v := 1) hx hb dX11_comes_67 (by decide) ?_
      have hz_13 : (1 : Int32).toInt = 1 := by decide
      exact g_zret ((1 : Int32), g_12) hx hb hr hlocks hS (by first | exact Or.inl rfl | exact Or.inr rfl) rfl (⟨show (1 : Int32).toInt = 0 ∨ (1 : Int32).toInt = 1 from (by first | assumption | omega), show CellsX jn g_12 0 hi from (hCC), show ∀ i : Int, 0 ≤ i → i ≠ (6 * a.toInt + 2 * b.toInt) → i ≠ (6 * a.toInt + 2 * b.toInt) + 1 → g_12 i.toNat = f7 i.toNat from (fun i i0 i1 i2 => by rw [hu_12 i i0 i1 i2]; exact hBu i i0 i1 i2), show Hd (((1 : Int32).toInt = 1 ∧ ∃ u9, insW s9 a.toInt (d.toInt / 4) = some u9 ∧ RS g_12 u9 m9) ∨ ((1 : Int32).toInt = 0 ∧ insW s9 a.toInt (d.toInt / 4) = none ∧ RS g_12 s9 m9)) from (Or.inl ⟨by omega, by
        rw [hB0, hB1] at hw_12
        rcases hw_12 with ⟨t1, t2, t3⟩ | ⟨t1, t2, t3⟩
        · refine ⟨_, by unfold insW; rw [if_neg (by omega), if_neg (by omega), if_neg (by omega)], ?_⟩
          have e2 := RS_b (G := g_12) hRS (b := a.toInt) (x := s9 (2 * a.toInt)) (y := d.toInt / 4) (by omega) (fun i9 h7 h8 h9 => by rw [hu_12 i9 h7 (by omega) (by omega)]; exact hBu i9 h7 (by omega) (by omega)) (by rw [← hXa, t2]; omega) (by rw [← hXa, t3]; omega)
          rw [fupd_id (show fupd s9 (2 * a.toInt + 1) (d.toInt / 4) (2 * a.toInt) = s9 (2 * a.toInt) from fu_n (by omega))] at e2
          exact e2
        · refine ⟨_, by unfold insW; rw [if_neg (by omega), if_neg (by omega), if_pos (by omega)], ?_⟩
          exact RS_b hRS (by omega) (fun i9 h7 h8 h9 => by rw [hu_12 i9 h7 (by omega) (by omega)]; exact hBu i9 h7 (by omega) (by omega)) (by rw [← hXa, t2]; omega) (by rw [← hXa, t3]; omega)⟩)⟩) hP hD hQ (Nat.le_of_ble_eq_true rfl) (Nat.le_of_ble_eq_true rfl) dX11_comes_68
  · refine lv_aload_n hx hb dX11_comes_20 rfl (lv_at hl 1 rfl) ?_
    refine va_get (D := D) (ci := 11) (v := .ref (q 7)) (C := RX11) (T := TX11) (N := 47) hx hb hts (by decide +kernel) hown hK.1 hP 0 rfl rfl 18 (by decide) (hts (.fieldLink RX11 39 "JugglingHallModel" "spare" "[I") (by decide +kernel)) (fun _ h9 => h9) rfl dX11_comes_21 ?_
    refine lv_iload hx hb dX11_comes_24 (lv_at hl 0 rfl) ?_
    refine lv_iload_n hx hb dX11_comes_26 rfl (lv_at hl 4 rfl) ?_
    refine ma_7 (u := ((6 * a.toInt) + (2 * b.toInt))) hx hb hK hP hD hS dX11_comes_27 (e_3) (by omega) (fun g_14 H locs eg_14 hP hD hS => ?_)
    have hX : (6 * a.toInt + 2 * b.toInt) = ((6 * a.toInt) + (2 * b.toInt)) := by omega
    have hz9 : (f7 (6 * a.toInt + 2 * b.toInt).toNat).toInt = 0 := by rw [hX]; omega
    have hB0 : g_14 (6 * a.toInt + 2 * b.toInt).toNat = d := by rw [eg_14, ← hX, pk_us]
    have hB1 : g_14 ((6 * a.toInt + 2 * b.toInt) + 1).toNat = f7 ((6 * a.toInt + 2 * b.toInt) + 1).toNat := by rw [eg_14, un_i (by omega) (by omega) (by omega)]
    have hBu : ∀ i : Int, 0 ≤ i → i ≠ (6 * a.toInt + 2 * b.toInt) → i ≠ (6 * a.toInt + 2 * b.toInt) + 1 → g_14 i.toNat = f7 i.toNat := fun i i0 i1 i2 => by rw [eg_14, un_i i0 (by omega) (by omega)]
    have hc0 : CellX jn (g_14 (6 * a.toInt + 2 * b.toInt).toNat) := by rw [hB0]; exact hv
    have hc1 : CellX jn (g_14 ((6 * a.toInt + 2 * b.toInt) + 1).toNat) := by rw [hB1]; exact hC.1 _ (by omega) (by omega)
    refine lv_goto (tgt := 58) hx hb dX11_comes_28 (by decide) ?_
    refine lv_aload_n hx hb dX11_comes_58 rfl (lv_at hl 1 rfl) ?_
    refine va_get (D := D) (ci := 11) (v := .ref (q 7)) (C := RX11) (T := TX11) (N := 47) hx hb hts (by decide +kernel) hown hK.1 hP 0 rfl rfl 18 (by decide) (hts (.fieldLink RX11 39 "JugglingHallModel" "spare" "[I") (by decide +kernel)) (fun _ h9 => h9) rfl dX11_comes_59 ?_
    refine lv_iload hx hb dX11_comes_62 (lv_at hl 0 rfl) ?_
    have hxe0 : z_3.toInt = (6 * a.toInt + 2 * b.toInt) := by omega
    have hPc := hP.sub (ws' := [(q 7, .inl (cI, 144, .inl g_14))]) [8] (by with_unfolding_all rfl)
    have hDc := hD.sub (ws' := [(q 7, .inl (cI, 144, .inl g_14))]) [8] (by decide) (by with_unfolding_all rfl)
    refine call_g (wr := [(mm, .inr (11, mXF q jn x0 x1 x2 x3 x4 x5 x6 x7 x8 x9 x10 x11 x12 x13 x14 x15 x16 x17 x18 x19 x20)), (q 0, .inl (cI, 73200, .inl f0)), (q 1, .inl (cI, 488, .inl f1)), (q 2, .inl (cI, 300, .inl f2)), (q 3, .inl (cI, 2400, .inl f3)), (q 4, .inl (cI, 6, .inl f4)), (q 5, .inl (cI, 6, .inl f5)), (q 6, .inl (cI, 7, .inl f6)), (q 8, .inl (cI, 8, .inl f8)), (q 9, .inl (cI, 1152, .inl f9)), (q 10, .inl (cI, 8, .inl f10)), (q 11, .inl (cI, 8, .inl f11)), (q 12, .inl (cI, 72, .inl f12)), (q 13, .inl (cI, 144, .inl f13)), (q 14, .inl (cI, 144, .inl f14)), (q 15, .inl (cI, 144, .inl f15)), (q 16, .inl (cI, 6, .inl f16)), (q 17, .inl (cI, 512, .inl f17)), (q 18, .inl (cI, 512, .inl f18)), (q 19, .inl (cI, 11, .inl f19)), (q 20, .inl (cI, 11, .inl f20)), (q 21, .inl (cI, 300, .inl f21)), (q 22, .inl (cI, 300, .inl f22)), (q 23, .inl (cI, 8, .inl f23)), (q 24, .inl (cI, 8, .inl f24))]) (va_runS (As := [.ref (q 7), .int z_3]) (rest := []) ⟨hx, hb, hml, hown, hts⟩ (k_order2 l D cI cR cM _  (by first | assumption | omega) (by rw [hxe0]; exact ⟨hc0.1, hc0.2.2.2⟩) (by rw [hxe0]; exact ⟨hc1.1, hc1.2.2.2⟩) (by decide)) (va_cwS 2 hts gX11_comes_X11_order rfl rfl rfl (by decide +kernel) ⟨Nat.le_of_ble_eq_true rfl, Nat.le_of_ble_eq_true rfl⟩) (pre_S hK hPc hDc) rfl rfl hl.1 rfl (lv_room (Nat.le_of_ble_eq_true rfl)) dX11_comes_64 ⟨Nat.le_of_ble_eq_true rfl, Nat.le_of_ble_eq_true rfl⟩) hP hD hS hA [8] [0, 1, 2, 3, 4, 5, 6, 7, 9, 10, 11, 12, 13, 14, 15, 16, 17, 18, 19, 20, 21, 22, 23, 24, 25] (by with_unfolding_all rfl) (by with_unfolding_all rfl) (by decide) (by decide) (fun g_15 H locs hw hP hD hS => ?_)
    have hP : va_P D vwCl (mX mm q jn cI x0 x1 x2 x3 x4 x5 x6 x7 x8 x9 x10 x11 x12 x13 x14 x15 x16 x17 x18 x19 x20 f0 f1 f2 f3 f4 f5 f6 g_15 f8 f9 f10 f11 f12 f13 f14 f15 f16 f17 f18 f19 f20 f21 f22 f23 f24) H := hP.sub [0, 1, 2, 3, 4, 5, 6, 7, 25, 8, 9, 10, 11, 12, 13, 14, 15, 16, 17, 18, 19, 20, 21, 22, 23, 24] (by with_unfolding_all rfl)
    have hD : va_D A (mX mm q jn cI x0 x1 x2 x3 x4 x5 x6 x7 x8 x9 x10 x11 x12 x13 x14 x15 x16 x17 x18 x19 x20 f0 f1 f2 f3 f4 f5 f6 g_15 f8 f9 f10 f11 f12 f13 f14 f15 f16 f17 f18 f19 f20 f21 f22 f23 f24) := hD.sub [0, 1, 2, 3, 4, 5, 6, 7, 25, 8, 9, 10, 11, 12, 13, 14, 15, 16, 17, 18, 19, 20, 21, 22, 23, 24] (by decide) (by with_unfolding_all rfl)
    obtain ⟨hu_15, hs_15, hz_15, hw_15⟩ : (∀ i : Int, 0 ≤ i → i ≠ z_3.toInt → i ≠ z_3.toInt + 1 → g_15 i.toNat = g_14 i.toNat) ∧ ((g_15 z_3.toInt.toNat = g_14 z_3.toInt.toNat ∧ g_15 (z_3.toInt + 1).toNat = g_14 (z_3.toInt + 1).toNat) ∨ (g_15 z_3.toInt.toNat = g_14 (z_3.toInt + 1).toNat ∧ g_15 (z_3.toInt + 1).toNat = g_14 z_3.toInt.toNat)) ∧ ((g_15 z_3.toInt.toNat).toInt = 0 → (g_15 (z_3.toInt + 1).toNat).toInt = 0) ∧ ((¬ ((g_14 (z_3.toInt + 1).toNat).toInt / 4 > (g_14 z_3.toInt.toNat).toInt / 4 ∨ ((g_14 (z_3.toInt + 1).toNat).toInt / 4 = (g_14 z_3.toInt.toNat).toInt / 4 ∧ (g_14 (z_3.toInt + 1).toNat).toInt % 4 < (g_14 z_3.toInt.toNat).toInt % 4)) ∧ g_15 z_3.toInt.toNat = g_14 z_3.toInt.toNat ∧ g_15 (z_3.toInt + 1).toNat = g_14 (z_3.toInt + 1).toNat) ∨ (((g_14 (z_3.toInt + 1).toNat).toInt / 4 > (g_14 z_3.toInt.toNat).toInt / 4 ∨ ((g_14 (z_3.toInt + 1).toNat).toInt / 4 = (g_14 z_3.toInt.toNat).toInt / 4 ∧ (g_14 (z_3.toInt + 1).toNat).toInt % 4 < (g_14 z_3.toInt.toNat).toInt % 4)) ∧ g_15 z_3.toInt.toNat = g_14 (z_3.toInt + 1).toNat ∧ g_15 (z_3.toInt + 1).toNat = g_14 z_3.toInt.toNat)) := hw
    rw [hxe0] at hu_15 hs_15 hz_15
    have hp1 : CellX jn (g_15 (6 * a.toInt + 2 * b.toInt).toNat) := by
      rcases hs_15 with q | q
      · rw [q.1]; exact hc0
      · rw [q.1]; exact hc1
    have hp2 : CellX jn (g_15 ((6 * a.toInt + 2 * b.toInt) + 1).toNat) := by
      rcases hs_15 with q | q
      · rw [q.2]; exact hc1
      · rw [q.2]; exact hc0
    have hCC : CellsX jn g_15 0 hi := cx_set2 (k := 3 * a.toInt + b.toInt) hC (by omega) (by omega) (fun i i0 i1 i2 => by rw [hu_15 i i0 i1 i2]; exact hBu i i0 i1 i2) hp1 hp2 hz_15
    rw [hxe0] at hw_15
    refine lv_iconst (v := 1) hx hb dX11_comes_67 (by decide) ?_
    have hz_16 : (1 : Int32).toInt = 1 := by decide
    exact g_zret ((1 : Int32), g_15) hx hb hr hlocks hS (by first | exact Or.inl rfl | exact Or.inr rfl) rfl (⟨show (1 : Int32).toInt = 0 ∨ (1 : Int32).toInt = 1 from (by first | assumption | omega), show CellsX jn g_15 0 hi from (hCC), show ∀ i : Int, 0 ≤ i → i ≠ (6 * a.toInt + 2 * b.toInt) → i ≠ (6 * a.toInt + 2 * b.toInt) + 1 → g_15 i.toNat = f7 i.toNat from (fun i i0 i1 i2 => by rw [hu_15 i i0 i1 i2]; exact hBu i i0 i1 i2), show Hd (((1 : Int32).toInt = 1 ∧ ∃ u9, insW s9 a.toInt (d.toInt / 4) = some u9 ∧ RS g_15 u9 m9) ∨ ((1 : Int32).toInt = 0 ∧ insW s9 a.toInt (d.toInt / 4) = none ∧ RS g_15 s9 m9)) from (Or.inl ⟨by omega, _, by unfold insW; rw [if_neg (by omega), if_neg (by omega), if_pos (by omega)], by
      have e1 := hcZ (by omega)
      rw [hB0, hB1] at hw_15
      rcases hw_15 with ⟨t1, t2, t3⟩ | ⟨t1, t2, t3⟩
      · exact RS_b hRS (by omega) (fun i9 h7 h8 h9 => by rw [hu_15 i9 h7 (by omega) (by omega)]; exact hBu i9 h7 (by omega) (by omega)) (by rw [← hXa, t2]; omega) (by rw [← hXa, t3]; omega)
      · omega⟩)⟩) hP hD hQ (Nat.le_of_ble_eq_true rfl) (Nat.le_of_ble_eq_true rfl) dX11_comes_68
set_option maxRecDepth 100000 in
set_option maxHeartbeats 4000000 in
theorem k_turns_7 (l : Launch) (D : va_G) (cI cR cM : ClassId) (sz : Nat) {jn mm : Nat} {q : Nat → Nat} {x0 x1 x2 x3 x4 x5 x6 x7 x8 x9 x10 x11 x12 x13 x14 x15 x16 x17 x18 x19 x20 : Int32} {f0 f1 f2 f3 f4 f5 f6 f7 f8 f9 f10 f11 f12 f13 f14 f15 f16 f17 f18 f19 f20 f21 f22 f23 f24 : Nat → Int32} {what dd fro nn : Int32} {w9 : Int → Int} (hj : 1 ≤ jn ∧ jn ≤ 3) (hw : 7 ≤ what.toInt ∧ what.toInt ≤ 10) (hd : 0 ≤ dd.toInt ∧ dd.toInt ≤ 9) (hf : 0 ≤ fro.toInt ∧ 0 ≤ nn.toInt ∧ nn.toInt ≤ 24 ∧ fro.toInt + nn.toInt ≤ 150) (hC : CellsX jn f3 0 (6 * (fro.toInt + nn.toInt))) (hZ0 : ZX jn f3 0 (fro.toInt + nn.toInt)) (hw9 : what.toInt = 7) (hj1 : jn = 1) (hRW : RS f3 w9 (fro.toInt + nn.toInt)) (hnn : 0 < nn.toInt) : Met l yX11_turns wsX11_turns ({ frames := 2, cells := 0, slots := 0, locals := 47 }) (P0 D cI cR cM [.ref mm, .int what, .int dd, .int fro, .int nn] sz (mX mm q jn cI x0 x1 x2 x3 x4 x5 x6 x7 x8 x9 x10 x11 x12 x13 x14 x15 x16 x17 x18 x19 x20 f0 f1 f2 f3 f4 f5 f6 f7 f8 f9 f10 f11 f12 f13 f14 f15 f16 f17 f18 f19 f20 f21 f22 f23 f24)) (QG (S := Int32 × (Nat → Int32) × (Nat → Int32)) (fun u => some (.int u.1)) (fun u => mX mm q jn cI x0 x1 x2 x3 x4 x5 x6 x7 x8 x9 x10 x11 x12 x13 x14 x15 x16 x17 x18 x19 x20 f0 f1 f2 (u.2.1) f4 f5 f6 (u.2.2) f8 f9 f10 f11 f12 f13 f14 f15 f16 f17 f18 f19 f20 f21 f22 f23 f24) (fun u => (u.1.toInt = 0 ∨ u.1.toInt = 1) ∧ (CellsX jn u.2.1 0 (6 * (fro.toInt + nn.toInt))) ∧ (ZX jn u.2.1 0 (fro.toInt + nn.toInt)) ∧ (Hd ((u.1.toInt = 1 ∧ ∃ v9, ChW what.toInt dd.toInt w9 fro.toInt nn.toInt v9 ∧ RS u.2.1 v9 (fro.toInt + nn.toInt)) ∨ (u.1.toInt = 0 ∧ ChF what.toInt w9 fro.toInt nn.toInt)))) D (va_A (mX mm q jn cI x0 x1 x2 x3 x4 x5 x6 x7 x8 x9 x10 x11 x12 x13 x14 x15 x16 x17 x18 x19 x20 f0 f1 f2 f3 f4 f5 f6 f7 f8 f9 f10 f11 f12 f13 f14 f15 f16 f17 f18 f19 f20 f21 f22 f23 f24) sz)) 0 0 (va_A (mX mm q jn cI x0 x1 x2 x3 x4 x5 x6 x7 x8 x9 x10 x11 x12 x13 x14 x15 x16 x17 x18 x19 x20 f0 f1 f2 f3 f4 f5 f6 f7 f8 f9 f10 f11 f12 f13 f14 f15 f16 f17 f18 f19 f20 f21 f22 f23 f24) sz) := by
  refine go (cc := cX11_turns) (maxL := 13) (ret := (some .boolean)) (by decide) rfl (Nat.le_of_ble_eq_true rfl) ?_
  intro p e s m below meth c ls args Q hQ hsz hx hb hr hml hts hown hlocks hnm hP hK hD hl
  subst hsz
  have hD := hD.self (sz := s.heap.size)
  generalize hAe : va_A (mX mm q jn cI x0 x1 x2 x3 x4 x5 x6 x7 x8 x9 x10 x11 x12 x13 x14 x15 x16 x17 x18 x19 x20 f0 f1 f2 f3 f4 f5 f6 f7 f8 f9 f10 f11 f12 f13 f14 f15 f16 f17 f18 f19 f20 f21 f22 f23 f24) s.heap.size = A at hD hQ
  have hA : ∀ q, s.heap.size ≤ q → A q := fun q h => by rw [← hAe]; exact Or.inr h
  have hS : va_S A s.heap s.heap [] := va_S.rf
  have hl : lv_has ls 13 [(0, .ref mm), (1, .int what), (2, .int dd), (3, .int fro), (4, .int nn)] := hl
  refine lv_iconst (v := 0) hx hb dX11_turns_0 (by decide) ?_
  refine lv_istore (lv' := [(5, .int 0), (0, .ref mm), (1, .int what), (2, .int dd), (3, .int fro), (4, .int nn)]) hx hb dX11_turns_1 hl (by decide) rfl (fun ls hl => ?_)
  have loop3 : ∀ (ddloop3 : Nat) (k : Int32) (ga : (Nat → Int32)) (H : Heap) (locs : List Loc) (ls : Array Slot), (6 * nn.toInt - k.toInt).toNat < ddloop3 → (0 ≤ k.toInt ∧ k.toInt ≤ 6 * nn.toInt) → (∀ i9 : Int, 0 ≤ i9 → i9 < k.toInt → (ga i9.toNat).toInt = 0) → va_P D vwCl (mX mm q jn cI x0 x1 x2 x3 x4 x5 x6 x7 x8 x9 x10 x11 x12 x13 x14 x15 x16 x17 x18 x19 x20 f0 f1 f2 f3 f4 f5 f6 ga f8 f9 f10 f11 f12 f13 f14 f15 f16 f17 f18 f19 f20 f21 f22 f23 f24) H → va_D A (mX mm q jn cI x0 x1 x2 x3 x4 x5 x6 x7 x8 x9 x10 x11 x12 x13 x14 x15 x16 x17 x18 x19 x20 f0 f1 f2 f3 f4 f5 f6 ga f8 f9 f10 f11 f12 f13 f14 f15 f16 f17 f18 f19 f20 f21 f22 f23 f24) → va_S A s.heap H locs → lv_has ls 13 [(0, .ref mm), (1, .int what), (2, .int dd), (3, .int fro), (4, .int nn), (5, .int k)] → W p l e ({ frames := 2, cells := 0, slots := 0, locals := 47 }) s m args below meth c H locs 0 0 Q (F0 m 3 ls []) := by
    intro ddloop3
    induction ddloop3 with
    | zero =>
      intro k ga H locs ls hdd
      exact absurd hdd (Nat.not_lt_zero _)
    | succ ddloop3 ih3 =>
      intro k ga H locs ls hdd hk hz0 hP hD hS hl
      refine lv_iload hx hb dX11_turns_3 (lv_at hl 5 rfl) ?_
      refine lv_bipush (v := 6) hx hb dX11_turns_5 (by decide) ?_
      refine lv_iload hx hb dX11_turns_7 (lv_at hl 4 rfl) ?_
      refine a_imul (u := 6) (v := nn.toInt) hx hb dX11_turns_9 (by decide) (rfl) (by omega) (fun z_1 e_1 => ?_)
      refine a_icmp_ge (u := k.toInt) (v := (6 * nn.toInt)) (tgt := 27) hx hb dX11_turns_10 (by decide) (rfl) (e_1) (fun c_2 => ?_) (fun c_2 => ?_)
      · have hSa : CellsX jn ga 0 (6 * nn.toInt) := ⟨fun i9 h8 h9 => cx_0 (by omega) (hz0 i9 h8 (by omega)), fun k9 h8 h9 _ => hz0 _ (by omega) (by omega)⟩
        have hZa : ZX jn ga 0 nn.toInt := fun b9 x9 b0 b1 x0 x1 => hz0 _ (by omega) (by omega)
        have hOa : what.toInt = 9 → ∀ k9 : Int, 0 ≤ k9 → 2 * k9 + 1 < 6 * nn.toInt → (ga (2 * k9 + 1).toNat).toInt = 0 := fun _ k9 h8 h9 => hz0 _ (by omega) (by omega)
        refine lv_iconst (v := 1) hx hb dX11_turns_27 (by decide) ?_
        refine lv_istore (lv' := [(5, .int 1), (0, .ref mm), (1, .int what), (2, .int dd), (3, .int fro), (4, .int nn)]) hx hb dX11_turns_28 hl (by decide) rfl (fun ls hl => ?_)
        refine lv_iconst (v := 0) hx hb dX11_turns_30 (by decide) ?_
        refine lv_istore (lv' := [(6, .int 0), (5, .int 1), (0, .ref mm), (1, .int what), (2, .int dd), (3, .int fro), (4, .int nn)]) hx hb dX11_turns_31 hl (by decide) rfl (fun ls hl => ?_)
        have loop33 : ∀ (ddloop33 : Nat) (gd : Int32) (i : Int32) (gb : (Nat → Int32)) (H : Heap) (locs : List Loc) (ls : Array Slot), (nn.toInt - i.toInt).toNat < ddloop33 → (gd.toInt = 0 ∨ gd.toInt = 1) → (0 ≤ i.toInt ∧ i.toInt ≤ nn.toInt) → (CellsX jn gb 0 (6 * nn.toInt)) → (ZX jn gb 0 nn.toInt) → (what.toInt = 9 → ∀ k9 : Int, 0 ≤ k9 → 2 * k9 + 1 < 6 * nn.toInt → (gb (2 * k9 + 1).toNat).toInt = 0) → (∃ s9, RS gb s9 nn.toInt ∧ ((gd.toInt = 1 ∧ bk6 w9 fro.toInt nn.toInt (6 * i.toInt).toNat = some s9) ∨ (gd.toInt = 0 ∧ bk6 w9 fro.toInt nn.toInt (6 * i.toInt).toNat = none))) → va_P D vwCl (mX mm q jn cI x0 x1 x2 x3 x4 x5 x6 x7 x8 x9 x10 x11 x12 x13 x14 x15 x16 x17 x18 x19 x20 f0 f1 f2 f3 f4 f5 f6 gb f8 f9 f10 f11 f12 f13 f14 f15 f16 f17 f18 f19 f20 f21 f22 f23 f24) H → va_D A (mX mm q jn cI x0 x1 x2 x3 x4 x5 x6 x7 x8 x9 x10 x11 x12 x13 x14 x15 x16 x17 x18 x19 x20 f0 f1 f2 f3 f4 f5 f6 gb f8 f9 f10 f11 f12 f13 f14 f15 f16 f17 f18 f19 f20 f21 f22 f23 f24) → va_S A s.heap H locs → lv_has ls 13 [(0, .ref mm), (1, .int what), (2, .int dd), (3, .int fro), (4, .int nn), (5, .int gd), (6, .int i)] → W p l e ({ frames := 2, cells := 0, slots := 0, locals := 47 }) s m args below meth c H locs 0 0 Q (F0 m 33 ls []) := by
          intro ddloop33
          induction ddloop33 with
          | zero =>
            intro gd i gb H locs ls hdd
            exact absurd hdd (Nat.not_lt_zero _)
          | succ ddloop33 ih33 =>
            intro gd i gb H locs ls hdd hgd hi9 hS1 hZ1 hO1 hB1 hP hD hS hl
            refine lv_iload hx hb dX11_turns_33 (lv_at hl 6 rfl) ?_
            refine lv_iload hx hb dX11_turns_35 (lv_at hl 4 rfl) ?_
            refine a_icmp_ge (u := i.toInt) (v := nn.toInt) (tgt := 308) hx hb dX11_turns_37 (by decide) (rfl) (rfl) (fun c_3 => ?_) (fun c_3 => ?_)
            · refine lv_iconst (v := 0) hx hb dX11_turns_308 (by decide) ?_
              refine lv_istore (lv' := [(6, .int 0), (0, .ref mm), (1, .int what), (2, .int dd), (3, .int fro), (4, .int nn), (5, .int gd)]) hx hb dX11_turns_309 hl (by decide) rfl (fun ls hl => ?_)
              have loop311 : ∀ (ddloop311 : Nat) (k2 : Int32) (gw : (Nat → Int32)) (H : Heap) (locs : List Loc) (ls : Array Slot), (6 * nn.toInt - k2.toInt).toNat < ddloop311 → (0 ≤ k2.toInt ∧ k2.toInt ≤ 6 * nn.toInt) → (∀ i9 : Int, 0 ≤ i9 → i9 < 6 * fro.toInt → gw i9.toNat = f3 i9.toNat) → (∀ i9 : Int, 0 ≤ i9 → i9 < k2.toInt → gw (6 * fro.toInt + i9).toNat = gb (0 + i9).toNat) → va_P D vwCl (mX mm q jn cI x0 x1 x2 x3 x4 x5 x6 x7 x8 x9 x10 x11 x12 x13 x14 x15 x16 x17 x18 x19 x20 f0 f1 f2 gw f4 f5 f6 gb f8 f9 f10 f11 f12 f13 f14 f15 f16 f17 f18 f19 f20 f21 f22 f23 f24) H → va_D A (mX mm q jn cI x0 x1 x2 x3 x4 x5 x6 x7 x8 x9 x10 x11 x12 x13 x14 x15 x16 x17 x18 x19 x20 f0 f1 f2 gw f4 f5 f6 gb f8 f9 f10 f11 f12 f13 f14 f15 f16 f17 f18 f19 f20 f21 f22 f23 f24) → va_S A s.heap H locs → lv_has ls 13 [(0, .ref mm), (1, .int what), (2, .int dd), (3, .int fro), (4, .int nn), (5, .int gd), (6, .int k2)] → W p l e ({ frames := 2, cells := 0, slots := 0, locals := 47 }) s m args below meth c H locs 0 0 Q (F0 m 311 ls []) := by
                intro ddloop311
                induction ddloop311 with
                | zero =>
                  intro k2 gw H locs ls hdd
                  exact absurd hdd (Nat.not_lt_zero _)
                | succ ddloop311 ih311 =>
                  intro k2 gw H locs ls hdd hk2 hga hgs hP hD hS hl
                  refine lv_iload hx hb dX11_turns_311 (lv_at hl 6 rfl) ?_
                  refine lv_bipush (v := 6) hx hb dX11_turns_313 (by decide) ?_
                  refine lv_iload hx hb dX11_turns_315 (lv_at hl 4 rfl) ?_
                  refine a_imul (u := 6) (v := nn.toInt) hx hb dX11_turns_317 (by decide) (rfl) (by omega) (fun z_4 e_4 => ?_)
                  refine a_icmp_ge (u := k2.toInt) (v := (6 * nn.toInt)) (tgt := 346) hx hb dX11_turns_318 (by decide) (rfl) (e_4) (fun c_5 => ?_) (fun c_5 => ?_)
                  · have hCn : CellsX jn gw 0 (6 * (fro.toInt + nn.toInt)) := cx_app (src := gb) (lo := 0) (cx_sub hC (by omega)) (by rw [show (0 : Int) + 6 * nn.toInt = 6 * nn.toInt by omega]; exact hS1) (by omega) (by omega) hga (fun i9 h8 h9 => hgs i9 h8 (by omega))
                    have hZn : ZX jn gw 0 (fro.toInt + nn.toInt) := zx_app (src := gb) (lo := 0) (fun b9 x9 b0 b1 x0 x1 => hZ0 b9 x9 b0 (by omega) x0 x1) hZ1 (by omega) hga (fun i9 h8 h9 => hgs i9 h8 (by omega))
                    refine lv_iload hx hb dX11_turns_346 (lv_at hl 5 rfl) ?_
                    exact g_zret (gd, gw, gb) hx hb hr hlocks hS (b01 (by omega)) rfl (⟨show gd.toInt = 0 ∨ gd.toInt = 1 from (by first | assumption | omega), show CellsX jn gw 0 (6 * (fro.toInt + nn.toInt)) from (hCn), show ZX jn gw 0 (fro.toInt + nn.toInt) from (hZn), show Hd ((gd.toInt = 1 ∧ ∃ v9, ChW what.toInt dd.toInt w9 fro.toInt nn.toInt v9 ∧ RS gw v9 (fro.toInt + nn.toInt)) ∨ (gd.toInt = 0 ∧ ChF what.toInt w9 fro.toInt nn.toInt)) from (by
                      obtain ⟨s9, q1, q2⟩ := hB1
                      rw [show (6 * i.toInt).toNat = 6 * nn.toInt.toNat by omega, bk6_eq, show 2 * nn.toInt.toNat = (2 * nn.toInt).toNat by omega] at q2
                      rcases q2 with ⟨r1, r2⟩ | ⟨r1, r2⟩
                      · exact Or.inl ⟨r1, _, Or.inr (Or.inr (Or.inl ⟨hw9, s9, r2, rfl⟩)), RS_put hRW q1 (by omega) (by omega) hga (fun i9 h8 h9 => hgs i9 h8 (by omega))⟩
                      · exact Or.inr ⟨r1, Or.inl ⟨hw9, r2⟩⟩)⟩) hP hD hQ (Nat.le_of_ble_eq_true rfl) (Nat.le_of_ble_eq_true rfl) dX11_turns_348
                  · refine lv_aload_n hx hb dX11_turns_321 rfl (lv_at hl 0 rfl) ?_
                    refine va_get (D := D) (ci := 11) (v := .ref (q 3)) (C := RX11) (T := TX11) (N := 47) hx hb hts (by decide +kernel) hown hK.1 hP 0 rfl rfl 14 (by decide) (hts (.fieldLink RX11 27 "JugglingHallModel" "work" "[I") (by decide +kernel)) (fun _ h9 => h9) rfl dX11_turns_322 ?_
                    refine lv_bipush (v := 6) hx hb dX11_turns_325 (by decide) ?_
                    refine lv_iload_n hx hb dX11_turns_327 rfl (lv_at hl 3 rfl) ?_
                    refine a_imul (u := 6) (v := fro.toInt) hx hb dX11_turns_328 (by decide) (rfl) (by omega) (fun z_6 e_6 => ?_)
                    refine lv_iload hx hb dX11_turns_329 (lv_at hl 6 rfl) ?_
                    refine a_iadd (u := (6 * fro.toInt)) (v := k2.toInt) hx hb dX11_turns_331 (e_6) (rfl) (by omega) (fun z_7 e_7 => ?_)
                    refine lv_aload_n hx hb dX11_turns_332 rfl (lv_at hl 0 rfl) ?_
                    refine va_get (D := D) (ci := 11) (v := .ref (q 7)) (C := RX11) (T := TX11) (N := 47) hx hb hts (by decide +kernel) hown hK.1 hP 0 rfl rfl 18 (by decide) (hts (.fieldLink RX11 39 "JugglingHallModel" "spare" "[I") (by decide +kernel)) (fun _ h9 => h9) rfl dX11_turns_333 ?_
                    refine lv_iload hx hb dX11_turns_336 (lv_at hl 6 rfl) ?_
                    refine a_iald (f := gb) (u := k2.toInt) hx hb hK.1 hP 8 0 rfl rfl dX11_turns_338 (rfl) (by omega) (fun z_8 q_8 e_8 => ?_)
                    refine ma_3 (u := ((6 * fro.toInt) + k2.toInt)) hx hb hK hP hD hS dX11_turns_339 (e_7) (by omega) (fun g_9 H locs eg_9 hP hD hS => ?_)
                    obtain ⟨z_10, q_10, e_10⟩ := i_inc (a := k2.toInt) (1) (rfl) (by decide) (by omega) (by omega)
                    refine lv_iinc (v := z_10) (lv' := [(6, .int z_10), (0, .ref mm), (1, .int what), (2, .int dd), (3, .int fro), (4, .int nn), (5, .int gd)]) hx hb dX11_turns_340 hl (k := 6) rfl q_10 (by decide) rfl (fun ls hl => ?_)
                    refine lv_goto (tgt := 311) hx hb dX11_turns_343 (by decide) ?_
                    exact ih311 z_10 g_9 _ _ _ (by omega) (by first | assumption | omega) (fun i9 h8 h9 => by rw [eg_9, un_i h8 (by omega) (by omega)]; exact hga i9 h8 h9) (fun i9 h8 h9 => by
                      by_cases q : i9 = k2.toInt
                      · rw [eg_9, q, show 6 * fro.toInt + k2.toInt = ((6 * fro.toInt) + k2.toInt) by omega, pk_us, q_8, show (0 : Int) + k2.toInt = k2.toInt by omega]
                      · rw [eg_9, un_i (by omega) (by omega) (by omega)]; exact hgs i9 h8 (by omega)) hP hD hS (lv_sub hl [1, 2, 3, 4, 5, 6, 0] rfl)
              have hz_11 : (0 : Int32).toInt = 0 := by decide
              exact loop311 ((6 * nn.toInt - (0 : Int32).toInt).toNat + 1) (0 : Int32) f3 _ _ _ (by omega) (by first | assumption | omega) (fun _ _ _ => rfl) (fun i9 h8 h9 => absurd h9 (by omega)) hP hD hS (lv_sub hl [1, 2, 3, 4, 5, 6, 0] rfl)
            · refine lv_iconst (v := 0) hx hb dX11_turns_40 (by decide) ?_
              refine lv_istore (lv' := [(7, .int 0), (0, .ref mm), (1, .int what), (2, .int dd), (3, .int fro), (4, .int nn), (5, .int gd), (6, .int i)]) hx hb dX11_turns_41 hl (by decide) rfl (fun ls hl => ?_)
              have loop43 : ∀ (ddloop43 : Nat) (ge : Int32) (x : Int32) (gc : (Nat → Int32)) (H : Heap) (locs : List Loc) (ls : Array Slot), (6 - x.toInt).toNat < ddloop43 → (ge.toInt = 0 ∨ ge.toInt = 1) → (0 ≤ x.toInt ∧ x.toInt ≤ 6) → (CellsX jn gc 0 (6 * nn.toInt)) → (ZX jn gc 0 nn.toInt) → (what.toInt = 9 → ∀ k9 : Int, 0 ≤ k9 → 2 * k9 + 1 < 6 * nn.toInt → (gc (2 * k9 + 1).toNat).toInt = 0) → (∃ s9, RS gc s9 nn.toInt ∧ ((ge.toInt = 1 ∧ bk6 w9 fro.toInt nn.toInt (6 * i.toInt + x.toInt).toNat = some s9) ∨ (ge.toInt = 0 ∧ bk6 w9 fro.toInt nn.toInt (6 * i.toInt + x.toInt).toNat = none))) → va_P D vwCl (mX mm q jn cI x0 x1 x2 x3 x4 x5 x6 x7 x8 x9 x10 x11 x12 x13 x14 x15 x16 x17 x18 x19 x20 f0 f1 f2 f3 f4 f5 f6 gc f8 f9 f10 f11 f12 f13 f14 f15 f16 f17 f18 f19 f20 f21 f22 f23 f24) H → va_D A (mX mm q jn cI x0 x1 x2 x3 x4 x5 x6 x7 x8 x9 x10 x11 x12 x13 x14 x15 x16 x17 x18 x19 x20 f0 f1 f2 f3 f4 f5 f6 gc f8 f9 f10 f11 f12 f13 f14 f15 f16 f17 f18 f19 f20 f21 f22 f23 f24) → va_S A s.heap H locs → lv_has ls 13 [(0, .ref mm), (1, .int what), (2, .int dd), (3, .int fro), (4, .int nn), (5, .int ge), (6, .int i), (7, .int x)] → W p l e ({ frames := 2, cells := 0, slots := 0, locals := 47 }) s m args below meth c H locs 0 0 Q (F0 m 43 ls []) := by
                intro ddloop43
                induction ddloop43 with
                | zero =>
                  intro ge x gc H locs ls hdd
                  exact absurd hdd (Nat.not_lt_zero _)
                | succ ddloop43 ih43 =>
                  intro ge x gc H locs ls hdd hge hx9 hS2 hZ2 hO2 hB2 hP hD hS hl
                  refine lv_iload hx hb dX11_turns_43 (lv_at hl 7 rfl) ?_
                  refine lv_bipush (v := 6) hx hb dX11_turns_45 (by decide) ?_
                  refine a_icmp_ge (u := x.toInt) (v := 6) (tgt := 302) hx hb dX11_turns_47 (by decide) (rfl) (by decide) (fun c_12 => ?_) (fun c_12 => ?_)
                  · obtain ⟨z_13, q_13, e_13⟩ := i_inc (a := i.toInt) (1) (rfl) (by decide) (by omega) (by omega)
                    refine lv_iinc (v := z_13) (lv' := [(6, .int z_13), (0, .ref mm), (1, .int what), (2, .int dd), (3, .int fro), (4, .int nn), (5, .int ge), (7, .int x)]) hx hb dX11_turns_302 hl (k := 6) rfl q_13 (by decide) rfl (fun ls hl => ?_)
                    refine lv_goto (tgt := 33) hx hb dX11_turns_305 (by decide) ?_
                    exact ih33 ge z_13 gc _ _ _ (by omega) (by first | assumption | omega) (by first | assumption | omega) (by first | assumption | omega) (by first | assumption | omega) (by first | assumption | omega) (by rw [show 6 * z_13.toInt = 6 * i.toInt + x.toInt by omega]; exact hB2) hP hD hS (lv_sub hl [1, 2, 3, 4, 5, 6, 0] rfl)
                  · refine lv_aload_n hx hb dX11_turns_50 rfl (lv_at hl 0 rfl) ?_
                    refine va_get (D := D) (ci := 11) (v := .ref (q 3)) (C := RX11) (T := TX11) (N := 47) hx hb hts (by decide +kernel) hown hK.1 hP 0 rfl rfl 14 (by decide) (hts (.fieldLink RX11 27 "JugglingHallModel" "work" "[I") (by decide +kernel)) (fun _ h9 => h9) rfl dX11_turns_51 ?_
                    refine lv_bipush (v := 6) hx hb dX11_turns_54 (by decide) ?_
                    refine lv_iload_n hx hb dX11_turns_56 rfl (lv_at hl 3 rfl) ?_
                    refine lv_iload hx hb dX11_turns_57 (lv_at hl 6 rfl) ?_
                    refine a_iadd (u := fro.toInt) (v := i.toInt) hx hb dX11_turns_59 (rfl) (rfl) (by omega) (fun z_14 e_14 => ?_)
                    refine a_imul (u := 6) (v := (fro.toInt + i.toInt)) hx hb dX11_turns_60 (by decide) (e_14) (by omega) (fun z_15 e_15 => ?_)
                    refine lv_iload hx hb dX11_turns_61 (lv_at hl 7 rfl) ?_
                    refine a_iadd (u := (6 * (fro.toInt + i.toInt))) (v := x.toInt) hx hb dX11_turns_63 (e_15) (rfl) (by omega) (fun z_16 e_16 => ?_)
                    refine a_iald (f := f3) (u := ((6 * (fro.toInt + i.toInt)) + x.toInt)) hx hb hK.1 hP 4 0 rfl rfl dX11_turns_64 (e_16) (by omega) (fun z_17 q_17 e_17 => ?_)
                    have hcv : CellX jn z_17 := by rw [q_17]; exact hC.1 _ (by omega) (by omega)
                    obtain ⟨hv1, hv2, hv3, hv4⟩ := hcv
                    have hvz : 2 * (jn : Int) ≤ x.toInt → z_17.toInt = 0 := fun h9 => by
                      have h8 := hZ0 (fro.toInt + i.toInt) x.toInt (by omega) (by omega) h9 (by omega)
                      rw [show 0 + 6 * (fro.toInt + i.toInt) + x.toInt = ((6 * (fro.toInt + i.toInt)) + x.toInt) by omega] at h8
                      rw [q_17]; exact h8
                    have hwx : x.toInt < 2 → z_17.toInt = 4 * w9 (2 * (fro.toInt + i.toInt) + x.toInt) := fun h9 => by
                      have h8 := hRW (2 * (fro.toInt + i.toInt) + x.toInt) (by omega) (by omega)
                      rw [show 6 * ((2 * (fro.toInt + i.toInt) + x.toInt) / 2) + (2 * (fro.toInt + i.toInt) + x.toInt) % 2 = ((6 * (fro.toInt + i.toInt)) + x.toInt) by omega] at h8
                      rw [q_17]; exact h8
                    refine lv_istore (lv' := [(8, .int z_17), (0, .ref mm), (1, .int what), (2, .int dd), (3, .int fro), (4, .int nn), (5, .int ge), (6, .int i), (7, .int x)]) hx hb dX11_turns_65 hl (by decide) rfl (fun ls hl => ?_)
                    refine lv_iload hx hb dX11_turns_67 (lv_at hl 8 rfl) ?_
                    refine lv_iconst (v := 2) hx hb dX11_turns_69 (by decide) ?_
                    refine a_idiv (u := x.toInt) (v := 2) hx hb dX11_turns_70 (rfl) (by decide) (by omega) (fun z_18 e_18 => ?_)
                    refine lv_istore (lv' := [(9, .int z_18), (8, .int z_17), (0, .ref mm), (1, .int what), (2, .int dd), (3, .int fro), (4, .int nn), (5, .int ge), (6, .int i), (7, .int x)]) hx hb dX11_turns_71 hl (by decide) rfl (fun ls hl => ?_)
                    refine lv_iload_n hx hb dX11_turns_73 rfl (lv_at hl 3 rfl) ?_
                    refine lv_bipush (v := 9) hx hb dX11_turns_74 (by decide) ?_
                    refine a_icmp_ne (u := what.toInt) (v := 9) (tgt := 95) hx hb dX11_turns_76 (by decide) (rfl) (by decide) (fun c_19 => ?_) (fun c_19 => absurd c_19 (by omega))
                    refine lv_iload_n hx hb dX11_turns_95 rfl (lv_at hl 3 rfl) ?_
                    refine lv_bipush (v := 9) hx hb dX11_turns_96 (by decide) ?_
                    refine a_icmp_ne (u := what.toInt) (v := 9) (tgt := 142) hx hb dX11_turns_98 (by decide) (rfl) (by decide) (fun c_20 => ?_) (fun c_20 => absurd c_20 (by omega))
                    refine lv_iload hx hb dX11_turns_142 (lv_at hl 1 rfl) ?_
                    refine a_if_le (u := z_17.toInt) (tgt := 296) hx hb dX11_turns_144 (by decide) (rfl) (fun c_21 => ?_) (fun c_21 => ?_)
                    · obtain ⟨z_22, q_22, e_22⟩ := i_inc (a := x.toInt) (1) (rfl) (by decide) (by omega) (by omega)
                      refine lv_iinc (v := z_22) (lv' := [(7, .int z_22), (9, .int z_18), (8, .int z_17), (0, .ref mm), (1, .int what), (2, .int dd), (3, .int fro), (4, .int nn), (5, .int ge), (6, .int i)]) hx hb dX11_turns_296 hl (k := 9) rfl q_22 (by decide) rfl (fun ls hl => ?_)
                      refine lv_goto (tgt := 43) hx hb dX11_turns_299 (by decide) ?_
                      exact ih43 ge z_22 gc _ _ _ (by omega) (by first | assumption | omega) (by first | assumption | omega) (by first | assumption | omega) (by first | assumption | omega) (by first | assumption | omega) (by
                        rw [show 6 * i.toInt + z_22.toInt = 6 * i.toInt + x.toInt + 1 by omega]
                        obtain ⟨s9, q1, q2⟩ := hB2
                        refine ⟨s9, q1, ?_⟩
                        rw [bk6_z (by omega) (by omega) (by omega) (fun q => by have q9 := hwx q; omega)]
                        exact q2) hP hD hS (lv_sub hl [3, 4, 5, 6, 7, 8, 9, 0] rfl)
                    · refine lv_iload_n hx hb dX11_turns_147 rfl (lv_at hl 3 rfl) ?_
                      refine lv_bipush (v := 7) hx hb dX11_turns_148 (by decide) ?_
                      refine a_icmp_ne (u := what.toInt) (v := 7) (tgt := 169) hx hb dX11_turns_150 (by decide) (rfl) (by decide) (fun c_23 => absurd c_23 (by omega)) (fun c_23 => ?_)
                      refine lv_iload hx hb dX11_turns_153 (lv_at hl 8 rfl) ?_
                      refine lv_iload hx hb dX11_turns_155 (lv_at hl 1 rfl) ?_
                      refine lv_iconst (v := 4) hx hb dX11_turns_157 (by decide) ?_
                      refine a_idiv (u := z_17.toInt) (v := 4) hx hb dX11_turns_158 (rfl) (by decide) (by omega) (fun z_24 e_24 => ?_)
                      refine a_iadd (u := i.toInt) (v := (z_17.toInt / 4)) hx hb dX11_turns_159 (rfl) (e_24) (by omega) (fun z_25 e_25 => ?_)
                      refine a_ineg (u := (i.toInt + (z_17.toInt / 4))) hx hb dX11_turns_160 (e_25) (by omega) (fun z_26 e_26 => ?_)
                      refine lv_iload hx hb dX11_turns_161 (lv_at hl 6 rfl) ?_
                      refine roP (va_runS (As := [.int z_26, .int nn]) (rest := []) ⟨hx, hb, hml, hown, hts⟩ (k_mod2 l D cI cR cM _  (by first | assumption | omega) (by first | assumption | omega)) (va_cwS 2 hts gX11_turns_X11_mod rfl rfl rfl (by decide +kernel) ⟨Nat.le_of_ble_eq_true rfl, Nat.le_of_ble_eq_true rfl⟩) (pre_S hK va_P_nil (va_D_nil (A := fun _ => True))) rfl rfl hl.1 rfl (lv_room (Nat.le_of_ble_eq_true rfl)) dX11_turns_163 ⟨Nat.le_of_ble_eq_true rfl, Nat.le_of_ble_eq_true rfl⟩) hS hA hP (fun r_27 H locs hw hP hS => ?_)
                      obtain ⟨h_27, hb_27⟩ : (r_27.toInt = z_26.toInt % nn.toInt) ∧ (0 ≤ r_27.toInt ∧ r_27.toInt < nn.toInt) := hw
                      have hbx : r_27.toInt = _ := h_27
                      refine lv_goto (tgt := 189) hx hb dX11_turns_166 (by decide) ?_
                      refine lv_istore (lv' := [(10, .int r_27), (9, .int z_18), (8, .int z_17), (0, .ref mm), (1, .int what), (2, .int dd), (3, .int fro), (4, .int nn), (5, .int ge), (6, .int i), (7, .int x)]) hx hb dX11_turns_189 hl (by decide) rfl (fun ls hl => ?_)
                      refine lv_iload_n hx hb dX11_turns_191 rfl (lv_at hl 4 rfl) ?_
                      refine lv_bipush (v := 7) hx hb dX11_turns_192 (by decide) ?_
                      refine a_icmp_ne (u := what.toInt) (v := 7) (tgt := 204) hx hb dX11_turns_194 (by decide) (rfl) (by decide) (fun c_28 => absurd c_28 (by omega)) (fun c_28 => ?_)
                      refine lv_iload hx hb dX11_turns_197 (lv_at hl 2 rfl) ?_
                      refine lv_iconst (v := 4) hx hb dX11_turns_199 (by decide) ?_
                      refine a_irem (u := z_17.toInt) (v := 4) hx hb dX11_turns_200 (rfl) (by decide) (by omega) (fun z_29 e_29 h_29 k_29 => ?_)
                      refine lv_goto (tgt := 224) hx hb dX11_turns_201 (by decide) ?_
                      refine lv_istore (lv' := [(11, .int z_29), (10, .int r_27), (9, .int z_18), (8, .int z_17), (0, .ref mm), (1, .int what), (2, .int dd), (3, .int fro), (4, .int nn), (5, .int ge), (6, .int i), (7, .int x)]) hx hb dX11_turns_224 hl (by decide) rfl (fun ls hl => ?_)
                      refine lv_iload_n hx hb dX11_turns_226 rfl (lv_at hl 5 rfl) ?_
                      refine lv_bipush (v := 7) hx hb dX11_turns_227 (by decide) ?_
                      refine a_icmp_ne (u := what.toInt) (v := 7) (tgt := 237) hx hb dX11_turns_229 (by decide) (rfl) (by decide) (fun c_30 => absurd c_30 (by omega)) (fun c_30 => ?_)
                      refine lv_iload hx hb dX11_turns_232 (lv_at hl 2 rfl) ?_
                      refine lv_goto (tgt := 261) hx hb dX11_turns_234 (by decide) ?_
                      refine lv_istore (lv' := [(12, .int z_18), (11, .int z_29), (10, .int r_27), (9, .int z_18), (8, .int z_17), (0, .ref mm), (1, .int what), (2, .int dd), (3, .int fro), (4, .int nn), (5, .int ge), (6, .int i), (7, .int x)]) hx hb dX11_turns_261 hl (by decide) rfl (fun ls hl => ?_)
                      refine lv_aload_n hx hb dX11_turns_263 rfl (lv_at hl 5 rfl) ?_
                      refine lv_iload hx hb dX11_turns_264 (lv_at hl 2 rfl) ?_
                      refine lv_iload hx hb dX11_turns_266 (lv_at hl 1 rfl) ?_
                      refine lv_iload hx hb dX11_turns_268 (lv_at hl 4 rfl) ?_
                      refine lv_iload hx hb dX11_turns_270 (lv_at hl 4 rfl) ?_
                      refine lv_iconst (v := 4) hx hb dX11_turns_272 (by decide) ?_
                      refine a_irem (u := z_17.toInt) (v := 4) hx hb dX11_turns_273 (rfl) (by decide) (by omega) (fun z_31 e_31 h_31 k_31 => ?_)
                      refine a_isub (u := z_17.toInt) (v := z_31.toInt) hx hb dX11_turns_274 (rfl) (rfl) (by omega) (fun z_32 e_32 => ?_)
                      refine lv_iload hx hb dX11_turns_275 (lv_at hl 0 rfl) ?_
                      refine a_iadd (u := (z_17.toInt - z_31.toInt)) (v := (x.toInt / 2)) hx hb dX11_turns_277 (e_32) (e_18) (by omega) (fun z_33 e_33 => ?_)
                      have hwv := hwx (by omega)
                      have hbe : r_27.toInt = (-(i.toInt + w9 (2 * (fro.toInt + i.toInt) + x.toInt))) % nn.toInt := hbx.trans (by
                        first | rfl | exact congrArg (fun t9 : Int => t9 % nn.toInt) (by omega) | omega)
                      have hve : z_33.toInt / 4 = w9 (2 * (fro.toInt + i.toInt) + x.toInt) := by omega
                      obtain ⟨s9, q1, q2⟩ := hB2
                      refine call_g (wr := []) (va_runV (As := [.int r_27, .int z_29, .int z_33]) (rest := []) ⟨hx, hb, hml, hown, hts⟩ (k_comes3 l D cI cR cM _ (hi := 6 * nn.toInt) (m9 := nn.toInt) (s9 := s9) (by first | assumption | omega) (by first | assumption | omega) (by first | assumption | omega) (⟨by omega, by omega, by omega, by omega⟩) (hS2) (by first | assumption | omega) (by first | assumption | omega) (q1) (rfl) (by omega)) (cwV 3 hts gX11_turns_X11_comes rfl rfl rfl (by decide +kernel) ⟨Nat.le_of_ble_eq_true rfl, Nat.le_of_ble_eq_true rfl⟩) (pre_V hK hP hD 0 11 rfl rfl) rfl rfl hl.1 rfl (lv_room (Nat.le_of_ble_eq_true rfl)) dX11_turns_278 ⟨Nat.le_of_ble_eq_true rfl, Nat.le_of_ble_eq_true rfl⟩) hP hD hS hA [0, 1, 2, 3, 4, 5, 6, 7, 8, 9, 10, 11, 12, 13, 14, 15, 16, 17, 18, 19, 20, 21, 22, 23, 24, 25] [] (by with_unfolding_all rfl) rfl (by decide) (by decide) (fun u_34 H locs hw hP hD hS => ?_)
                      obtain ⟨r_34, g7_34⟩ := u_34
                      have hP : va_P D vwCl (mX mm q jn cI x0 x1 x2 x3 x4 x5 x6 x7 x8 x9 x10 x11 x12 x13 x14 x15 x16 x17 x18 x19 x20 f0 f1 f2 f3 f4 f5 f6 g7_34 f8 f9 f10 f11 f12 f13 f14 f15 f16 f17 f18 f19 f20 f21 f22 f23 f24) H := hP
                      have hD : va_D A (mX mm q jn cI x0 x1 x2 x3 x4 x5 x6 x7 x8 x9 x10 x11 x12 x13 x14 x15 x16 x17 x18 x19 x20 f0 f1 f2 f3 f4 f5 f6 g7_34 f8 f9 f10 f11 f12 f13 f14 f15 f16 f17 f18 f19 f20 f21 f22 f23 f24) := hD
                      obtain ⟨h_34, hC_34, hz_34, hF_34⟩ : (r_34.toInt = 0 ∨ r_34.toInt = 1) ∧ (CellsX jn g7_34 0 (6 * nn.toInt)) ∧ (∀ i9 : Int, 0 ≤ i9 → i9 ≠ (6 * r_27.toInt + 2 * z_29.toInt) → i9 ≠ (6 * r_27.toInt + 2 * z_29.toInt) + 1 → g7_34 i9.toNat = gc i9.toNat) ∧ (Hd ((r_34.toInt = 1 ∧ ∃ u9, insW s9 r_27.toInt (z_33.toInt / 4) = some u9 ∧ RS g7_34 u9 nn.toInt) ∨ (r_34.toInt = 0 ∧ insW s9 r_27.toInt (z_33.toInt / 4) = none ∧ RS g7_34 s9 nn.toInt))) := hw
                      have hZ3 : ZX jn g7_34 0 nn.toInt := fun b9 x9 b0 b1 x0 x1 => by rw [hz_34 _ (by omega) (by omega) (by omega)]; exact hZ2 b9 x9 b0 b1 x0 x1
                      have hO3 : what.toInt = 9 → ∀ k9 : Int, 0 ≤ k9 → 2 * k9 + 1 < 6 * nn.toInt → (g7_34 (2 * k9 + 1).toNat).toInt = 0 := fun h9 => absurd h9 (by omega)
                      refine a_if_eq (u := r_34.toInt) (tgt := 293) hx hb dX11_turns_281 (by decide) (rfl) (fun c_35 => ?_) (fun c_35 => ?_)
                      · refine lv_iconst (v := 0) hx hb dX11_turns_293 (by decide) ?_
                        refine lv_istore (lv' := [(5, .int 0), (12, .int z_18), (11, .int z_29), (10, .int r_27), (9, .int z_18), (8, .int z_17), (0, .ref mm), (1, .int what), (2, .int dd), (3, .int fro), (4, .int nn), (6, .int i), (7, .int x)]) hx hb dX11_turns_294 hl (by decide) rfl (fun ls hl => ?_)
                        obtain ⟨z_36, q_36, e_36⟩ := i_inc (a := x.toInt) (1) (rfl) (by decide) (by omega) (by omega)
                        refine lv_iinc (v := z_36) (lv' := [(7, .int z_36), (5, .int 0), (12, .int z_18), (11, .int z_29), (10, .int r_27), (9, .int z_18), (8, .int z_17), (0, .ref mm), (1, .int what), (2, .int dd), (3, .int fro), (4, .int nn), (6, .int i)]) hx hb dX11_turns_296 hl (k := 12) rfl q_36 (by decide) rfl (fun ls hl => ?_)
                        refine lv_goto (tgt := 43) hx hb dX11_turns_299 (by decide) ?_
                        have hz_37 : (0 : Int32).toInt = 0 := by decide
                        exact ih43 (0 : Int32) z_36 g7_34 _ _ _ (by omega) (by first | assumption | omega) (by first | assumption | omega) (by first | assumption | omega) (by first | assumption | omega) (by first | assumption | omega) (by
                          rw [show 6 * i.toInt + z_36.toInt = 6 * i.toInt + x.toInt + 1 by omega]
                          rw [bk6_i (by omega) (by omega) (by omega)]
                          rw [hbe, hve] at hF_34
                          rcases hF_34 with ⟨t1, u9, t2, t3⟩ | ⟨t1, t2, t3⟩
                          · refine ⟨u9, t3, ?_⟩
                            rcases q2 with ⟨r1, r2⟩ | ⟨r1, r2⟩
                            · rw [r2]; show _ ∨ (_ ∧ insW s9 _ _ = none); first | exact Or.inl ⟨by omega, t2⟩ | (exfalso; omega)
                            · rw [r2]; first | exact Or.inr ⟨by omega, rfl⟩ | (exfalso; omega)
                          · refine ⟨s9, t3, ?_⟩
                            rcases q2 with ⟨r1, r2⟩ | ⟨r1, r2⟩
                            · rw [r2]; first | exact Or.inr ⟨by omega, t2⟩ | (exfalso; omega)
                            · rw [r2]; first | exact Or.inr ⟨by omega, rfl⟩ | (exfalso; omega)) hP hD hS (lv_sub hl [7, 8, 9, 10, 11, 1, 12, 0] rfl)
                      · refine lv_iload hx hb dX11_turns_284 (lv_at hl 10 rfl) ?_
                        refine a_if_eq (u := ge.toInt) (tgt := 293) hx hb dX11_turns_286 (by decide) (rfl) (fun c_38 => ?_) (fun c_38 => ?_)
                        · refine lv_iconst (v := 0) hx hb dX11_turns_293 (by decide) ?_
                          refine lv_istore (lv' := [(5, .int 0), (12, .int z_18), (11, .int z_29), (10, .int r_27), (9, .int z_18), (8, .int z_17), (0, .ref mm), (1, .int what), (2, .int dd), (3, .int fro), (4, .int nn), (6, .int i), (7, .int x)]) hx hb dX11_turns_294 hl (by decide) rfl (fun ls hl => ?_)
                          obtain ⟨z_39, q_39, e_39⟩ := i_inc (a := x.toInt) (1) (rfl) (by decide) (by omega) (by omega)
                          refine lv_iinc (v := z_39) (lv' := [(7, .int z_39), (5, .int 0), (12, .int z_18), (11, .int z_29), (10, .int r_27), (9, .int z_18), (8, .int z_17), (0, .ref mm), (1, .int what), (2, .int dd), (3, .int fro), (4, .int nn), (6, .int i)]) hx hb dX11_turns_296 hl (k := 12) rfl q_39 (by decide) rfl (fun ls hl => ?_)
                          refine lv_goto (tgt := 43) hx hb dX11_turns_299 (by decide) ?_
                          have hz_40 : (0 : Int32).toInt = 0 := by decide
                          exact ih43 (0 : Int32) z_39 g7_34 _ _ _ (by omega) (by first | assumption | omega) (by first | assumption | omega) (by first | assumption | omega) (by first | assumption | omega) (by first | assumption | omega) (by
                            rw [show 6 * i.toInt + z_39.toInt = 6 * i.toInt + x.toInt + 1 by omega]
                            rw [bk6_i (by omega) (by omega) (by omega)]
                            rw [hbe, hve] at hF_34
                            rcases hF_34 with ⟨t1, u9, t2, t3⟩ | ⟨t1, t2, t3⟩
                            · refine ⟨u9, t3, ?_⟩
                              rcases q2 with ⟨r1, r2⟩ | ⟨r1, r2⟩
                              · rw [r2]; show _ ∨ (_ ∧ insW s9 _ _ = none); first | exact Or.inl ⟨by omega, t2⟩ | (exfalso; omega)
                              · rw [r2]; first | exact Or.inr ⟨by omega, rfl⟩ | (exfalso; omega)
                            · refine ⟨s9, t3, ?_⟩
                              rcases q2 with ⟨r1, r2⟩ | ⟨r1, r2⟩
                              · rw [r2]; first | exact Or.inr ⟨by omega, t2⟩ | (exfalso; omega)
                              · rw [r2]; first | exact Or.inr ⟨by omega, rfl⟩ | (exfalso; omega)) hP hD hS (lv_sub hl [7, 8, 9, 10, 11, 1, 12, 0] rfl)
                        · refine lv_iconst (v := 1) hx hb dX11_turns_289 (by decide) ?_
                          refine lv_goto (tgt := 294) hx hb dX11_turns_290 (by decide) ?_
                          refine lv_istore (lv' := [(5, .int 1), (12, .int z_18), (11, .int z_29), (10, .int r_27), (9, .int z_18), (8, .int z_17), (0, .ref mm), (1, .int what), (2, .int dd), (3, .int fro), (4, .int nn), (6, .int i), (7, .int x)]) hx hb dX11_turns_294 hl (by decide) rfl (fun ls hl => ?_)
                          obtain ⟨z_41, q_41, e_41⟩ := i_inc (a := x.toInt) (1) (rfl) (by decide) (by omega) (by omega)
                          refine lv_iinc (v := z_41) (lv' := [(7, .int z_41), (5, .int 1), (12, .int z_18), (11, .int z_29), (10, .int r_27), (9, .int z_18), (8, .int z_17), (0, .ref mm), (1, .int what), (2, .int dd), (3, .int fro), (4, .int nn), (6, .int i)]) hx hb dX11_turns_296 hl (k := 12) rfl q_41 (by decide) rfl (fun ls hl => ?_)
                          refine lv_goto (tgt := 43) hx hb dX11_turns_299 (by decide) ?_
                          have hz_42 : (1 : Int32).toInt = 1 := by decide
                          exact ih43 (1 : Int32) z_41 g7_34 _ _ _ (by omega) (by first | assumption | omega) (by first | assumption | omega) (by first | assumption | omega) (by first | assumption | omega) (by first | assumption | omega) (by
                            rw [show 6 * i.toInt + z_41.toInt = 6 * i.toInt + x.toInt + 1 by omega]
                            rw [bk6_i (by omega) (by omega) (by omega)]
                            rw [hbe, hve] at hF_34
                            rcases hF_34 with ⟨t1, u9, t2, t3⟩ | ⟨t1, t2, t3⟩
                            · refine ⟨u9, t3, ?_⟩
                              rcases q2 with ⟨r1, r2⟩ | ⟨r1, r2⟩
                              · rw [r2]; show _ ∨ (_ ∧ insW s9 _ _ = none); first | exact Or.inl ⟨by omega, t2⟩ | (exfalso; omega)
                              · rw [r2]; first | exact Or.inr ⟨by omega, rfl⟩ | (exfalso; omega)
                            · refine ⟨s9, t3, ?_⟩
                              rcases q2 with ⟨r1, r2⟩ | ⟨r1, r2⟩
                              · rw [r2]; first | exact Or.inr ⟨by omega, t2⟩ | (exfalso; omega)
                              · rw [r2]; first | exact Or.inr ⟨by omega, rfl⟩ | (exfalso; omega)) hP hD hS (lv_sub hl [7, 8, 9, 10, 11, 1, 12, 0] rfl)
              have hz_43 : (0 : Int32).toInt = 0 := by decide
              exact loop43 ((6 - (0 : Int32).toInt).toNat + 1) gd (0 : Int32) gb _ _ _ (by omega) (by first | assumption | omega) (by first | assumption | omega) (by first | assumption | omega) (by first | assumption | omega) (by first | assumption | omega) (by rw [z32, Int.add_zero]; exact hB1) hP hD hS (lv_sub hl [1, 2, 3, 4, 5, 6, 7, 0] rfl)
        have hz_44 : (1 : Int32).toInt = 1 := by decide
        have hz_45 : (0 : Int32).toInt = 0 := by decide
        exact loop33 ((nn.toInt - (0 : Int32).toInt).toNat + 1) (1 : Int32) (0 : Int32) ga _ _ _ (by omega) (by first | assumption | omega) (by first | assumption | omega) (by first | assumption | omega) (by first | assumption | omega) (by first | assumption | omega) (⟨fun _ => 0, fun c9 h8 h9 => by rw [hz0 _ (by omega) (by omega)]; rfl, Or.inl ⟨by decide, by rw [show (6 * (0 : Int32).toInt).toNat = 0 by decide]; rfl⟩⟩) hP hD hS (lv_sub hl [2, 3, 4, 5, 6, 1, 0] rfl)
      · refine lv_aload_n hx hb dX11_turns_13 rfl (lv_at hl 0 rfl) ?_
        refine va_get (D := D) (ci := 11) (v := .ref (q 7)) (C := RX11) (T := TX11) (N := 47) hx hb hts (by decide +kernel) hown hK.1 hP 0 rfl rfl 18 (by decide) (hts (.fieldLink RX11 39 "JugglingHallModel" "spare" "[I") (by decide +kernel)) (fun _ h9 => h9) rfl dX11_turns_14 ?_
        refine lv_iload hx hb dX11_turns_17 (lv_at hl 5 rfl) ?_
        refine lv_iconst (v := 0) hx hb dX11_turns_19 (by decide) ?_
        refine ma_7 (u := k.toInt) hx hb hK hP hD hS dX11_turns_20 (rfl) (by omega) (fun g_46 H locs eg_46 hP hD hS => ?_)
        obtain ⟨z_47, q_47, e_47⟩ := i_inc (a := k.toInt) (1) (rfl) (by decide) (by omega) (by omega)
        refine lv_iinc (v := z_47) (lv' := [(5, .int z_47), (0, .ref mm), (1, .int what), (2, .int dd), (3, .int fro), (4, .int nn)]) hx hb dX11_turns_21 hl (k := 5) rfl q_47 (by decide) rfl (fun ls hl => ?_)
        refine lv_goto (tgt := 3) hx hb dX11_turns_24 (by decide) ?_
        exact ih3 z_47 g_46 _ _ _ (by omega) (by first | assumption | omega) (fun i9 h8 h9 => by
          by_cases q : i9 = k.toInt
          · rw [eg_46, q, pk_us]; decide
          · rw [eg_46, un_i (by omega) (by omega) (by omega)]; exact hz0 i9 h8 (by omega)) hP hD hS (lv_sub hl [1, 2, 3, 4, 5, 0] rfl)
  have hz_48 : (0 : Int32).toInt = 0 := by decide
  exact loop3 ((6 * nn.toInt - (0 : Int32).toInt).toNat + 1) (0 : Int32) f7 _ _ _ (by omega) (by first | assumption | omega) (fun i9 h8 h9 => absurd h9 (by omega)) hP hD hS (lv_sub hl [1, 2, 3, 4, 5, 0] rfl)
set_option maxRecDepth 100000 in
set_option maxHeartbeats 4000000 in
theorem k_turns_8 (l : Launch) (D : va_G) (cI cR cM : ClassId) (sz : Nat) {jn mm : Nat} {q : Nat → Nat} {x0 x1 x2 x3 x4 x5 x6 x7 x8 x9 x10 x11 x12 x13 x14 x15 x16 x17 x18 x19 x20 : Int32} {f0 f1 f2 f3 f4 f5 f6 f7 f8 f9 f10 f11 f12 f13 f14 f15 f16 f17 f18 f19 f20 f21 f22 f23 f24 : Nat → Int32} {what dd fro nn : Int32} {w9 : Int → Int} (hj : 1 ≤ jn ∧ jn ≤ 3) (hw : 7 ≤ what.toInt ∧ what.toInt ≤ 10) (hd : 0 ≤ dd.toInt ∧ dd.toInt ≤ 9) (hf : 0 ≤ fro.toInt ∧ 0 ≤ nn.toInt ∧ nn.toInt ≤ 24 ∧ fro.toInt + nn.toInt ≤ 150) (hC : CellsX jn f3 0 (6 * (fro.toInt + nn.toInt))) (hZ0 : ZX jn f3 0 (fro.toInt + nn.toInt)) (hw9 : what.toInt = 8) (hj1 : jn = 1) (hRW : RS f3 w9 (fro.toInt + nn.toInt)) (hnn : 0 < nn.toInt) (hSo : ∀ b9 : Int, 0 ≤ b9 → b9 < fro.toInt + nn.toInt → w9 (2 * b9 + 1) ≤ w9 (2 * b9)) : Met l yX11_turns wsX11_turns ({ frames := 2, cells := 0, slots := 0, locals := 47 }) (P0 D cI cR cM [.ref mm, .int what, .int dd, .int fro, .int nn] sz (mX mm q jn cI x0 x1 x2 x3 x4 x5 x6 x7 x8 x9 x10 x11 x12 x13 x14 x15 x16 x17 x18 x19 x20 f0 f1 f2 f3 f4 f5 f6 f7 f8 f9 f10 f11 f12 f13 f14 f15 f16 f17 f18 f19 f20 f21 f22 f23 f24)) (QG (S := Int32 × (Nat → Int32) × (Nat → Int32)) (fun u => some (.int u.1)) (fun u => mX mm q jn cI x0 x1 x2 x3 x4 x5 x6 x7 x8 x9 x10 x11 x12 x13 x14 x15 x16 x17 x18 x19 x20 f0 f1 f2 (u.2.1) f4 f5 f6 (u.2.2) f8 f9 f10 f11 f12 f13 f14 f15 f16 f17 f18 f19 f20 f21 f22 f23 f24) (fun u => (u.1.toInt = 0 ∨ u.1.toInt = 1) ∧ (CellsX jn u.2.1 0 (6 * (fro.toInt + nn.toInt))) ∧ (ZX jn u.2.1 0 (fro.toInt + nn.toInt)) ∧ (Hd ((u.1.toInt = 1 ∧ ∃ v9, ChW what.toInt dd.toInt w9 fro.toInt nn.toInt v9 ∧ RS u.2.1 v9 (fro.toInt + nn.toInt)) ∨ (u.1.toInt = 0 ∧ ChF what.toInt w9 fro.toInt nn.toInt)))) D (va_A (mX mm q jn cI x0 x1 x2 x3 x4 x5 x6 x7 x8 x9 x10 x11 x12 x13 x14 x15 x16 x17 x18 x19 x20 f0 f1 f2 f3 f4 f5 f6 f7 f8 f9 f10 f11 f12 f13 f14 f15 f16 f17 f18 f19 f20 f21 f22 f23 f24) sz)) 0 0 (va_A (mX mm q jn cI x0 x1 x2 x3 x4 x5 x6 x7 x8 x9 x10 x11 x12 x13 x14 x15 x16 x17 x18 x19 x20 f0 f1 f2 f3 f4 f5 f6 f7 f8 f9 f10 f11 f12 f13 f14 f15 f16 f17 f18 f19 f20 f21 f22 f23 f24) sz) := by
  refine go (cc := cX11_turns) (maxL := 13) (ret := (some .boolean)) (by decide) rfl (Nat.le_of_ble_eq_true rfl) ?_
  intro p e s m below meth c ls args Q hQ hsz hx hb hr hml hts hown hlocks hnm hP hK hD hl
  subst hsz
  have hD := hD.self (sz := s.heap.size)
  generalize hAe : va_A (mX mm q jn cI x0 x1 x2 x3 x4 x5 x6 x7 x8 x9 x10 x11 x12 x13 x14 x15 x16 x17 x18 x19 x20 f0 f1 f2 f3 f4 f5 f6 f7 f8 f9 f10 f11 f12 f13 f14 f15 f16 f17 f18 f19 f20 f21 f22 f23 f24) s.heap.size = A at hD hQ
  have hA : ∀ q, s.heap.size ≤ q → A q := fun q h => by rw [← hAe]; exact Or.inr h
  have hS : va_S A s.heap s.heap [] := va_S.rf
  have hl : lv_has ls 13 [(0, .ref mm), (1, .int what), (2, .int dd), (3, .int fro), (4, .int nn)] := hl
  refine lv_iconst (v := 0) hx hb dX11_turns_0 (by decide) ?_
  refine lv_istore (lv' := [(5, .int 0), (0, .ref mm), (1, .int what), (2, .int dd), (3, .int fro), (4, .int nn)]) hx hb dX11_turns_1 hl (by decide) rfl (fun ls hl => ?_)
  have loop3 : ∀ (ddloop3 : Nat) (k : Int32) (ga : (Nat → Int32)) (H : Heap) (locs : List Loc) (ls : Array Slot), (6 * nn.toInt - k.toInt).toNat < ddloop3 → (0 ≤ k.toInt ∧ k.toInt ≤ 6 * nn.toInt) → (∀ i9 : Int, 0 ≤ i9 → i9 < k.toInt → (ga i9.toNat).toInt = 0) → va_P D vwCl (mX mm q jn cI x0 x1 x2 x3 x4 x5 x6 x7 x8 x9 x10 x11 x12 x13 x14 x15 x16 x17 x18 x19 x20 f0 f1 f2 f3 f4 f5 f6 ga f8 f9 f10 f11 f12 f13 f14 f15 f16 f17 f18 f19 f20 f21 f22 f23 f24) H → va_D A (mX mm q jn cI x0 x1 x2 x3 x4 x5 x6 x7 x8 x9 x10 x11 x12 x13 x14 x15 x16 x17 x18 x19 x20 f0 f1 f2 f3 f4 f5 f6 ga f8 f9 f10 f11 f12 f13 f14 f15 f16 f17 f18 f19 f20 f21 f22 f23 f24) → va_S A s.heap H locs → lv_has ls 13 [(0, .ref mm), (1, .int what), (2, .int dd), (3, .int fro), (4, .int nn), (5, .int k)] → W p l e ({ frames := 2, cells := 0, slots := 0, locals := 47 }) s m args below meth c H locs 0 0 Q (F0 m 3 ls []) := by
    intro ddloop3
    induction ddloop3 with
    | zero =>
      intro k ga H locs ls hdd
      exact absurd hdd (Nat.not_lt_zero _)
    | succ ddloop3 ih3 =>
      intro k ga H locs ls hdd hk hz0 hP hD hS hl
      refine lv_iload hx hb dX11_turns_3 (lv_at hl 5 rfl) ?_
      refine lv_bipush (v := 6) hx hb dX11_turns_5 (by decide) ?_
      refine lv_iload hx hb dX11_turns_7 (lv_at hl 4 rfl) ?_
      refine a_imul (u := 6) (v := nn.toInt) hx hb dX11_turns_9 (by decide) (rfl) (by omega) (fun z_1 e_1 => ?_)
      refine a_icmp_ge (u := k.toInt) (v := (6 * nn.toInt)) (tgt := 27) hx hb dX11_turns_10 (by decide) (rfl) (e_1) (fun c_2 => ?_) (fun c_2 => ?_)
      · have hSa : CellsX jn ga 0 (6 * nn.toInt) := ⟨fun i9 h8 h9 => cx_0 (by omega) (hz0 i9 h8 (by omega)), fun k9 h8 h9 _ => hz0 _ (by omega) (by omega)⟩
        have hZa : ZX jn ga 0 nn.toInt := fun b9 x9 b0 b1 x0 x1 => hz0 _ (by omega) (by omega)
        have hOa : what.toInt = 9 → ∀ k9 : Int, 0 ≤ k9 → 2 * k9 + 1 < 6 * nn.toInt → (ga (2 * k9 + 1).toNat).toInt = 0 := fun _ k9 h8 h9 => hz0 _ (by omega) (by omega)
        refine lv_iconst (v := 1) hx hb dX11_turns_27 (by decide) ?_
        refine lv_istore (lv' := [(5, .int 1), (0, .ref mm), (1, .int what), (2, .int dd), (3, .int fro), (4, .int nn)]) hx hb dX11_turns_28 hl (by decide) rfl (fun ls hl => ?_)
        refine lv_iconst (v := 0) hx hb dX11_turns_30 (by decide) ?_
        refine lv_istore (lv' := [(6, .int 0), (5, .int 1), (0, .ref mm), (1, .int what), (2, .int dd), (3, .int fro), (4, .int nn)]) hx hb dX11_turns_31 hl (by decide) rfl (fun ls hl => ?_)
        have loop33 : ∀ (ddloop33 : Nat) (gd : Int32) (i : Int32) (gb : (Nat → Int32)) (H : Heap) (locs : List Loc) (ls : Array Slot), (nn.toInt - i.toInt).toNat < ddloop33 → (gd.toInt = 0 ∨ gd.toInt = 1) → (0 ≤ i.toInt ∧ i.toInt ≤ nn.toInt) → (CellsX jn gb 0 (6 * nn.toInt)) → (ZX jn gb 0 nn.toInt) → (what.toInt = 9 → ∀ k9 : Int, 0 ≤ k9 → 2 * k9 + 1 < 6 * nn.toInt → (gb (2 * k9 + 1).toNat).toInt = 0) → (gd.toInt = 1 ∧ RS gb (tnW w9 fro.toInt nn.toInt 0 (6 * i.toInt)) nn.toInt) → va_P D vwCl (mX mm q jn cI x0 x1 x2 x3 x4 x5 x6 x7 x8 x9 x10 x11 x12 x13 x14 x15 x16 x17 x18 x19 x20 f0 f1 f2 f3 f4 f5 f6 gb f8 f9 f10 f11 f12 f13 f14 f15 f16 f17 f18 f19 f20 f21 f22 f23 f24) H → va_D A (mX mm q jn cI x0 x1 x2 x3 x4 x5 x6 x7 x8 x9 x10 x11 x12 x13 x14 x15 x16 x17 x18 x19 x20 f0 f1 f2 f3 f4 f5 f6 gb f8 f9 f10 f11 f12 f13 f14 f15 f16 f17 f18 f19 f20 f21 f22 f23 f24) → va_S A s.heap H locs → lv_has ls 13 [(0, .ref mm), (1, .int what), (2, .int dd), (3, .int fro), (4, .int nn), (5, .int gd), (6, .int i)] → W p l e ({ frames := 2, cells := 0, slots := 0, locals := 47 }) s m args below meth c H locs 0 0 Q (F0 m 33 ls []) := by
          intro ddloop33
          induction ddloop33 with
          | zero =>
            intro gd i gb H locs ls hdd
            exact absurd hdd (Nat.not_lt_zero _)
          | succ ddloop33 ih33 =>
            intro gd i gb H locs ls hdd hgd hi9 hS1 hZ1 hO1 hB1 hP hD hS hl
            refine lv_iload hx hb dX11_turns_33 (lv_at hl 6 rfl) ?_
            refine lv_iload hx hb dX11_turns_35 (lv_at hl 4 rfl) ?_
            refine a_icmp_ge (u := i.toInt) (v := nn.toInt) (tgt := 308) hx hb dX11_turns_37 (by decide) (rfl) (rfl) (fun c_3 => ?_) (fun c_3 => ?_)
            · refine lv_iconst (v := 0) hx hb dX11_turns_308 (by decide) ?_
              refine lv_istore (lv' := [(6, .int 0), (0, .ref mm), (1, .int what), (2, .int dd), (3, .int fro), (4, .int nn), (5, .int gd)]) hx hb dX11_turns_309 hl (by decide) rfl (fun ls hl => ?_)
              have loop311 : ∀ (ddloop311 : Nat) (k2 : Int32) (gw : (Nat → Int32)) (H : Heap) (locs : List Loc) (ls : Array Slot), (6 * nn.toInt - k2.toInt).toNat < ddloop311 → (0 ≤ k2.toInt ∧ k2.toInt ≤ 6 * nn.toInt) → (∀ i9 : Int, 0 ≤ i9 → i9 < 6 * fro.toInt → gw i9.toNat = f3 i9.toNat) → (∀ i9 : Int, 0 ≤ i9 → i9 < k2.toInt → gw (6 * fro.toInt + i9).toNat = gb (0 + i9).toNat) → va_P D vwCl (mX mm q jn cI x0 x1 x2 x3 x4 x5 x6 x7 x8 x9 x10 x11 x12 x13 x14 x15 x16 x17 x18 x19 x20 f0 f1 f2 gw f4 f5 f6 gb f8 f9 f10 f11 f12 f13 f14 f15 f16 f17 f18 f19 f20 f21 f22 f23 f24) H → va_D A (mX mm q jn cI x0 x1 x2 x3 x4 x5 x6 x7 x8 x9 x10 x11 x12 x13 x14 x15 x16 x17 x18 x19 x20 f0 f1 f2 gw f4 f5 f6 gb f8 f9 f10 f11 f12 f13 f14 f15 f16 f17 f18 f19 f20 f21 f22 f23 f24) → va_S A s.heap H locs → lv_has ls 13 [(0, .ref mm), (1, .int what), (2, .int dd), (3, .int fro), (4, .int nn), (5, .int gd), (6, .int k2)] → W p l e ({ frames := 2, cells := 0, slots := 0, locals := 47 }) s m args below meth c H locs 0 0 Q (F0 m 311 ls []) := by
                intro ddloop311
                induction ddloop311 with
                | zero =>
                  intro k2 gw H locs ls hdd
                  exact absurd hdd (Nat.not_lt_zero _)
                | succ ddloop311 ih311 =>
                  intro k2 gw H locs ls hdd hk2 hga hgs hP hD hS hl
                  refine lv_iload hx hb dX11_turns_311 (lv_at hl 6 rfl) ?_
                  refine lv_bipush (v := 6) hx hb dX11_turns_313 (by decide) ?_
                  refine lv_iload hx hb dX11_turns_315 (lv_at hl 4 rfl) ?_
                  refine a_imul (u := 6) (v := nn.toInt) hx hb dX11_turns_317 (by decide) (rfl) (by omega) (fun z_4 e_4 => ?_)
                  refine a_icmp_ge (u := k2.toInt) (v := (6 * nn.toInt)) (tgt := 346) hx hb dX11_turns_318 (by decide) (rfl) (e_4) (fun c_5 => ?_) (fun c_5 => ?_)
                  · have hCn : CellsX jn gw 0 (6 * (fro.toInt + nn.toInt)) := cx_app (src := gb) (lo := 0) (cx_sub hC (by omega)) (by rw [show (0 : Int) + 6 * nn.toInt = 6 * nn.toInt by omega]; exact hS1) (by omega) (by omega) hga (fun i9 h8 h9 => hgs i9 h8 (by omega))
                    have hZn : ZX jn gw 0 (fro.toInt + nn.toInt) := zx_app (src := gb) (lo := 0) (fun b9 x9 b0 b1 x0 x1 => hZ0 b9 x9 b0 (by omega) x0 x1) hZ1 (by omega) hga (fun i9 h8 h9 => hgs i9 h8 (by omega))
                    refine lv_iload hx hb dX11_turns_346 (lv_at hl 5 rfl) ?_
                    exact g_zret (gd, gw, gb) hx hb hr hlocks hS (b01 (by omega)) rfl (⟨show gd.toInt = 0 ∨ gd.toInt = 1 from (by first | assumption | omega), show CellsX jn gw 0 (6 * (fro.toInt + nn.toInt)) from (hCn), show ZX jn gw 0 (fro.toInt + nn.toInt) from (hZn), show Hd ((gd.toInt = 1 ∧ ∃ v9, ChW what.toInt dd.toInt w9 fro.toInt nn.toInt v9 ∧ RS gw v9 (fro.toInt + nn.toInt)) ∨ (gd.toInt = 0 ∧ ChF what.toInt w9 fro.toInt nn.toInt)) from (by
                      obtain ⟨q1, q2⟩ := hB1
                      rw [show 6 * i.toInt = 6 * nn.toInt by omega] at q2
                      exact Or.inl ⟨q1, w9, Or.inr (Or.inl ⟨hw9, rfl⟩), RS_c (RS_put hRW (tn_end (by omega) q2) (by omega) (by omega) hga (fun i9 h8 h9 => hgs i9 h8 (by omega))) (fun c c0 c1 => ov_id (by omega) c0 c1)⟩)⟩) hP hD hQ (Nat.le_of_ble_eq_true rfl) (Nat.le_of_ble_eq_true rfl) dX11_turns_348
                  · refine lv_aload_n hx hb dX11_turns_321 rfl (lv_at hl 0 rfl) ?_
                    refine va_get (D := D) (ci := 11) (v := .ref (q 3)) (C := RX11) (T := TX11) (N := 47) hx hb hts (by decide +kernel) hown hK.1 hP 0 rfl rfl 14 (by decide) (hts (.fieldLink RX11 27 "JugglingHallModel" "work" "[I") (by decide +kernel)) (fun _ h9 => h9) rfl dX11_turns_322 ?_
                    refine lv_bipush (v := 6) hx hb dX11_turns_325 (by decide) ?_
                    refine lv_iload_n hx hb dX11_turns_327 rfl (lv_at hl 3 rfl) ?_
                    refine a_imul (u := 6) (v := fro.toInt) hx hb dX11_turns_328 (by decide) (rfl) (by omega) (fun z_6 e_6 => ?_)
                    refine lv_iload hx hb dX11_turns_329 (lv_at hl 6 rfl) ?_
                    refine a_iadd (u := (6 * fro.toInt)) (v := k2.toInt) hx hb dX11_turns_331 (e_6) (rfl) (by omega) (fun z_7 e_7 => ?_)
                    refine lv_aload_n hx hb dX11_turns_332 rfl (lv_at hl 0 rfl) ?_
                    refine va_get (D := D) (ci := 11) (v := .ref (q 7)) (C := RX11) (T := TX11) (N := 47) hx hb hts (by decide +kernel) hown hK.1 hP 0 rfl rfl 18 (by decide) (hts (.fieldLink RX11 39 "JugglingHallModel" "spare" "[I") (by decide +kernel)) (fun _ h9 => h9) rfl dX11_turns_333 ?_
                    refine lv_iload hx hb dX11_turns_336 (lv_at hl 6 rfl) ?_
                    refine a_iald (f := gb) (u := k2.toInt) hx hb hK.1 hP 8 0 rfl rfl dX11_turns_338 (rfl) (by omega) (fun z_8 q_8 e_8 => ?_)
                    refine ma_3 (u := ((6 * fro.toInt) + k2.toInt)) hx hb hK hP hD hS dX11_turns_339 (e_7) (by omega) (fun g_9 H locs eg_9 hP hD hS => ?_)
                    obtain ⟨z_10, q_10, e_10⟩ := i_inc (a := k2.toInt) (1) (rfl) (by decide) (by omega) (by omega)
                    refine lv_iinc (v := z_10) (lv' := [(6, .int z_10), (0, .ref mm), (1, .int what), (2, .int dd), (3, .int fro), (4, .int nn), (5, .int gd)]) hx hb dX11_turns_340 hl (k := 6) rfl q_10 (by decide) rfl (fun ls hl => ?_)
                    refine lv_goto (tgt := 311) hx hb dX11_turns_343 (by decide) ?_
                    exact ih311 z_10 g_9 _ _ _ (by omega) (by first | assumption | omega) (fun i9 h8 h9 => by rw [eg_9, un_i h8 (by omega) (by omega)]; exact hga i9 h8 h9) (fun i9 h8 h9 => by
                      by_cases q : i9 = k2.toInt
                      · rw [eg_9, q, show 6 * fro.toInt + k2.toInt = ((6 * fro.toInt) + k2.toInt) by omega, pk_us, q_8, show (0 : Int) + k2.toInt = k2.toInt by omega]
                      · rw [eg_9, un_i (by omega) (by omega) (by omega)]; exact hgs i9 h8 (by omega)) hP hD hS (lv_sub hl [1, 2, 3, 4, 5, 6, 0] rfl)
              have hz_11 : (0 : Int32).toInt = 0 := by decide
              exact loop311 ((6 * nn.toInt - (0 : Int32).toInt).toNat + 1) (0 : Int32) f3 _ _ _ (by omega) (by first | assumption | omega) (fun _ _ _ => rfl) (fun i9 h8 h9 => absurd h9 (by omega)) hP hD hS (lv_sub hl [1, 2, 3, 4, 5, 6, 0] rfl)
            · refine lv_iconst (v := 0) hx hb dX11_turns_40 (by decide) ?_
              refine lv_istore (lv' := [(7, .int 0), (0, .ref mm), (1, .int what), (2, .int dd), (3, .int fro), (4, .int nn), (5, .int gd), (6, .int i)]) hx hb dX11_turns_41 hl (by decide) rfl (fun ls hl => ?_)
              have loop43 : ∀ (ddloop43 : Nat) (ge : Int32) (x : Int32) (gc : (Nat → Int32)) (H : Heap) (locs : List Loc) (ls : Array Slot), (6 - x.toInt).toNat < ddloop43 → (ge.toInt = 0 ∨ ge.toInt = 1) → (0 ≤ x.toInt ∧ x.toInt ≤ 6) → (CellsX jn gc 0 (6 * nn.toInt)) → (ZX jn gc 0 nn.toInt) → (what.toInt = 9 → ∀ k9 : Int, 0 ≤ k9 → 2 * k9 + 1 < 6 * nn.toInt → (gc (2 * k9 + 1).toNat).toInt = 0) → (ge.toInt = 1 ∧ RS gc (tnW w9 fro.toInt nn.toInt 0 (6 * i.toInt + x.toInt)) nn.toInt) → va_P D vwCl (mX mm q jn cI x0 x1 x2 x3 x4 x5 x6 x7 x8 x9 x10 x11 x12 x13 x14 x15 x16 x17 x18 x19 x20 f0 f1 f2 f3 f4 f5 f6 gc f8 f9 f10 f11 f12 f13 f14 f15 f16 f17 f18 f19 f20 f21 f22 f23 f24) H → va_D A (mX mm q jn cI x0 x1 x2 x3 x4 x5 x6 x7 x8 x9 x10 x11 x12 x13 x14 x15 x16 x17 x18 x19 x20 f0 f1 f2 f3 f4 f5 f6 gc f8 f9 f10 f11 f12 f13 f14 f15 f16 f17 f18 f19 f20 f21 f22 f23 f24) → va_S A s.heap H locs → lv_has ls 13 [(0, .ref mm), (1, .int what), (2, .int dd), (3, .int fro), (4, .int nn), (5, .int ge), (6, .int i), (7, .int x)] → W p l e ({ frames := 2, cells := 0, slots := 0, locals := 47 }) s m args below meth c H locs 0 0 Q (F0 m 43 ls []) := by
                intro ddloop43
                induction ddloop43 with
                | zero =>
                  intro ge x gc H locs ls hdd
                  exact absurd hdd (Nat.not_lt_zero _)
                | succ ddloop43 ih43 =>
                  intro ge x gc H locs ls hdd hge hx9 hS2 hZ2 hO2 hB2 hP hD hS hl
                  refine lv_iload hx hb dX11_turns_43 (lv_at hl 7 rfl) ?_
                  refine lv_bipush (v := 6) hx hb dX11_turns_45 (by decide) ?_
                  refine a_icmp_ge (u := x.toInt) (v := 6) (tgt := 302) hx hb dX11_turns_47 (by decide) (rfl) (by decide) (fun c_12 => ?_) (fun c_12 => ?_)
                  · obtain ⟨z_13, q_13, e_13⟩ := i_inc (a := i.toInt) (1) (rfl) (by decide) (by omega) (by omega)
                    refine lv_iinc (v := z_13) (lv' := [(6, .int z_13), (0, .ref mm), (1, .int what), (2, .int dd), (3, .int fro), (4, .int nn), (5, .int ge), (7, .int x)]) hx hb dX11_turns_302 hl (k := 6) rfl q_13 (by decide) rfl (fun ls hl => ?_)
                    refine lv_goto (tgt := 33) hx hb dX11_turns_305 (by decide) ?_
                    exact ih33 ge z_13 gc _ _ _ (by omega) (by first | assumption | omega) (by first | assumption | omega) (by first | assumption | omega) (by first | assumption | omega) (by first | assumption | omega) (by rw [show 6 * z_13.toInt = 6 * i.toInt + x.toInt by omega]; exact hB2) hP hD hS (lv_sub hl [1, 2, 3, 4, 5, 6, 0] rfl)
                  · refine lv_aload_n hx hb dX11_turns_50 rfl (lv_at hl 0 rfl) ?_
                    refine va_get (D := D) (ci := 11) (v := .ref (q 3)) (C := RX11) (T := TX11) (N := 47) hx hb hts (by decide +kernel) hown hK.1 hP 0 rfl rfl 14 (by decide) (hts (.fieldLink RX11 27 "JugglingHallModel" "work" "[I") (by decide +kernel)) (fun _ h9 => h9) rfl dX11_turns_51 ?_
                    refine lv_bipush (v := 6) hx hb dX11_turns_54 (by decide) ?_
                    refine lv_iload_n hx hb dX11_turns_56 rfl (lv_at hl 3 rfl) ?_
                    refine lv_iload hx hb dX11_turns_57 (lv_at hl 6 rfl) ?_
                    refine a_iadd (u := fro.toInt) (v := i.toInt) hx hb dX11_turns_59 (rfl) (rfl) (by omega) (fun z_14 e_14 => ?_)
                    refine a_imul (u := 6) (v := (fro.toInt + i.toInt)) hx hb dX11_turns_60 (by decide) (e_14) (by omega) (fun z_15 e_15 => ?_)
                    refine lv_iload hx hb dX11_turns_61 (lv_at hl 7 rfl) ?_
                    refine a_iadd (u := (6 * (fro.toInt + i.toInt))) (v := x.toInt) hx hb dX11_turns_63 (e_15) (rfl) (by omega) (fun z_16 e_16 => ?_)
                    refine a_iald (f := f3) (u := ((6 * (fro.toInt + i.toInt)) + x.toInt)) hx hb hK.1 hP 4 0 rfl rfl dX11_turns_64 (e_16) (by omega) (fun z_17 q_17 e_17 => ?_)
                    have hcv : CellX jn z_17 := by rw [q_17]; exact hC.1 _ (by omega) (by omega)
                    obtain ⟨hv1, hv2, hv3, hv4⟩ := hcv
                    have hvz : 2 * (jn : Int) ≤ x.toInt → z_17.toInt = 0 := fun h9 => by
                      have h8 := hZ0 (fro.toInt + i.toInt) x.toInt (by omega) (by omega) h9 (by omega)
                      rw [show 0 + 6 * (fro.toInt + i.toInt) + x.toInt = ((6 * (fro.toInt + i.toInt)) + x.toInt) by omega] at h8
                      rw [q_17]; exact h8
                    have hwx : x.toInt < 2 → z_17.toInt = 4 * w9 (2 * (fro.toInt + i.toInt) + x.toInt) := fun h9 => by
                      have h8 := hRW (2 * (fro.toInt + i.toInt) + x.toInt) (by omega) (by omega)
                      rw [show 6 * ((2 * (fro.toInt + i.toInt) + x.toInt) / 2) + (2 * (fro.toInt + i.toInt) + x.toInt) % 2 = ((6 * (fro.toInt + i.toInt)) + x.toInt) by omega] at h8
                      rw [q_17]; exact h8
                    refine lv_istore (lv' := [(8, .int z_17), (0, .ref mm), (1, .int what), (2, .int dd), (3, .int fro), (4, .int nn), (5, .int ge), (6, .int i), (7, .int x)]) hx hb dX11_turns_65 hl (by decide) rfl (fun ls hl => ?_)
                    refine lv_iload hx hb dX11_turns_67 (lv_at hl 8 rfl) ?_
                    refine lv_iconst (v := 2) hx hb dX11_turns_69 (by decide) ?_
                    refine a_idiv (u := x.toInt) (v := 2) hx hb dX11_turns_70 (rfl) (by decide) (by omega) (fun z_18 e_18 => ?_)
                    refine lv_istore (lv' := [(9, .int z_18), (8, .int z_17), (0, .ref mm), (1, .int what), (2, .int dd), (3, .int fro), (4, .int nn), (5, .int ge), (6, .int i), (7, .int x)]) hx hb dX11_turns_71 hl (by decide) rfl (fun ls hl => ?_)
                    refine lv_iload_n hx hb dX11_turns_73 rfl (lv_at hl 3 rfl) ?_
                    refine lv_bipush (v := 9) hx hb dX11_turns_74 (by decide) ?_
                    refine a_icmp_ne (u := what.toInt) (v := 9) (tgt := 95) hx hb dX11_turns_76 (by decide) (rfl) (by decide) (fun c_19 => ?_) (fun c_19 => absurd c_19 (by omega))
                    refine lv_iload_n hx hb dX11_turns_95 rfl (lv_at hl 3 rfl) ?_
                    refine lv_bipush (v := 9) hx hb dX11_turns_96 (by decide) ?_
                    refine a_icmp_ne (u := what.toInt) (v := 9) (tgt := 142) hx hb dX11_turns_98 (by decide) (rfl) (by decide) (fun c_20 => ?_) (fun c_20 => absurd c_20 (by omega))
                    refine lv_iload hx hb dX11_turns_142 (lv_at hl 1 rfl) ?_
                    refine a_if_le (u := z_17.toInt) (tgt := 296) hx hb dX11_turns_144 (by decide) (rfl) (fun c_21 => ?_) (fun c_21 => ?_)
                    · obtain ⟨z_22, q_22, e_22⟩ := i_inc (a := x.toInt) (1) (rfl) (by decide) (by omega) (by omega)
                      refine lv_iinc (v := z_22) (lv' := [(7, .int z_22), (9, .int z_18), (8, .int z_17), (0, .ref mm), (1, .int what), (2, .int dd), (3, .int fro), (4, .int nn), (5, .int ge), (6, .int i)]) hx hb dX11_turns_296 hl (k := 9) rfl q_22 (by decide) rfl (fun ls hl => ?_)
                      refine lv_goto (tgt := 43) hx hb dX11_turns_299 (by decide) ?_
                      exact ih43 ge z_22 gc _ _ _ (by omega) (by first | assumption | omega) (by first | assumption | omega) (by first | assumption | omega) (by first | assumption | omega) (by first | assumption | omega) (by
                        rw [show 6 * i.toInt + z_22.toInt = 6 * i.toInt + x.toInt + 1 by omega]
                        exact ⟨hB2.1, tn_z hB2.2 (by omega) (by omega) (by omega) (fun q => by have q9 := hwx q; omega)⟩) hP hD hS (lv_sub hl [3, 4, 5, 6, 7, 8, 9, 0] rfl)
                    · refine lv_iload_n hx hb dX11_turns_147 rfl (lv_at hl 3 rfl) ?_
                      refine lv_bipush (v := 7) hx hb dX11_turns_148 (by decide) ?_
                      refine a_icmp_ne (u := what.toInt) (v := 7) (tgt := 169) hx hb dX11_turns_150 (by decide) (rfl) (by decide) (fun c_23 => ?_) (fun c_23 => absurd c_23 (by omega))
                      refine lv_iload_n hx hb dX11_turns_169 rfl (lv_at hl 3 rfl) ?_
                      refine lv_bipush (v := 10) hx hb dX11_turns_170 (by decide) ?_
                      refine a_icmp_ne (u := what.toInt) (v := 10) (tgt := 187) hx hb dX11_turns_172 (by decide) (rfl) (by decide) (fun c_24 => ?_) (fun c_24 => absurd c_24 (by omega))
                      have hbx : i.toInt = (i.toInt - 0) % nn.toInt := by rw [Int.sub_zero, Int.emod_eq_of_lt (by omega) (by omega)]
                      refine lv_iload hx hb dX11_turns_187 (lv_at hl 8 rfl) ?_
                      refine lv_istore (lv' := [(10, .int i), (9, .int z_18), (8, .int z_17), (0, .ref mm), (1, .int what), (2, .int dd), (3, .int fro), (4, .int nn), (5, .int ge), (6, .int i), (7, .int x)]) hx hb dX11_turns_189 hl (by decide) rfl (fun ls hl => ?_)
                      refine lv_iload_n hx hb dX11_turns_191 rfl (lv_at hl 4 rfl) ?_
                      refine lv_bipush (v := 7) hx hb dX11_turns_192 (by decide) ?_
                      refine a_icmp_ne (u := what.toInt) (v := 7) (tgt := 204) hx hb dX11_turns_194 (by decide) (rfl) (by decide) (fun c_25 => ?_) (fun c_25 => absurd c_25 (by omega))
                      refine lv_iload_n hx hb dX11_turns_204 rfl (lv_at hl 4 rfl) ?_
                      refine lv_bipush (v := 8) hx hb dX11_turns_205 (by decide) ?_
                      refine a_icmp_ne (u := what.toInt) (v := 8) (tgt := 222) hx hb dX11_turns_207 (by decide) (rfl) (by decide) (fun c_26 => absurd c_26 (by omega)) (fun c_26 => ?_)
                      refine lv_iload hx hb dX11_turns_210 (lv_at hl 1 rfl) ?_
                      refine lv_iconst (v := 1) hx hb dX11_turns_212 (by decide) ?_
                      refine a_iadd (u := (x.toInt / 2)) (v := 1) hx hb dX11_turns_213 (e_18) (by decide) (by omega) (fun z_27 e_27 => ?_)
                      refine lv_aload_n hx hb dX11_turns_214 rfl (lv_at hl 3 rfl) ?_
                      refine va_get (D := D) (ci := 11) (v := .int (nI jn)) (C := RX11) (T := TX11) (N := 47) hx hb hts (by decide +kernel) hown hK.1 hP 0 rfl rfl 0 (by decide) (hts (.fieldLink RX11 93 "JugglingHallModel" "jugglers" "I") (by decide +kernel)) (fun _ h9 => h9) rfl dX11_turns_215 ?_
                      refine a_irem (u := ((x.toInt / 2) + 1)) (v := (jn : Int)) hx hb dX11_turns_218 (e_27) (nI_toInt (by omega)) (by omega) (fun z_28 e_28 h_28 k_28 => ?_)
                      refine lv_goto (tgt := 224) hx hb dX11_turns_219 (by decide) ?_
                      refine lv_istore (lv' := [(11, .int z_28), (10, .int i), (9, .int z_18), (8, .int z_17), (0, .ref mm), (1, .int what), (2, .int dd), (3, .int fro), (4, .int nn), (5, .int ge), (6, .int i), (7, .int x)]) hx hb dX11_turns_224 hl (by decide) rfl (fun ls hl => ?_)
                      refine lv_iload_n hx hb dX11_turns_226 rfl (lv_at hl 5 rfl) ?_
                      refine lv_bipush (v := 7) hx hb dX11_turns_227 (by decide) ?_
                      refine a_icmp_ne (u := what.toInt) (v := 7) (tgt := 237) hx hb dX11_turns_229 (by decide) (rfl) (by decide) (fun c_29 => ?_) (fun c_29 => absurd c_29 (by omega))
                      refine lv_iload_n hx hb dX11_turns_237 rfl (lv_at hl 5 rfl) ?_
                      refine lv_bipush (v := 8) hx hb dX11_turns_238 (by decide) ?_
                      refine a_icmp_ne (u := what.toInt) (v := 8) (tgt := 257) hx hb dX11_turns_240 (by decide) (rfl) (by decide) (fun c_30 => absurd c_30 (by omega)) (fun c_30 => ?_)
                      refine lv_iload hx hb dX11_turns_243 (lv_at hl 3 rfl) ?_
                      refine lv_iconst (v := 4) hx hb dX11_turns_245 (by decide) ?_
                      refine a_irem (u := z_17.toInt) (v := 4) hx hb dX11_turns_246 (rfl) (by decide) (by omega) (fun z_31 e_31 h_31 k_31 => ?_)
                      refine lv_iconst (v := 1) hx hb dX11_turns_247 (by decide) ?_
                      refine a_iadd (u := z_31.toInt) (v := 1) hx hb dX11_turns_248 (rfl) (by decide) (by omega) (fun z_32 e_32 => ?_)
                      refine lv_aload_n hx hb dX11_turns_249 rfl (lv_at hl 4 rfl) ?_
                      refine va_get (D := D) (ci := 11) (v := .int (nI jn)) (C := RX11) (T := TX11) (N := 47) hx hb hts (by decide +kernel) hown hK.1 hP 0 rfl rfl 0 (by decide) (hts (.fieldLink RX11 93 "JugglingHallModel" "jugglers" "I") (by decide +kernel)) (fun _ h9 => h9) rfl dX11_turns_250 ?_
                      refine a_irem (u := (z_31.toInt + 1)) (v := (jn : Int)) hx hb dX11_turns_253 (e_32) (nI_toInt (by omega)) (by omega) (fun z_33 e_33 h_33 k_33 => ?_)
                      refine lv_goto (tgt := 261) hx hb dX11_turns_254 (by decide) ?_
                      refine lv_istore (lv' := [(12, .int z_33), (11, .int z_28), (10, .int i), (9, .int z_18), (8, .int z_17), (0, .ref mm), (1, .int what), (2, .int dd), (3, .int fro), (4, .int nn), (5, .int ge), (6, .int i), (7, .int x)]) hx hb dX11_turns_261 hl (by decide) rfl (fun ls hl => ?_)
                      refine lv_aload_n hx hb dX11_turns_263 rfl (lv_at hl 5 rfl) ?_
                      refine lv_iload hx hb dX11_turns_264 (lv_at hl 2 rfl) ?_
                      refine lv_iload hx hb dX11_turns_266 (lv_at hl 1 rfl) ?_
                      refine lv_iload hx hb dX11_turns_268 (lv_at hl 4 rfl) ?_
                      refine lv_iload hx hb dX11_turns_270 (lv_at hl 4 rfl) ?_
                      refine lv_iconst (v := 4) hx hb dX11_turns_272 (by decide) ?_
                      refine a_irem (u := z_17.toInt) (v := 4) hx hb dX11_turns_273 (rfl) (by decide) (by omega) (fun z_34 e_34 h_34 k_34 => ?_)
                      refine a_isub (u := z_17.toInt) (v := z_34.toInt) hx hb dX11_turns_274 (rfl) (rfl) (by omega) (fun z_35 e_35 => ?_)
                      refine lv_iload hx hb dX11_turns_275 (lv_at hl 0 rfl) ?_
                      refine a_iadd (u := (z_17.toInt - z_34.toInt)) (v := z_33.toInt) hx hb dX11_turns_277 (e_35) (rfl) (by omega) (fun z_36 e_36 => ?_)
                      have hwv := hwx (by omega)
                      have hbe : i.toInt = (i.toInt - 0) % nn.toInt := hbx.trans (by
                        first | rfl | exact congrArg (fun t9 : Int => t9 % nn.toInt) (by omega) | omega)
                      have hve : z_36.toInt / 4 = w9 (2 * (fro.toInt + i.toInt) + x.toInt) := by omega
                      refine call_g (wr := []) (va_runV (As := [.int i, .int z_28, .int z_36]) (rest := []) ⟨hx, hb, hml, hown, hts⟩ (k_comes3 l D cI cR cM _ (hi := 6 * nn.toInt) (m9 := nn.toInt) (s9 := tnW w9 fro.toInt nn.toInt 0 (6 * i.toInt + x.toInt)) (by first | assumption | omega) (by first | assumption | omega) (by first | assumption | omega) (⟨by omega, by omega, by omega, by omega⟩) (hS2) (by first | assumption | omega) (by first | assumption | omega) (hB2.2) (rfl) (by omega)) (cwV 3 hts gX11_turns_X11_comes rfl rfl rfl (by decide +kernel) ⟨Nat.le_of_ble_eq_true rfl, Nat.le_of_ble_eq_true rfl⟩) (pre_V hK hP hD 0 11 rfl rfl) rfl rfl hl.1 rfl (lv_room (Nat.le_of_ble_eq_true rfl)) dX11_turns_278 ⟨Nat.le_of_ble_eq_true rfl, Nat.le_of_ble_eq_true rfl⟩) hP hD hS hA [0, 1, 2, 3, 4, 5, 6, 7, 8, 9, 10, 11, 12, 13, 14, 15, 16, 17, 18, 19, 20, 21, 22, 23, 24, 25] [] (by with_unfolding_all rfl) rfl (by decide) (by decide) (fun u_37 H locs hw hP hD hS => ?_)
                      obtain ⟨r_37, g7_37⟩ := u_37
                      have hP : va_P D vwCl (mX mm q jn cI x0 x1 x2 x3 x4 x5 x6 x7 x8 x9 x10 x11 x12 x13 x14 x15 x16 x17 x18 x19 x20 f0 f1 f2 f3 f4 f5 f6 g7_37 f8 f9 f10 f11 f12 f13 f14 f15 f16 f17 f18 f19 f20 f21 f22 f23 f24) H := hP
                      have hD : va_D A (mX mm q jn cI x0 x1 x2 x3 x4 x5 x6 x7 x8 x9 x10 x11 x12 x13 x14 x15 x16 x17 x18 x19 x20 f0 f1 f2 f3 f4 f5 f6 g7_37 f8 f9 f10 f11 f12 f13 f14 f15 f16 f17 f18 f19 f20 f21 f22 f23 f24) := hD
                      obtain ⟨h_37, hC_37, hz_37, hF_37⟩ : (r_37.toInt = 0 ∨ r_37.toInt = 1) ∧ (CellsX jn g7_37 0 (6 * nn.toInt)) ∧ (∀ i9 : Int, 0 ≤ i9 → i9 ≠ (6 * i.toInt + 2 * z_28.toInt) → i9 ≠ (6 * i.toInt + 2 * z_28.toInt) + 1 → g7_37 i9.toNat = gc i9.toNat) ∧ (Hd ((r_37.toInt = 1 ∧ ∃ u9, insW (tnW w9 fro.toInt nn.toInt 0 (6 * i.toInt + x.toInt)) i.toInt (z_36.toInt / 4) = some u9 ∧ RS g7_37 u9 nn.toInt) ∨ (r_37.toInt = 0 ∧ insW (tnW w9 fro.toInt nn.toInt 0 (6 * i.toInt + x.toInt)) i.toInt (z_36.toInt / 4) = none ∧ RS g7_37 (tnW w9 fro.toInt nn.toInt 0 (6 * i.toInt + x.toInt)) nn.toInt))) := hw
                      have hZ3 : ZX jn g7_37 0 nn.toInt := fun b9 x9 b0 b1 x0 x1 => by rw [hz_37 _ (by omega) (by omega) (by omega)]; exact hZ2 b9 x9 b0 b1 x0 x1
                      have hO3 : what.toInt = 9 → ∀ k9 : Int, 0 ≤ k9 → 2 * k9 + 1 < 6 * nn.toInt → (g7_37 (2 * k9 + 1).toNat).toInt = 0 := fun h9 => absurd h9 (by omega)
                      refine a_if_eq (u := r_37.toInt) (tgt := 293) hx hb dX11_turns_281 (by decide) (rfl) (fun c_38 => ?_) (fun c_38 => ?_)
                      · refine lv_iconst (v := 0) hx hb dX11_turns_293 (by decide) ?_
                        refine lv_istore (lv' := [(5, .int 0), (12, .int z_33), (11, .int z_28), (10, .int i), (9, .int z_18), (8, .int z_17), (0, .ref mm), (1, .int what), (2, .int dd), (3, .int fro), (4, .int nn), (6, .int i), (7, .int x)]) hx hb dX11_turns_294 hl (by decide) rfl (fun ls hl => ?_)
                        obtain ⟨z_39, q_39, e_39⟩ := i_inc (a := x.toInt) (1) (rfl) (by decide) (by omega) (by omega)
                        refine lv_iinc (v := z_39) (lv' := [(7, .int z_39), (5, .int 0), (12, .int z_33), (11, .int z_28), (10, .int i), (9, .int z_18), (8, .int z_17), (0, .ref mm), (1, .int what), (2, .int dd), (3, .int fro), (4, .int nn), (6, .int i)]) hx hb dX11_turns_296 hl (k := 12) rfl q_39 (by decide) rfl (fun ls hl => ?_)
                        refine lv_goto (tgt := 43) hx hb dX11_turns_299 (by decide) ?_
                        have hz_40 : (0 : Int32).toInt = 0 := by decide
                        exact ih43 (0 : Int32) z_39 g7_37 _ _ _ (by omega) (by first | assumption | omega) (by first | assumption | omega) (by first | assumption | omega) (by first | assumption | omega) (by first | assumption | omega) (by
                          rw [show 6 * i.toInt + z_39.toInt = 6 * i.toInt + x.toInt + 1 by omega]
                          have hF9 : Hd ((r_37.toInt = 1 ∧ ∃ u9, insW (tnW w9 fro.toInt nn.toInt 0 (6 * i.toInt + x.toInt)) ((i.toInt - 0) % nn.toInt) (w9 (2 * (fro.toInt + i.toInt) + x.toInt)) = some u9 ∧ RS g7_37 u9 nn.toInt) ∨ (r_37.toInt = 0 ∧ insW (tnW w9 fro.toInt nn.toInt 0 (6 * i.toInt + x.toInt)) ((i.toInt - 0) % nn.toInt) (w9 (2 * (fro.toInt + i.toInt) + x.toInt)) = none ∧ RS g7_37 (tnW w9 fro.toInt nn.toInt 0 (6 * i.toInt + x.toInt)) nn.toInt)) := by rw [← hbe, ← hve]; exact hF_37
                          rcases hF9 with ⟨t1, u9, t2, t3⟩ | ⟨t1, t2, t3⟩
                          · first | exact ⟨by omega, tn_i (by omega) (by omega) (by omega) (by omega) (by omega) (by omega) (hSo _ (by omega) (by omega)) t2 t3⟩ | (exfalso; have q9 := hB2.1; omega)
                          · exact absurd t2 (tn_ok (by omega) (by omega) (by omega) (by omega) (by omega))) hP hD hS (lv_sub hl [7, 8, 9, 10, 11, 1, 12, 0] rfl)
                      · refine lv_iload hx hb dX11_turns_284 (lv_at hl 10 rfl) ?_
                        refine a_if_eq (u := ge.toInt) (tgt := 293) hx hb dX11_turns_286 (by decide) (rfl) (fun c_41 => ?_) (fun c_41 => ?_)
                        · refine lv_iconst (v := 0) hx hb dX11_turns_293 (by decide) ?_
                          refine lv_istore (lv' := [(5, .int 0), (12, .int z_33), (11, .int z_28), (10, .int i), (9, .int z_18), (8, .int z_17), (0, .ref mm), (1, .int what), (2, .int dd), (3, .int fro), (4, .int nn), (6, .int i), (7, .int x)]) hx hb dX11_turns_294 hl (by decide) rfl (fun ls hl => ?_)
                          obtain ⟨z_42, q_42, e_42⟩ := i_inc (a := x.toInt) (1) (rfl) (by decide) (by omega) (by omega)
                          refine lv_iinc (v := z_42) (lv' := [(7, .int z_42), (5, .int 0), (12, .int z_33), (11, .int z_28), (10, .int i), (9, .int z_18), (8, .int z_17), (0, .ref mm), (1, .int what), (2, .int dd), (3, .int fro), (4, .int nn), (6, .int i)]) hx hb dX11_turns_296 hl (k := 12) rfl q_42 (by decide) rfl (fun ls hl => ?_)
                          refine lv_goto (tgt := 43) hx hb dX11_turns_299 (by decide) ?_
                          have hz_43 : (0 : Int32).toInt = 0 := by decide
                          exact ih43 (0 : Int32) z_42 g7_37 _ _ _ (by omega) (by first | assumption | omega) (by first | assumption | omega) (by first | assumption | omega) (by first | assumption | omega) (by first | assumption | omega) (by
                            rw [show 6 * i.toInt + z_42.toInt = 6 * i.toInt + x.toInt + 1 by omega]
                            have hF9 : Hd ((r_37.toInt = 1 ∧ ∃ u9, insW (tnW w9 fro.toInt nn.toInt 0 (6 * i.toInt + x.toInt)) ((i.toInt - 0) % nn.toInt) (w9 (2 * (fro.toInt + i.toInt) + x.toInt)) = some u9 ∧ RS g7_37 u9 nn.toInt) ∨ (r_37.toInt = 0 ∧ insW (tnW w9 fro.toInt nn.toInt 0 (6 * i.toInt + x.toInt)) ((i.toInt - 0) % nn.toInt) (w9 (2 * (fro.toInt + i.toInt) + x.toInt)) = none ∧ RS g7_37 (tnW w9 fro.toInt nn.toInt 0 (6 * i.toInt + x.toInt)) nn.toInt)) := by rw [← hbe, ← hve]; exact hF_37
                            rcases hF9 with ⟨t1, u9, t2, t3⟩ | ⟨t1, t2, t3⟩
                            · first | exact ⟨by omega, tn_i (by omega) (by omega) (by omega) (by omega) (by omega) (by omega) (hSo _ (by omega) (by omega)) t2 t3⟩ | (exfalso; have q9 := hB2.1; omega)
                            · exact absurd t2 (tn_ok (by omega) (by omega) (by omega) (by omega) (by omega))) hP hD hS (lv_sub hl [7, 8, 9, 10, 11, 1, 12, 0] rfl)
                        · refine lv_iconst (v := 1) hx hb dX11_turns_289 (by decide) ?_
                          refine lv_goto (tgt := 294) hx hb dX11_turns_290 (by decide) ?_
                          refine lv_istore (lv' := [(5, .int 1), (12, .int z_33), (11, .int z_28), (10, .int i), (9, .int z_18), (8, .int z_17), (0, .ref mm), (1, .int what), (2, .int dd), (3, .int fro), (4, .int nn), (6, .int i), (7, .int x)]) hx hb dX11_turns_294 hl (by decide) rfl (fun ls hl => ?_)
                          obtain ⟨z_44, q_44, e_44⟩ := i_inc (a := x.toInt) (1) (rfl) (by decide) (by omega) (by omega)
                          refine lv_iinc (v := z_44) (lv' := [(7, .int z_44), (5, .int 1), (12, .int z_33), (11, .int z_28), (10, .int i), (9, .int z_18), (8, .int z_17), (0, .ref mm), (1, .int what), (2, .int dd), (3, .int fro), (4, .int nn), (6, .int i)]) hx hb dX11_turns_296 hl (k := 12) rfl q_44 (by decide) rfl (fun ls hl => ?_)
                          refine lv_goto (tgt := 43) hx hb dX11_turns_299 (by decide) ?_
                          have hz_45 : (1 : Int32).toInt = 1 := by decide
                          exact ih43 (1 : Int32) z_44 g7_37 _ _ _ (by omega) (by first | assumption | omega) (by first | assumption | omega) (by first | assumption | omega) (by first | assumption | omega) (by first | assumption | omega) (by
                            rw [show 6 * i.toInt + z_44.toInt = 6 * i.toInt + x.toInt + 1 by omega]
                            have hF9 : Hd ((r_37.toInt = 1 ∧ ∃ u9, insW (tnW w9 fro.toInt nn.toInt 0 (6 * i.toInt + x.toInt)) ((i.toInt - 0) % nn.toInt) (w9 (2 * (fro.toInt + i.toInt) + x.toInt)) = some u9 ∧ RS g7_37 u9 nn.toInt) ∨ (r_37.toInt = 0 ∧ insW (tnW w9 fro.toInt nn.toInt 0 (6 * i.toInt + x.toInt)) ((i.toInt - 0) % nn.toInt) (w9 (2 * (fro.toInt + i.toInt) + x.toInt)) = none ∧ RS g7_37 (tnW w9 fro.toInt nn.toInt 0 (6 * i.toInt + x.toInt)) nn.toInt)) := by rw [← hbe, ← hve]; exact hF_37
                            rcases hF9 with ⟨t1, u9, t2, t3⟩ | ⟨t1, t2, t3⟩
                            · first | exact ⟨by omega, tn_i (by omega) (by omega) (by omega) (by omega) (by omega) (by omega) (hSo _ (by omega) (by omega)) t2 t3⟩ | (exfalso; have q9 := hB2.1; omega)
                            · exact absurd t2 (tn_ok (by omega) (by omega) (by omega) (by omega) (by omega))) hP hD hS (lv_sub hl [7, 8, 9, 10, 11, 1, 12, 0] rfl)
              have hz_46 : (0 : Int32).toInt = 0 := by decide
              exact loop43 ((6 - (0 : Int32).toInt).toNat + 1) gd (0 : Int32) gb _ _ _ (by omega) (by first | assumption | omega) (by first | assumption | omega) (by first | assumption | omega) (by first | assumption | omega) (by first | assumption | omega) (by rw [z32, Int.add_zero]; exact hB1) hP hD hS (lv_sub hl [1, 2, 3, 4, 5, 6, 7, 0] rfl)
        have hz_47 : (1 : Int32).toInt = 1 := by decide
        have hz_48 : (0 : Int32).toInt = 0 := by decide
        exact loop33 ((nn.toInt - (0 : Int32).toInt).toNat + 1) (1 : Int32) (0 : Int32) ga _ _ _ (by omega) (by first | assumption | omega) (by first | assumption | omega) (by first | assumption | omega) (by first | assumption | omega) (by first | assumption | omega) (⟨by decide, fun c9 h8 h9 => by
          rw [hz0 _ (by omega) (by omega), z32]
          have q9 := Int.emod_nonneg (c9 / 2 + 0) (show nn.toInt ≠ 0 by omega)
          unfold tnW
          rw [if_neg (by omega)]; rfl⟩) hP hD hS (lv_sub hl [2, 3, 4, 5, 6, 1, 0] rfl)
      · refine lv_aload_n hx hb dX11_turns_13 rfl (lv_at hl 0 rfl) ?_
        refine va_get (D := D) (ci := 11) (v := .ref (q 7)) (C := RX11) (T := TX11) (N := 47) hx hb hts (by decide +kernel) hown hK.1 hP 0 rfl rfl 18 (by decide) (hts (.fieldLink RX11 39 "JugglingHallModel" "spare" "[I") (by decide +kernel)) (fun _ h9 => h9) rfl dX11_turns_14 ?_
        refine lv_iload hx hb dX11_turns_17 (lv_at hl 5 rfl) ?_
        refine lv_iconst (v := 0) hx hb dX11_turns_19 (by decide) ?_
        refine ma_7 (u := k.toInt) hx hb hK hP hD hS dX11_turns_20 (rfl) (by omega) (fun g_49 H locs eg_49 hP hD hS => ?_)
        obtain ⟨z_50, q_50, e_50⟩ := i_inc (a := k.toInt) (1) (rfl) (by decide) (by omega) (by omega)
        refine lv_iinc (v := z_50) (lv' := [(5, .int z_50), (0, .ref mm), (1, .int what), (2, .int dd), (3, .int fro), (4, .int nn)]) hx hb dX11_turns_21 hl (k := 5) rfl q_50 (by decide) rfl (fun ls hl => ?_)
        refine lv_goto (tgt := 3) hx hb dX11_turns_24 (by decide) ?_
        exact ih3 z_50 g_49 _ _ _ (by omega) (by first | assumption | omega) (fun i9 h8 h9 => by
          by_cases q : i9 = k.toInt
          · rw [eg_49, q, pk_us]; decide
          · rw [eg_49, un_i (by omega) (by omega) (by omega)]; exact hz0 i9 h8 (by omega)) hP hD hS (lv_sub hl [1, 2, 3, 4, 5, 0] rfl)
  have hz_51 : (0 : Int32).toInt = 0 := by decide
  exact loop3 ((6 * nn.toInt - (0 : Int32).toInt).toNat + 1) (0 : Int32) f7 _ _ _ (by omega) (by first | assumption | omega) (fun i9 h8 h9 => absurd h9 (by omega)) hP hD hS (lv_sub hl [1, 2, 3, 4, 5, 0] rfl)
set_option maxRecDepth 100000 in
set_option maxHeartbeats 4000000 in
theorem k_turns_10 (l : Launch) (D : va_G) (cI cR cM : ClassId) (sz : Nat) {jn mm : Nat} {q : Nat → Nat} {x0 x1 x2 x3 x4 x5 x6 x7 x8 x9 x10 x11 x12 x13 x14 x15 x16 x17 x18 x19 x20 : Int32} {f0 f1 f2 f3 f4 f5 f6 f7 f8 f9 f10 f11 f12 f13 f14 f15 f16 f17 f18 f19 f20 f21 f22 f23 f24 : Nat → Int32} {what dd fro nn : Int32} {w9 : Int → Int} (hj : 1 ≤ jn ∧ jn ≤ 3) (hw : 7 ≤ what.toInt ∧ what.toInt ≤ 10) (hd : 0 ≤ dd.toInt ∧ dd.toInt ≤ 9) (hf : 0 ≤ fro.toInt ∧ 0 ≤ nn.toInt ∧ nn.toInt ≤ 24 ∧ fro.toInt + nn.toInt ≤ 150) (hC : CellsX jn f3 0 (6 * (fro.toInt + nn.toInt))) (hZ0 : ZX jn f3 0 (fro.toInt + nn.toInt)) (hw9 : what.toInt = 10) (hj1 : jn = 1) (hRW : RS f3 w9 (fro.toInt + nn.toInt)) (hnn : 0 < nn.toInt) (hSo : ∀ b9 : Int, 0 ≤ b9 → b9 < fro.toInt + nn.toInt → w9 (2 * b9 + 1) ≤ w9 (2 * b9)) : Met l yX11_turns wsX11_turns ({ frames := 2, cells := 0, slots := 0, locals := 47 }) (P0 D cI cR cM [.ref mm, .int what, .int dd, .int fro, .int nn] sz (mX mm q jn cI x0 x1 x2 x3 x4 x5 x6 x7 x8 x9 x10 x11 x12 x13 x14 x15 x16 x17 x18 x19 x20 f0 f1 f2 f3 f4 f5 f6 f7 f8 f9 f10 f11 f12 f13 f14 f15 f16 f17 f18 f19 f20 f21 f22 f23 f24)) (QG (S := Int32 × (Nat → Int32) × (Nat → Int32)) (fun u => some (.int u.1)) (fun u => mX mm q jn cI x0 x1 x2 x3 x4 x5 x6 x7 x8 x9 x10 x11 x12 x13 x14 x15 x16 x17 x18 x19 x20 f0 f1 f2 (u.2.1) f4 f5 f6 (u.2.2) f8 f9 f10 f11 f12 f13 f14 f15 f16 f17 f18 f19 f20 f21 f22 f23 f24) (fun u => (u.1.toInt = 0 ∨ u.1.toInt = 1) ∧ (CellsX jn u.2.1 0 (6 * (fro.toInt + nn.toInt))) ∧ (ZX jn u.2.1 0 (fro.toInt + nn.toInt)) ∧ (Hd ((u.1.toInt = 1 ∧ ∃ v9, ChW what.toInt dd.toInt w9 fro.toInt nn.toInt v9 ∧ RS u.2.1 v9 (fro.toInt + nn.toInt)) ∨ (u.1.toInt = 0 ∧ ChF what.toInt w9 fro.toInt nn.toInt)))) D (va_A (mX mm q jn cI x0 x1 x2 x3 x4 x5 x6 x7 x8 x9 x10 x11 x12 x13 x14 x15 x16 x17 x18 x19 x20 f0 f1 f2 f3 f4 f5 f6 f7 f8 f9 f10 f11 f12 f13 f14 f15 f16 f17 f18 f19 f20 f21 f22 f23 f24) sz)) 0 0 (va_A (mX mm q jn cI x0 x1 x2 x3 x4 x5 x6 x7 x8 x9 x10 x11 x12 x13 x14 x15 x16 x17 x18 x19 x20 f0 f1 f2 f3 f4 f5 f6 f7 f8 f9 f10 f11 f12 f13 f14 f15 f16 f17 f18 f19 f20 f21 f22 f23 f24) sz) := by
  refine go (cc := cX11_turns) (maxL := 13) (ret := (some .boolean)) (by decide) rfl (Nat.le_of_ble_eq_true rfl) ?_
  intro p e s m below meth c ls args Q hQ hsz hx hb hr hml hts hown hlocks hnm hP hK hD hl
  subst hsz
  have hD := hD.self (sz := s.heap.size)
  generalize hAe : va_A (mX mm q jn cI x0 x1 x2 x3 x4 x5 x6 x7 x8 x9 x10 x11 x12 x13 x14 x15 x16 x17 x18 x19 x20 f0 f1 f2 f3 f4 f5 f6 f7 f8 f9 f10 f11 f12 f13 f14 f15 f16 f17 f18 f19 f20 f21 f22 f23 f24) s.heap.size = A at hD hQ
  have hA : ∀ q, s.heap.size ≤ q → A q := fun q h => by rw [← hAe]; exact Or.inr h
  have hS : va_S A s.heap s.heap [] := va_S.rf
  have hl : lv_has ls 13 [(0, .ref mm), (1, .int what), (2, .int dd), (3, .int fro), (4, .int nn)] := hl
  refine lv_iconst (v := 0) hx hb dX11_turns_0 (by decide) ?_
  refine lv_istore (lv' := [(5, .int 0), (0, .ref mm), (1, .int what), (2, .int dd), (3, .int fro), (4, .int nn)]) hx hb dX11_turns_1 hl (by decide) rfl (fun ls hl => ?_)
  have loop3 : ∀ (ddloop3 : Nat) (k : Int32) (ga : (Nat → Int32)) (H : Heap) (locs : List Loc) (ls : Array Slot), (6 * nn.toInt - k.toInt).toNat < ddloop3 → (0 ≤ k.toInt ∧ k.toInt ≤ 6 * nn.toInt) → (∀ i9 : Int, 0 ≤ i9 → i9 < k.toInt → (ga i9.toNat).toInt = 0) → va_P D vwCl (mX mm q jn cI x0 x1 x2 x3 x4 x5 x6 x7 x8 x9 x10 x11 x12 x13 x14 x15 x16 x17 x18 x19 x20 f0 f1 f2 f3 f4 f5 f6 ga f8 f9 f10 f11 f12 f13 f14 f15 f16 f17 f18 f19 f20 f21 f22 f23 f24) H → va_D A (mX mm q jn cI x0 x1 x2 x3 x4 x5 x6 x7 x8 x9 x10 x11 x12 x13 x14 x15 x16 x17 x18 x19 x20 f0 f1 f2 f3 f4 f5 f6 ga f8 f9 f10 f11 f12 f13 f14 f15 f16 f17 f18 f19 f20 f21 f22 f23 f24) → va_S A s.heap H locs → lv_has ls 13 [(0, .ref mm), (1, .int what), (2, .int dd), (3, .int fro), (4, .int nn), (5, .int k)] → W p l e ({ frames := 2, cells := 0, slots := 0, locals := 47 }) s m args below meth c H locs 0 0 Q (F0 m 3 ls []) := by
    intro ddloop3
    induction ddloop3 with
    | zero =>
      intro k ga H locs ls hdd
      exact absurd hdd (Nat.not_lt_zero _)
    | succ ddloop3 ih3 =>
      intro k ga H locs ls hdd hk hz0 hP hD hS hl
      refine lv_iload hx hb dX11_turns_3 (lv_at hl 5 rfl) ?_
      refine lv_bipush (v := 6) hx hb dX11_turns_5 (by decide) ?_
      refine lv_iload hx hb dX11_turns_7 (lv_at hl 4 rfl) ?_
      refine a_imul (u := 6) (v := nn.toInt) hx hb dX11_turns_9 (by decide) (rfl) (by omega) (fun z_1 e_1 => ?_)
      refine a_icmp_ge (u := k.toInt) (v := (6 * nn.toInt)) (tgt := 27) hx hb dX11_turns_10 (by decide) (rfl) (e_1) (fun c_2 => ?_) (fun c_2 => ?_)
      · have hSa : CellsX jn ga 0 (6 * nn.toInt) := ⟨fun i9 h8 h9 => cx_0 (by omega) (hz0 i9 h8 (by omega)), fun k9 h8 h9 _ => hz0 _ (by omega) (by omega)⟩
        have hZa : ZX jn ga 0 nn.toInt := fun b9 x9 b0 b1 x0 x1 => hz0 _ (by omega) (by omega)
        have hOa : what.toInt = 9 → ∀ k9 : Int, 0 ≤ k9 → 2 * k9 + 1 < 6 * nn.toInt → (ga (2 * k9 + 1).toNat).toInt = 0 := fun _ k9 h8 h9 => hz0 _ (by omega) (by omega)
        refine lv_iconst (v := 1) hx hb dX11_turns_27 (by decide) ?_
        refine lv_istore (lv' := [(5, .int 1), (0, .ref mm), (1, .int what), (2, .int dd), (3, .int fro), (4, .int nn)]) hx hb dX11_turns_28 hl (by decide) rfl (fun ls hl => ?_)
        refine lv_iconst (v := 0) hx hb dX11_turns_30 (by decide) ?_
        refine lv_istore (lv' := [(6, .int 0), (5, .int 1), (0, .ref mm), (1, .int what), (2, .int dd), (3, .int fro), (4, .int nn)]) hx hb dX11_turns_31 hl (by decide) rfl (fun ls hl => ?_)
        have loop33 : ∀ (ddloop33 : Nat) (gd : Int32) (i : Int32) (gb : (Nat → Int32)) (H : Heap) (locs : List Loc) (ls : Array Slot), (nn.toInt - i.toInt).toNat < ddloop33 → (gd.toInt = 0 ∨ gd.toInt = 1) → (0 ≤ i.toInt ∧ i.toInt ≤ nn.toInt) → (CellsX jn gb 0 (6 * nn.toInt)) → (ZX jn gb 0 nn.toInt) → (what.toInt = 9 → ∀ k9 : Int, 0 ≤ k9 → 2 * k9 + 1 < 6 * nn.toInt → (gb (2 * k9 + 1).toNat).toInt = 0) → (gd.toInt = 1 ∧ RS gb (tnW w9 fro.toInt nn.toInt dd.toInt (6 * i.toInt)) nn.toInt) → va_P D vwCl (mX mm q jn cI x0 x1 x2 x3 x4 x5 x6 x7 x8 x9 x10 x11 x12 x13 x14 x15 x16 x17 x18 x19 x20 f0 f1 f2 f3 f4 f5 f6 gb f8 f9 f10 f11 f12 f13 f14 f15 f16 f17 f18 f19 f20 f21 f22 f23 f24) H → va_D A (mX mm q jn cI x0 x1 x2 x3 x4 x5 x6 x7 x8 x9 x10 x11 x12 x13 x14 x15 x16 x17 x18 x19 x20 f0 f1 f2 f3 f4 f5 f6 gb f8 f9 f10 f11 f12 f13 f14 f15 f16 f17 f18 f19 f20 f21 f22 f23 f24) → va_S A s.heap H locs → lv_has ls 13 [(0, .ref mm), (1, .int what), (2, .int dd), (3, .int fro), (4, .int nn), (5, .int gd), (6, .int i)] → W p l e ({ frames := 2, cells := 0, slots := 0, locals := 47 }) s m args below meth c H locs 0 0 Q (F0 m 33 ls []) := by
          intro ddloop33
          induction ddloop33 with
          | zero =>
            intro gd i gb H locs ls hdd
            exact absurd hdd (Nat.not_lt_zero _)
          | succ ddloop33 ih33 =>
            intro gd i gb H locs ls hdd hgd hi9 hS1 hZ1 hO1 hB1 hP hD hS hl
            refine lv_iload hx hb dX11_turns_33 (lv_at hl 6 rfl) ?_
            refine lv_iload hx hb dX11_turns_35 (lv_at hl 4 rfl) ?_
            refine a_icmp_ge (u := i.toInt) (v := nn.toInt) (tgt := 308) hx hb dX11_turns_37 (by decide) (rfl) (rfl) (fun c_3 => ?_) (fun c_3 => ?_)
            · refine lv_iconst (v := 0) hx hb dX11_turns_308 (by decide) ?_
              refine lv_istore (lv' := [(6, .int 0), (0, .ref mm), (1, .int what), (2, .int dd), (3, .int fro), (4, .int nn), (5, .int gd)]) hx hb dX11_turns_309 hl (by decide) rfl (fun ls hl => ?_)
              have loop311 : ∀ (ddloop311 : Nat) (k2 : Int32) (gw : (Nat → Int32)) (H : Heap) (locs : List Loc) (ls : Array Slot), (6 * nn.toInt - k2.toInt).toNat < ddloop311 → (0 ≤ k2.toInt ∧ k2.toInt ≤ 6 * nn.toInt) → (∀ i9 : Int, 0 ≤ i9 → i9 < 6 * fro.toInt → gw i9.toNat = f3 i9.toNat) → (∀ i9 : Int, 0 ≤ i9 → i9 < k2.toInt → gw (6 * fro.toInt + i9).toNat = gb (0 + i9).toNat) → va_P D vwCl (mX mm q jn cI x0 x1 x2 x3 x4 x5 x6 x7 x8 x9 x10 x11 x12 x13 x14 x15 x16 x17 x18 x19 x20 f0 f1 f2 gw f4 f5 f6 gb f8 f9 f10 f11 f12 f13 f14 f15 f16 f17 f18 f19 f20 f21 f22 f23 f24) H → va_D A (mX mm q jn cI x0 x1 x2 x3 x4 x5 x6 x7 x8 x9 x10 x11 x12 x13 x14 x15 x16 x17 x18 x19 x20 f0 f1 f2 gw f4 f5 f6 gb f8 f9 f10 f11 f12 f13 f14 f15 f16 f17 f18 f19 f20 f21 f22 f23 f24) → va_S A s.heap H locs → lv_has ls 13 [(0, .ref mm), (1, .int what), (2, .int dd), (3, .int fro), (4, .int nn), (5, .int gd), (6, .int k2)] → W p l e ({ frames := 2, cells := 0, slots := 0, locals := 47 }) s m args below meth c H locs 0 0 Q (F0 m 311 ls []) := by
                intro ddloop311
                induction ddloop311 with
                | zero =>
                  intro k2 gw H locs ls hdd
                  exact absurd hdd (Nat.not_lt_zero _)
                | succ ddloop311 ih311 =>
                  intro k2 gw H locs ls hdd hk2 hga hgs hP hD hS hl
                  refine lv_iload hx hb dX11_turns_311 (lv_at hl 6 rfl) ?_
                  refine lv_bipush (v := 6) hx hb dX11_turns_313 (by decide) ?_
                  refine lv_iload hx hb dX11_turns_315 (lv_at hl 4 rfl) ?_
                  refine a_imul (u := 6) (v := nn.toInt) hx hb dX11_turns_317 (by decide) (rfl) (by omega) (fun z_4 e_4 => ?_)
                  refine a_icmp_ge (u := k2.toInt) (v := (6 * nn.toInt)) (tgt := 346) hx hb dX11_turns_318 (by decide) (rfl) (e_4) (fun c_5 => ?_) (fun c_5 => ?_)
                  · have hCn : CellsX jn gw 0 (6 * (fro.toInt + nn.toInt)) := cx_app (src := gb) (lo := 0) (cx_sub hC (by omega)) (by rw [show (0 : Int) + 6 * nn.toInt = 6 * nn.toInt by omega]; exact hS1) (by omega) (by omega) hga (fun i9 h8 h9 => hgs i9 h8 (by omega))
                    have hZn : ZX jn gw 0 (fro.toInt + nn.toInt) := zx_app (src := gb) (lo := 0) (fun b9 x9 b0 b1 x0 x1 => hZ0 b9 x9 b0 (by omega) x0 x1) hZ1 (by omega) hga (fun i9 h8 h9 => hgs i9 h8 (by omega))
                    refine lv_iload hx hb dX11_turns_346 (lv_at hl 5 rfl) ?_
                    exact g_zret (gd, gw, gb) hx hb hr hlocks hS (b01 (by omega)) rfl (⟨show gd.toInt = 0 ∨ gd.toInt = 1 from (by first | assumption | omega), show CellsX jn gw 0 (6 * (fro.toInt + nn.toInt)) from (hCn), show ZX jn gw 0 (fro.toInt + nn.toInt) from (hZn), show Hd ((gd.toInt = 1 ∧ ∃ v9, ChW what.toInt dd.toInt w9 fro.toInt nn.toInt v9 ∧ RS gw v9 (fro.toInt + nn.toInt)) ∨ (gd.toInt = 0 ∧ ChF what.toInt w9 fro.toInt nn.toInt)) from (by
                      obtain ⟨q1, q2⟩ := hB1
                      rw [show 6 * i.toInt = 6 * nn.toInt by omega] at q2
                      exact Or.inl ⟨q1, _, Or.inr (Or.inr (Or.inr (Or.inr ⟨hw9, rfl⟩))), RS_put hRW (tn_end (by omega) q2) (by omega) (by omega) hga (fun i9 h8 h9 => hgs i9 h8 (by omega))⟩)⟩) hP hD hQ (Nat.le_of_ble_eq_true rfl) (Nat.le_of_ble_eq_true rfl) dX11_turns_348
                  · refine lv_aload_n hx hb dX11_turns_321 rfl (lv_at hl 0 rfl) ?_
                    refine va_get (D := D) (ci := 11) (v := .ref (q 3)) (C := RX11) (T := TX11) (N := 47) hx hb hts (by decide +kernel) hown hK.1 hP 0 rfl rfl 14 (by decide) (hts (.fieldLink RX11 27 "JugglingHallModel" "work" "[I") (by decide +kernel)) (fun _ h9 => h9) rfl dX11_turns_322 ?_
                    refine lv_bipush (v := 6) hx hb dX11_turns_325 (by decide) ?_
                    refine lv_iload_n hx hb dX11_turns_327 rfl (lv_at hl 3 rfl) ?_
                    refine a_imul (u := 6) (v := fro.toInt) hx hb dX11_turns_328 (by decide) (rfl) (by omega) (fun z_6 e_6 => ?_)
                    refine lv_iload hx hb dX11_turns_329 (lv_at hl 6 rfl) ?_
                    refine a_iadd (u := (6 * fro.toInt)) (v := k2.toInt) hx hb dX11_turns_331 (e_6) (rfl) (by omega) (fun z_7 e_7 => ?_)
                    refine lv_aload_n hx hb dX11_turns_332 rfl (lv_at hl 0 rfl) ?_
                    refine va_get (D := D) (ci := 11) (v := .ref (q 7)) (C := RX11) (T := TX11) (N := 47) hx hb hts (by decide +kernel) hown hK.1 hP 0 rfl rfl 18 (by decide) (hts (.fieldLink RX11 39 "JugglingHallModel" "spare" "[I") (by decide +kernel)) (fun _ h9 => h9) rfl dX11_turns_333 ?_
                    refine lv_iload hx hb dX11_turns_336 (lv_at hl 6 rfl) ?_
                    refine a_iald (f := gb) (u := k2.toInt) hx hb hK.1 hP 8 0 rfl rfl dX11_turns_338 (rfl) (by omega) (fun z_8 q_8 e_8 => ?_)
                    refine ma_3 (u := ((6 * fro.toInt) + k2.toInt)) hx hb hK hP hD hS dX11_turns_339 (e_7) (by omega) (fun g_9 H locs eg_9 hP hD hS => ?_)
                    obtain ⟨z_10, q_10, e_10⟩ := i_inc (a := k2.toInt) (1) (rfl) (by decide) (by omega) (by omega)
                    refine lv_iinc (v := z_10) (lv' := [(6, .int z_10), (0, .ref mm), (1, .int what), (2, .int dd), (3, .int fro), (4, .int nn), (5, .int gd)]) hx hb dX11_turns_340 hl (k := 6) rfl q_10 (by decide) rfl (fun ls hl => ?_)
                    refine lv_goto (tgt := 311) hx hb dX11_turns_343 (by decide) ?_
                    exact ih311 z_10 g_9 _ _ _ (by omega) (by first | assumption | omega) (fun i9 h8 h9 => by rw [eg_9, un_i h8 (by omega) (by omega)]; exact hga i9 h8 h9) (fun i9 h8 h9 => by
                      by_cases q : i9 = k2.toInt
                      · rw [eg_9, q, show 6 * fro.toInt + k2.toInt = ((6 * fro.toInt) + k2.toInt) by omega, pk_us, q_8, show (0 : Int) + k2.toInt = k2.toInt by omega]
                      · rw [eg_9, un_i (by omega) (by omega) (by omega)]; exact hgs i9 h8 (by omega)) hP hD hS (lv_sub hl [1, 2, 3, 4, 5, 6, 0] rfl)
              have hz_11 : (0 : Int32).toInt = 0 := by decide
              exact loop311 ((6 * nn.toInt - (0 : Int32).toInt).toNat + 1) (0 : Int32) f3 _ _ _ (by omega) (by first | assumption | omega) (fun _ _ _ => rfl) (fun i9 h8 h9 => absurd h9 (by omega)) hP hD hS (lv_sub hl [1, 2, 3, 4, 5, 6, 0] rfl)
            · refine lv_iconst (v := 0) hx hb dX11_turns_40 (by decide) ?_
              refine lv_istore (lv' := [(7, .int 0), (0, .ref mm), (1, .int what), (2, .int dd), (3, .int fro), (4, .int nn), (5, .int gd), (6, .int i)]) hx hb dX11_turns_41 hl (by decide) rfl (fun ls hl => ?_)
              have loop43 : ∀ (ddloop43 : Nat) (ge : Int32) (x : Int32) (gc : (Nat → Int32)) (H : Heap) (locs : List Loc) (ls : Array Slot), (6 - x.toInt).toNat < ddloop43 → (ge.toInt = 0 ∨ ge.toInt = 1) → (0 ≤ x.toInt ∧ x.toInt ≤ 6) → (CellsX jn gc 0 (6 * nn.toInt)) → (ZX jn gc 0 nn.toInt) → (what.toInt = 9 → ∀ k9 : Int, 0 ≤ k9 → 2 * k9 + 1 < 6 * nn.toInt → (gc (2 * k9 + 1).toNat).toInt = 0) → (ge.toInt = 1 ∧ RS gc (tnW w9 fro.toInt nn.toInt dd.toInt (6 * i.toInt + x.toInt)) nn.toInt) → va_P D vwCl (mX mm q jn cI x0 x1 x2 x3 x4 x5 x6 x7 x8 x9 x10 x11 x12 x13 x14 x15 x16 x17 x18 x19 x20 f0 f1 f2 f3 f4 f5 f6 gc f8 f9 f10 f11 f12 f13 f14 f15 f16 f17 f18 f19 f20 f21 f22 f23 f24) H → va_D A (mX mm q jn cI x0 x1 x2 x3 x4 x5 x6 x7 x8 x9 x10 x11 x12 x13 x14 x15 x16 x17 x18 x19 x20 f0 f1 f2 f3 f4 f5 f6 gc f8 f9 f10 f11 f12 f13 f14 f15 f16 f17 f18 f19 f20 f21 f22 f23 f24) → va_S A s.heap H locs → lv_has ls 13 [(0, .ref mm), (1, .int what), (2, .int dd), (3, .int fro), (4, .int nn), (5, .int ge), (6, .int i), (7, .int x)] → W p l e ({ frames := 2, cells := 0, slots := 0, locals := 47 }) s m args below meth c H locs 0 0 Q (F0 m 43 ls []) := by
                intro ddloop43
                induction ddloop43 with
                | zero =>
                  intro ge x gc H locs ls hdd
                  exact absurd hdd (Nat.not_lt_zero _)
                | succ ddloop43 ih43 =>
                  intro ge x gc H locs ls hdd hge hx9 hS2 hZ2 hO2 hB2 hP hD hS hl
                  refine lv_iload hx hb dX11_turns_43 (lv_at hl 7 rfl) ?_
                  refine lv_bipush (v := 6) hx hb dX11_turns_45 (by decide) ?_
                  refine a_icmp_ge (u := x.toInt) (v := 6) (tgt := 302) hx hb dX11_turns_47 (by decide) (rfl) (by decide) (fun c_12 => ?_) (fun c_12 => ?_)
                  · obtain ⟨z_13, q_13, e_13⟩ := i_inc (a := i.toInt) (1) (rfl) (by decide) (by omega) (by omega)
                    refine lv_iinc (v := z_13) (lv' := [(6, .int z_13), (0, .ref mm), (1, .int what), (2, .int dd), (3, .int fro), (4, .int nn), (5, .int ge), (7, .int x)]) hx hb dX11_turns_302 hl (k := 6) rfl q_13 (by decide) rfl (fun ls hl => ?_)
                    refine lv_goto (tgt := 33) hx hb dX11_turns_305 (by decide) ?_
                    exact ih33 ge z_13 gc _ _ _ (by omega) (by first | assumption | omega) (by first | assumption | omega) (by first | assumption | omega) (by first | assumption | omega) (by first | assumption | omega) (by rw [show 6 * z_13.toInt = 6 * i.toInt + x.toInt by omega]; exact hB2) hP hD hS (lv_sub hl [1, 2, 3, 4, 5, 6, 0] rfl)
                  · refine lv_aload_n hx hb dX11_turns_50 rfl (lv_at hl 0 rfl) ?_
                    refine va_get (D := D) (ci := 11) (v := .ref (q 3)) (C := RX11) (T := TX11) (N := 47) hx hb hts (by decide +kernel) hown hK.1 hP 0 rfl rfl 14 (by decide) (hts (.fieldLink RX11 27 "JugglingHallModel" "work" "[I") (by decide +kernel)) (fun _ h9 => h9) rfl dX11_turns_51 ?_
                    refine lv_bipush (v := 6) hx hb dX11_turns_54 (by decide) ?_
                    refine lv_iload_n hx hb dX11_turns_56 rfl (lv_at hl 3 rfl) ?_
                    refine lv_iload hx hb dX11_turns_57 (lv_at hl 6 rfl) ?_
                    refine a_iadd (u := fro.toInt) (v := i.toInt) hx hb dX11_turns_59 (rfl) (rfl) (by omega) (fun z_14 e_14 => ?_)
                    refine a_imul (u := 6) (v := (fro.toInt + i.toInt)) hx hb dX11_turns_60 (by decide) (e_14) (by omega) (fun z_15 e_15 => ?_)
                    refine lv_iload hx hb dX11_turns_61 (lv_at hl 7 rfl) ?_
                    refine a_iadd (u := (6 * (fro.toInt + i.toInt))) (v := x.toInt) hx hb dX11_turns_63 (e_15) (rfl) (by omega) (fun z_16 e_16 => ?_)
                    refine a_iald (f := f3) (u := ((6 * (fro.toInt + i.toInt)) + x.toInt)) hx hb hK.1 hP 4 0 rfl rfl dX11_turns_64 (e_16) (by omega) (fun z_17 q_17 e_17 => ?_)
                    have hcv : CellX jn z_17 := by rw [q_17]; exact hC.1 _ (by omega) (by omega)
                    obtain ⟨hv1, hv2, hv3, hv4⟩ := hcv
                    have hvz : 2 * (jn : Int) ≤ x.toInt → z_17.toInt = 0 := fun h9 => by
                      have h8 := hZ0 (fro.toInt + i.toInt) x.toInt (by omega) (by omega) h9 (by omega)
                      rw [show 0 + 6 * (fro.toInt + i.toInt) + x.toInt = ((6 * (fro.toInt + i.toInt)) + x.toInt) by omega] at h8
                      rw [q_17]; exact h8
                    have hwx : x.toInt < 2 → z_17.toInt = 4 * w9 (2 * (fro.toInt + i.toInt) + x.toInt) := fun h9 => by
                      have h8 := hRW (2 * (fro.toInt + i.toInt) + x.toInt) (by omega) (by omega)
                      rw [show 6 * ((2 * (fro.toInt + i.toInt) + x.toInt) / 2) + (2 * (fro.toInt + i.toInt) + x.toInt) % 2 = ((6 * (fro.toInt + i.toInt)) + x.toInt) by omega] at h8
                      rw [q_17]; exact h8
                    refine lv_istore (lv' := [(8, .int z_17), (0, .ref mm), (1, .int what), (2, .int dd), (3, .int fro), (4, .int nn), (5, .int ge), (6, .int i), (7, .int x)]) hx hb dX11_turns_65 hl (by decide) rfl (fun ls hl => ?_)
                    refine lv_iload hx hb dX11_turns_67 (lv_at hl 8 rfl) ?_
                    refine lv_iconst (v := 2) hx hb dX11_turns_69 (by decide) ?_
                    refine a_idiv (u := x.toInt) (v := 2) hx hb dX11_turns_70 (rfl) (by decide) (by omega) (fun z_18 e_18 => ?_)
                    refine lv_istore (lv' := [(9, .int z_18), (8, .int z_17), (0, .ref mm), (1, .int what), (2, .int dd), (3, .int fro), (4, .int nn), (5, .int ge), (6, .int i), (7, .int x)]) hx hb dX11_turns_71 hl (by decide) rfl (fun ls hl => ?_)
                    refine lv_iload_n hx hb dX11_turns_73 rfl (lv_at hl 3 rfl) ?_
                    refine lv_bipush (v := 9) hx hb dX11_turns_74 (by decide) ?_
                    refine a_icmp_ne (u := what.toInt) (v := 9) (tgt := 95) hx hb dX11_turns_76 (by decide) (rfl) (by decide) (fun c_19 => ?_) (fun c_19 => absurd c_19 (by omega))
                    refine lv_iload_n hx hb dX11_turns_95 rfl (lv_at hl 3 rfl) ?_
                    refine lv_bipush (v := 9) hx hb dX11_turns_96 (by decide) ?_
                    refine a_icmp_ne (u := what.toInt) (v := 9) (tgt := 142) hx hb dX11_turns_98 (by decide) (rfl) (by decide) (fun c_20 => ?_) (fun c_20 => absurd c_20 (by omega))
                    refine lv_iload hx hb dX11_turns_142 (lv_at hl 1 rfl) ?_
                    refine a_if_le (u := z_17.toInt) (tgt := 296) hx hb dX11_turns_144 (by decide) (rfl) (fun c_21 => ?_) (fun c_21 => ?_)
                    · obtain ⟨z_22, q_22, e_22⟩ := i_inc (a := x.toInt) (1) (rfl) (by decide) (by omega) (by omega)
                      refine lv_iinc (v := z_22) (lv' := [(7, .int z_22), (9, .int z_18), (8, .int z_17), (0, .ref mm), (1, .int what), (2, .int dd), (3, .int fro), (4, .int nn), (5, .int ge), (6, .int i)]) hx hb dX11_turns_296 hl (k := 9) rfl q_22 (by decide) rfl (fun ls hl => ?_)
                      refine lv_goto (tgt := 43) hx hb dX11_turns_299 (by decide) ?_
                      exact ih43 ge z_22 gc _ _ _ (by omega) (by first | assumption | omega) (by first | assumption | omega) (by first | assumption | omega) (by first | assumption | omega) (by first | assumption | omega) (by
                        rw [show 6 * i.toInt + z_22.toInt = 6 * i.toInt + x.toInt + 1 by omega]
                        exact ⟨hB2.1, tn_z hB2.2 (by omega) (by omega) (by omega) (fun q => by have q9 := hwx q; omega)⟩) hP hD hS (lv_sub hl [3, 4, 5, 6, 7, 8, 9, 0] rfl)
                    · refine lv_iload_n hx hb dX11_turns_147 rfl (lv_at hl 3 rfl) ?_
                      refine lv_bipush (v := 7) hx hb dX11_turns_148 (by decide) ?_
                      refine a_icmp_ne (u := what.toInt) (v := 7) (tgt := 169) hx hb dX11_turns_150 (by decide) (rfl) (by decide) (fun c_23 => ?_) (fun c_23 => absurd c_23 (by omega))
                      refine lv_iload_n hx hb dX11_turns_169 rfl (lv_at hl 3 rfl) ?_
                      refine lv_bipush (v := 10) hx hb dX11_turns_170 (by decide) ?_
                      refine a_icmp_ne (u := what.toInt) (v := 10) (tgt := 187) hx hb dX11_turns_172 (by decide) (rfl) (by decide) (fun c_24 => absurd c_24 (by omega)) (fun c_24 => ?_)
                      refine lv_iload hx hb dX11_turns_175 (lv_at hl 8 rfl) ?_
                      refine lv_iload_n hx hb dX11_turns_177 rfl (lv_at hl 4 rfl) ?_
                      refine a_isub (u := i.toInt) (v := dd.toInt) hx hb dX11_turns_178 (rfl) (rfl) (by omega) (fun z_25 e_25 => ?_)
                      refine lv_iload hx hb dX11_turns_179 (lv_at hl 6 rfl) ?_
                      refine roP (va_runS (As := [.int z_25, .int nn]) (rest := []) ⟨hx, hb, hml, hown, hts⟩ (k_mod2 l D cI cR cM _  (by first | assumption | omega) (by first | assumption | omega)) (va_cwS 2 hts gX11_turns_X11_mod rfl rfl rfl (by decide +kernel) ⟨Nat.le_of_ble_eq_true rfl, Nat.le_of_ble_eq_true rfl⟩) (pre_S hK va_P_nil (va_D_nil (A := fun _ => True))) rfl rfl hl.1 rfl (lv_room (Nat.le_of_ble_eq_true rfl)) dX11_turns_181 ⟨Nat.le_of_ble_eq_true rfl, Nat.le_of_ble_eq_true rfl⟩) hS hA hP (fun r_26 H locs hw hP hS => ?_)
                      obtain ⟨h_26, hb_26⟩ : (r_26.toInt = z_25.toInt % nn.toInt) ∧ (0 ≤ r_26.toInt ∧ r_26.toInt < nn.toInt) := hw
                      have hbx : r_26.toInt = _ := h_26
                      refine lv_goto (tgt := 189) hx hb dX11_turns_184 (by decide) ?_
                      refine lv_istore (lv' := [(10, .int r_26), (9, .int z_18), (8, .int z_17), (0, .ref mm), (1, .int what), (2, .int dd), (3, .int fro), (4, .int nn), (5, .int ge), (6, .int i), (7, .int x)]) hx hb dX11_turns_189 hl (by decide) rfl (fun ls hl => ?_)
                      refine lv_iload_n hx hb dX11_turns_191 rfl (lv_at hl 4 rfl) ?_
                      refine lv_bipush (v := 7) hx hb dX11_turns_192 (by decide) ?_
                      refine a_icmp_ne (u := what.toInt) (v := 7) (tgt := 204) hx hb dX11_turns_194 (by decide) (rfl) (by decide) (fun c_27 => ?_) (fun c_27 => absurd c_27 (by omega))
                      refine lv_iload_n hx hb dX11_turns_204 rfl (lv_at hl 4 rfl) ?_
                      refine lv_bipush (v := 8) hx hb dX11_turns_205 (by decide) ?_
                      refine a_icmp_ne (u := what.toInt) (v := 8) (tgt := 222) hx hb dX11_turns_207 (by decide) (rfl) (by decide) (fun c_28 => ?_) (fun c_28 => absurd c_28 (by omega))
                      refine lv_iload hx hb dX11_turns_222 (lv_at hl 1 rfl) ?_
                      refine lv_istore (lv' := [(11, .int z_18), (10, .int r_26), (9, .int z_18), (8, .int z_17), (0, .ref mm), (1, .int what), (2, .int dd), (3, .int fro), (4, .int nn), (5, .int ge), (6, .int i), (7, .int x)]) hx hb dX11_turns_224 hl (by decide) rfl (fun ls hl => ?_)
                      refine lv_iload_n hx hb dX11_turns_226 rfl (lv_at hl 5 rfl) ?_
                      refine lv_bipush (v := 7) hx hb dX11_turns_227 (by decide) ?_
                      refine a_icmp_ne (u := what.toInt) (v := 7) (tgt := 237) hx hb dX11_turns_229 (by decide) (rfl) (by decide) (fun c_29 => ?_) (fun c_29 => absurd c_29 (by omega))
                      refine lv_iload_n hx hb dX11_turns_237 rfl (lv_at hl 5 rfl) ?_
                      refine lv_bipush (v := 8) hx hb dX11_turns_238 (by decide) ?_
                      refine a_icmp_ne (u := what.toInt) (v := 8) (tgt := 257) hx hb dX11_turns_240 (by decide) (rfl) (by decide) (fun c_30 => ?_) (fun c_30 => absurd c_30 (by omega))
                      refine lv_iload hx hb dX11_turns_257 (lv_at hl 3 rfl) ?_
                      refine lv_iconst (v := 4) hx hb dX11_turns_259 (by decide) ?_
                      refine a_irem (u := z_17.toInt) (v := 4) hx hb dX11_turns_260 (rfl) (by decide) (by omega) (fun z_31 e_31 h_31 k_31 => ?_)
                      refine lv_istore (lv' := [(12, .int z_31), (11, .int z_18), (10, .int r_26), (9, .int z_18), (8, .int z_17), (0, .ref mm), (1, .int what), (2, .int dd), (3, .int fro), (4, .int nn), (5, .int ge), (6, .int i), (7, .int x)]) hx hb dX11_turns_261 hl (by decide) rfl (fun ls hl => ?_)
                      refine lv_aload_n hx hb dX11_turns_263 rfl (lv_at hl 5 rfl) ?_
                      refine lv_iload hx hb dX11_turns_264 (lv_at hl 2 rfl) ?_
                      refine lv_iload hx hb dX11_turns_266 (lv_at hl 1 rfl) ?_
                      refine lv_iload hx hb dX11_turns_268 (lv_at hl 4 rfl) ?_
                      refine lv_iload hx hb dX11_turns_270 (lv_at hl 4 rfl) ?_
                      refine lv_iconst (v := 4) hx hb dX11_turns_272 (by decide) ?_
                      refine a_irem (u := z_17.toInt) (v := 4) hx hb dX11_turns_273 (rfl) (by decide) (by omega) (fun z_32 e_32 h_32 k_32 => ?_)
                      refine a_isub (u := z_17.toInt) (v := z_32.toInt) hx hb dX11_turns_274 (rfl) (rfl) (by omega) (fun z_33 e_33 => ?_)
                      refine lv_iload hx hb dX11_turns_275 (lv_at hl 0 rfl) ?_
                      refine a_iadd (u := (z_17.toInt - z_32.toInt)) (v := z_31.toInt) hx hb dX11_turns_277 (e_33) (rfl) (by omega) (fun z_34 e_34 => ?_)
                      have hwv := hwx (by omega)
                      have hbe : r_26.toInt = (i.toInt - dd.toInt) % nn.toInt := hbx.trans (by
                        first | rfl | exact congrArg (fun t9 : Int => t9 % nn.toInt) (by omega) | omega)
                      have hve : z_34.toInt / 4 = w9 (2 * (fro.toInt + i.toInt) + x.toInt) := by omega
                      refine call_g (wr := []) (va_runV (As := [.int r_26, .int z_18, .int z_34]) (rest := []) ⟨hx, hb, hml, hown, hts⟩ (k_comes3 l D cI cR cM _ (hi := 6 * nn.toInt) (m9 := nn.toInt) (s9 := tnW w9 fro.toInt nn.toInt dd.toInt (6 * i.toInt + x.toInt)) (by first | assumption | omega) (by first | assumption | omega) (by first | assumption | omega) (⟨by omega, by omega, by omega, by omega⟩) (hS2) (by first | assumption | omega) (by first | assumption | omega) (hB2.2) (rfl) (by omega)) (cwV 3 hts gX11_turns_X11_comes rfl rfl rfl (by decide +kernel) ⟨Nat.le_of_ble_eq_true rfl, Nat.le_of_ble_eq_true rfl⟩) (pre_V hK hP hD 0 11 rfl rfl) rfl rfl hl.1 rfl (lv_room (Nat.le_of_ble_eq_true rfl)) dX11_turns_278 ⟨Nat.le_of_ble_eq_true rfl, Nat.le_of_ble_eq_true rfl⟩) hP hD hS hA [0, 1, 2, 3, 4, 5, 6, 7, 8, 9, 10, 11, 12, 13, 14, 15, 16, 17, 18, 19, 20, 21, 22, 23, 24, 25] [] (by with_unfolding_all rfl) rfl (by decide) (by decide) (fun u_35 H locs hw hP hD hS => ?_)
                      obtain ⟨r_35, g7_35⟩ := u_35
                      have hP : va_P D vwCl (mX mm q jn cI x0 x1 x2 x3 x4 x5 x6 x7 x8 x9 x10 x11 x12 x13 x14 x15 x16 x17 x18 x19 x20 f0 f1 f2 f3 f4 f5 f6 g7_35 f8 f9 f10 f11 f12 f13 f14 f15 f16 f17 f18 f19 f20 f21 f22 f23 f24) H := hP
                      have hD : va_D A (mX mm q jn cI x0 x1 x2 x3 x4 x5 x6 x7 x8 x9 x10 x11 x12 x13 x14 x15 x16 x17 x18 x19 x20 f0 f1 f2 f3 f4 f5 f6 g7_35 f8 f9 f10 f11 f12 f13 f14 f15 f16 f17 f18 f19 f20 f21 f22 f23 f24) := hD
                      obtain ⟨h_35, hC_35, hz_35, hF_35⟩ : (r_35.toInt = 0 ∨ r_35.toInt = 1) ∧ (CellsX jn g7_35 0 (6 * nn.toInt)) ∧ (∀ i9 : Int, 0 ≤ i9 → i9 ≠ (6 * r_26.toInt + 2 * z_18.toInt) → i9 ≠ (6 * r_26.toInt + 2 * z_18.toInt) + 1 → g7_35 i9.toNat = gc i9.toNat) ∧ (Hd ((r_35.toInt = 1 ∧ ∃ u9, insW (tnW w9 fro.toInt nn.toInt dd.toInt (6 * i.toInt + x.toInt)) r_26.toInt (z_34.toInt / 4) = some u9 ∧ RS g7_35 u9 nn.toInt) ∨ (r_35.toInt = 0 ∧ insW (tnW w9 fro.toInt nn.toInt dd.toInt (6 * i.toInt + x.toInt)) r_26.toInt (z_34.toInt / 4) = none ∧ RS g7_35 (tnW w9 fro.toInt nn.toInt dd.toInt (6 * i.toInt + x.toInt)) nn.toInt))) := hw
                      have hZ3 : ZX jn g7_35 0 nn.toInt := fun b9 x9 b0 b1 x0 x1 => by rw [hz_35 _ (by omega) (by omega) (by omega)]; exact hZ2 b9 x9 b0 b1 x0 x1
                      have hO3 : what.toInt = 9 → ∀ k9 : Int, 0 ≤ k9 → 2 * k9 + 1 < 6 * nn.toInt → (g7_35 (2 * k9 + 1).toNat).toInt = 0 := fun h9 => absurd h9 (by omega)
                      refine a_if_eq (u := r_35.toInt) (tgt := 293) hx hb dX11_turns_281 (by decide) (rfl) (fun c_36 => ?_) (fun c_36 => ?_)
                      · refine lv_iconst (v := 0) hx hb dX11_turns_293 (by decide) ?_
                        refine lv_istore (lv' := [(5, .int 0), (12, .int z_31), (11, .int z_18), (10, .int r_26), (9, .int z_18), (8, .int z_17), (0, .ref mm), (1, .int what), (2, .int dd), (3, .int fro), (4, .int nn), (6, .int i), (7, .int x)]) hx hb dX11_turns_294 hl (by decide) rfl (fun ls hl => ?_)
                        obtain ⟨z_37, q_37, e_37⟩ := i_inc (a := x.toInt) (1) (rfl) (by decide) (by omega) (by omega)
                        refine lv_iinc (v := z_37) (lv' := [(7, .int z_37), (5, .int 0), (12, .int z_31), (11, .int z_18), (10, .int r_26), (9, .int z_18), (8, .int z_17), (0, .ref mm), (1, .int what), (2, .int dd), (3, .int fro), (4, .int nn), (6, .int i)]) hx hb dX11_turns_296 hl (k := 12) rfl q_37 (by decide) rfl (fun ls hl => ?_)
                        refine lv_goto (tgt := 43) hx hb dX11_turns_299 (by decide) ?_
                        have hz_38 : (0 : Int32).toInt = 0 := by decide
                        exact ih43 (0 : Int32) z_37 g7_35 _ _ _ (by omega) (by first | assumption | omega) (by first | assumption | omega) (by first | assumption | omega) (by first | assumption | omega) (by first | assumption | omega) (by
                          rw [show 6 * i.toInt + z_37.toInt = 6 * i.toInt + x.toInt + 1 by omega]
                          have hF9 : Hd ((r_35.toInt = 1 ∧ ∃ u9, insW (tnW w9 fro.toInt nn.toInt dd.toInt (6 * i.toInt + x.toInt)) ((i.toInt - dd.toInt) % nn.toInt) (w9 (2 * (fro.toInt + i.toInt) + x.toInt)) = some u9 ∧ RS g7_35 u9 nn.toInt) ∨ (r_35.toInt = 0 ∧ insW (tnW w9 fro.toInt nn.toInt dd.toInt (6 * i.toInt + x.toInt)) ((i.toInt - dd.toInt) % nn.toInt) (w9 (2 * (fro.toInt + i.toInt) + x.toInt)) = none ∧ RS g7_35 (tnW w9 fro.toInt nn.toInt dd.toInt (6 * i.toInt + x.toInt)) nn.toInt)) := by rw [← hbe, ← hve]; exact hF_35
                          rcases hF9 with ⟨t1, u9, t2, t3⟩ | ⟨t1, t2, t3⟩
                          · first | exact ⟨by omega, tn_i (by omega) (by omega) (by omega) (by omega) (by omega) (by omega) (hSo _ (by omega) (by omega)) t2 t3⟩ | (exfalso; have q9 := hB2.1; omega)
                          · exact absurd t2 (tn_ok (by omega) (by omega) (by omega) (by omega) (by omega))) hP hD hS (lv_sub hl [7, 8, 9, 10, 11, 1, 12, 0] rfl)
                      · refine lv_iload hx hb dX11_turns_284 (lv_at hl 10 rfl) ?_
                        refine a_if_eq (u := ge.toInt) (tgt := 293) hx hb dX11_turns_286 (by decide) (rfl) (fun c_39 => ?_) (fun c_39 => ?_)
                        · refine lv_iconst (v := 0) hx hb dX11_turns_293 (by decide) ?_
                          refine lv_istore (lv' := [(5, .int 0), (12, .int z_31), (11, .int z_18), (10, .int r_26), (9, .int z_18), (8, .int z_17), (0, .ref mm), (1, .int what), (2, .int dd), (3, .int fro), (4, .int nn), (6, .int i), (7, .int x)]) hx hb dX11_turns_294 hl (by decide) rfl (fun ls hl => ?_)
                          obtain ⟨z_40, q_40, e_40⟩ := i_inc (a := x.toInt) (1) (rfl) (by decide) (by omega) (by omega)
                          refine lv_iinc (v := z_40) (lv' := [(7, .int z_40), (5, .int 0), (12, .int z_31), (11, .int z_18), (10, .int r_26), (9, .int z_18), (8, .int z_17), (0, .ref mm), (1, .int what), (2, .int dd), (3, .int fro), (4, .int nn), (6, .int i)]) hx hb dX11_turns_296 hl (k := 12) rfl q_40 (by decide) rfl (fun ls hl => ?_)
                          refine lv_goto (tgt := 43) hx hb dX11_turns_299 (by decide) ?_
                          have hz_41 : (0 : Int32).toInt = 0 := by decide
                          exact ih43 (0 : Int32) z_40 g7_35 _ _ _ (by omega) (by first | assumption | omega) (by first | assumption | omega) (by first | assumption | omega) (by first | assumption | omega) (by first | assumption | omega) (by
                            rw [show 6 * i.toInt + z_40.toInt = 6 * i.toInt + x.toInt + 1 by omega]
                            have hF9 : Hd ((r_35.toInt = 1 ∧ ∃ u9, insW (tnW w9 fro.toInt nn.toInt dd.toInt (6 * i.toInt + x.toInt)) ((i.toInt - dd.toInt) % nn.toInt) (w9 (2 * (fro.toInt + i.toInt) + x.toInt)) = some u9 ∧ RS g7_35 u9 nn.toInt) ∨ (r_35.toInt = 0 ∧ insW (tnW w9 fro.toInt nn.toInt dd.toInt (6 * i.toInt + x.toInt)) ((i.toInt - dd.toInt) % nn.toInt) (w9 (2 * (fro.toInt + i.toInt) + x.toInt)) = none ∧ RS g7_35 (tnW w9 fro.toInt nn.toInt dd.toInt (6 * i.toInt + x.toInt)) nn.toInt)) := by rw [← hbe, ← hve]; exact hF_35
                            rcases hF9 with ⟨t1, u9, t2, t3⟩ | ⟨t1, t2, t3⟩
                            · first | exact ⟨by omega, tn_i (by omega) (by omega) (by omega) (by omega) (by omega) (by omega) (hSo _ (by omega) (by omega)) t2 t3⟩ | (exfalso; have q9 := hB2.1; omega)
                            · exact absurd t2 (tn_ok (by omega) (by omega) (by omega) (by omega) (by omega))) hP hD hS (lv_sub hl [7, 8, 9, 10, 11, 1, 12, 0] rfl)
                        · refine lv_iconst (v := 1) hx hb dX11_turns_289 (by decide) ?_
                          refine lv_goto (tgt := 294) hx hb dX11_turns_290 (by decide) ?_
                          refine lv_istore (lv' := [(5, .int 1), (12, .int z_31), (11, .int z_18), (10, .int r_26), (9, .int z_18), (8, .int z_17), (0, .ref mm), (1, .int what), (2, .int dd), (3, .int fro), (4, .int nn), (6, .int i), (7, .int x)]) hx hb dX11_turns_294 hl (by decide) rfl (fun ls hl => ?_)
                          obtain ⟨z_42, q_42, e_42⟩ := i_inc (a := x.toInt) (1) (rfl) (by decide) (by omega) (by omega)
                          refine lv_iinc (v := z_42) (lv' := [(7, .int z_42), (5, .int 1), (12, .int z_31), (11, .int z_18), (10, .int r_26), (9, .int z_18), (8, .int z_17), (0, .ref mm), (1, .int what), (2, .int dd), (3, .int fro), (4, .int nn), (6, .int i)]) hx hb dX11_turns_296 hl (k := 12) rfl q_42 (by decide) rfl (fun ls hl => ?_)
                          refine lv_goto (tgt := 43) hx hb dX11_turns_299 (by decide) ?_
                          have hz_43 : (1 : Int32).toInt = 1 := by decide
                          exact ih43 (1 : Int32) z_42 g7_35 _ _ _ (by omega) (by first | assumption | omega) (by first | assumption | omega) (by first | assumption | omega) (by first | assumption | omega) (by first | assumption | omega) (by
                            rw [show 6 * i.toInt + z_42.toInt = 6 * i.toInt + x.toInt + 1 by omega]
                            have hF9 : Hd ((r_35.toInt = 1 ∧ ∃ u9, insW (tnW w9 fro.toInt nn.toInt dd.toInt (6 * i.toInt + x.toInt)) ((i.toInt - dd.toInt) % nn.toInt) (w9 (2 * (fro.toInt + i.toInt) + x.toInt)) = some u9 ∧ RS g7_35 u9 nn.toInt) ∨ (r_35.toInt = 0 ∧ insW (tnW w9 fro.toInt nn.toInt dd.toInt (6 * i.toInt + x.toInt)) ((i.toInt - dd.toInt) % nn.toInt) (w9 (2 * (fro.toInt + i.toInt) + x.toInt)) = none ∧ RS g7_35 (tnW w9 fro.toInt nn.toInt dd.toInt (6 * i.toInt + x.toInt)) nn.toInt)) := by rw [← hbe, ← hve]; exact hF_35
                            rcases hF9 with ⟨t1, u9, t2, t3⟩ | ⟨t1, t2, t3⟩
                            · first | exact ⟨by omega, tn_i (by omega) (by omega) (by omega) (by omega) (by omega) (by omega) (hSo _ (by omega) (by omega)) t2 t3⟩ | (exfalso; have q9 := hB2.1; omega)
                            · exact absurd t2 (tn_ok (by omega) (by omega) (by omega) (by omega) (by omega))) hP hD hS (lv_sub hl [7, 8, 9, 10, 11, 1, 12, 0] rfl)
              have hz_44 : (0 : Int32).toInt = 0 := by decide
              exact loop43 ((6 - (0 : Int32).toInt).toNat + 1) gd (0 : Int32) gb _ _ _ (by omega) (by first | assumption | omega) (by first | assumption | omega) (by first | assumption | omega) (by first | assumption | omega) (by first | assumption | omega) (by rw [z32, Int.add_zero]; exact hB1) hP hD hS (lv_sub hl [1, 2, 3, 4, 5, 6, 7, 0] rfl)
        have hz_45 : (1 : Int32).toInt = 1 := by decide
        have hz_46 : (0 : Int32).toInt = 0 := by decide
        exact loop33 ((nn.toInt - (0 : Int32).toInt).toNat + 1) (1 : Int32) (0 : Int32) ga _ _ _ (by omega) (by first | assumption | omega) (by first | assumption | omega) (by first | assumption | omega) (by first | assumption | omega) (by first | assumption | omega) (⟨by decide, fun c9 h8 h9 => by
          rw [hz0 _ (by omega) (by omega), z32]
          have q9 := Int.emod_nonneg (c9 / 2 + dd.toInt) (show nn.toInt ≠ 0 by omega)
          unfold tnW
          rw [if_neg (by omega)]; rfl⟩) hP hD hS (lv_sub hl [2, 3, 4, 5, 6, 1, 0] rfl)
      · refine lv_aload_n hx hb dX11_turns_13 rfl (lv_at hl 0 rfl) ?_
        refine va_get (D := D) (ci := 11) (v := .ref (q 7)) (C := RX11) (T := TX11) (N := 47) hx hb hts (by decide +kernel) hown hK.1 hP 0 rfl rfl 18 (by decide) (hts (.fieldLink RX11 39 "JugglingHallModel" "spare" "[I") (by decide +kernel)) (fun _ h9 => h9) rfl dX11_turns_14 ?_
        refine lv_iload hx hb dX11_turns_17 (lv_at hl 5 rfl) ?_
        refine lv_iconst (v := 0) hx hb dX11_turns_19 (by decide) ?_
        refine ma_7 (u := k.toInt) hx hb hK hP hD hS dX11_turns_20 (rfl) (by omega) (fun g_47 H locs eg_47 hP hD hS => ?_)
        obtain ⟨z_48, q_48, e_48⟩ := i_inc (a := k.toInt) (1) (rfl) (by decide) (by omega) (by omega)
        refine lv_iinc (v := z_48) (lv' := [(5, .int z_48), (0, .ref mm), (1, .int what), (2, .int dd), (3, .int fro), (4, .int nn)]) hx hb dX11_turns_21 hl (k := 5) rfl q_48 (by decide) rfl (fun ls hl => ?_)
        refine lv_goto (tgt := 3) hx hb dX11_turns_24 (by decide) ?_
        exact ih3 z_48 g_47 _ _ _ (by omega) (by first | assumption | omega) (fun i9 h8 h9 => by
          by_cases q : i9 = k.toInt
          · rw [eg_47, q, pk_us]; decide
          · rw [eg_47, un_i (by omega) (by omega) (by omega)]; exact hz0 i9 h8 (by omega)) hP hD hS (lv_sub hl [1, 2, 3, 4, 5, 0] rfl)
  have hz_49 : (0 : Int32).toInt = 0 := by decide
  exact loop3 ((6 * nn.toInt - (0 : Int32).toInt).toNat + 1) (0 : Int32) f7 _ _ _ (by omega) (by first | assumption | omega) (fun i9 h8 h9 => absurd h9 (by omega)) hP hD hS (lv_sub hl [1, 2, 3, 4, 5, 0] rfl)
set_option maxRecDepth 100000 in
set_option maxHeartbeats 4000000 in
theorem k_turns_9 (l : Launch) (D : va_G) (cI cR cM : ClassId) (sz : Nat) {jn mm : Nat} {q : Nat → Nat} {x0 x1 x2 x3 x4 x5 x6 x7 x8 x9 x10 x11 x12 x13 x14 x15 x16 x17 x18 x19 x20 : Int32} {f0 f1 f2 f3 f4 f5 f6 f7 f8 f9 f10 f11 f12 f13 f14 f15 f16 f17 f18 f19 f20 f21 f22 f23 f24 : Nat → Int32} {what dd fro nn : Int32} {w9 : Int → Int} (hj : 1 ≤ jn ∧ jn ≤ 3) (hw : 7 ≤ what.toInt ∧ what.toInt ≤ 10) (hd : 0 ≤ dd.toInt ∧ dd.toInt ≤ 9) (hf : 0 ≤ fro.toInt ∧ 0 ≤ nn.toInt ∧ nn.toInt ≤ 24 ∧ fro.toInt + nn.toInt ≤ 150) (hC : CellsX jn f3 0 (6 * (fro.toInt + nn.toInt))) (hZ0 : ZX jn f3 0 (fro.toInt + nn.toInt)) (hw9 : what.toInt = 9) (hj1 : jn = 1) (hRW : RS f3 w9 (fro.toInt + nn.toInt)) (hnn : 0 < nn.toInt) (hpl : plW w9 fro.toInt nn.toInt) : Met l yX11_turns wsX11_turns ({ frames := 2, cells := 0, slots := 0, locals := 47 }) (P0 D cI cR cM [.ref mm, .int what, .int dd, .int fro, .int nn] sz (mX mm q jn cI x0 x1 x2 x3 x4 x5 x6 x7 x8 x9 x10 x11 x12 x13 x14 x15 x16 x17 x18 x19 x20 f0 f1 f2 f3 f4 f5 f6 f7 f8 f9 f10 f11 f12 f13 f14 f15 f16 f17 f18 f19 f20 f21 f22 f23 f24)) (QG (S := Int32 × (Nat → Int32) × (Nat → Int32)) (fun u => some (.int u.1)) (fun u => mX mm q jn cI x0 x1 x2 x3 x4 x5 x6 x7 x8 x9 x10 x11 x12 x13 x14 x15 x16 x17 x18 x19 x20 f0 f1 f2 (u.2.1) f4 f5 f6 (u.2.2) f8 f9 f10 f11 f12 f13 f14 f15 f16 f17 f18 f19 f20 f21 f22 f23 f24) (fun u => (u.1.toInt = 0 ∨ u.1.toInt = 1) ∧ (CellsX jn u.2.1 0 (6 * (fro.toInt + nn.toInt))) ∧ (ZX jn u.2.1 0 (fro.toInt + nn.toInt)) ∧ (Hd ((u.1.toInt = 1 ∧ ∃ v9, ChW what.toInt dd.toInt w9 fro.toInt nn.toInt v9 ∧ RS u.2.1 v9 (fro.toInt + nn.toInt)) ∨ (u.1.toInt = 0 ∧ ChF what.toInt w9 fro.toInt nn.toInt)))) D (va_A (mX mm q jn cI x0 x1 x2 x3 x4 x5 x6 x7 x8 x9 x10 x11 x12 x13 x14 x15 x16 x17 x18 x19 x20 f0 f1 f2 f3 f4 f5 f6 f7 f8 f9 f10 f11 f12 f13 f14 f15 f16 f17 f18 f19 f20 f21 f22 f23 f24) sz)) 0 0 (va_A (mX mm q jn cI x0 x1 x2 x3 x4 x5 x6 x7 x8 x9 x10 x11 x12 x13 x14 x15 x16 x17 x18 x19 x20 f0 f1 f2 f3 f4 f5 f6 f7 f8 f9 f10 f11 f12 f13 f14 f15 f16 f17 f18 f19 f20 f21 f22 f23 f24) sz) := by
  refine go (cc := cX11_turns) (maxL := 13) (ret := (some .boolean)) (by decide) rfl (Nat.le_of_ble_eq_true rfl) ?_
  intro p e s m below meth c ls args Q hQ hsz hx hb hr hml hts hown hlocks hnm hP hK hD hl
  subst hsz
  have hD := hD.self (sz := s.heap.size)
  generalize hAe : va_A (mX mm q jn cI x0 x1 x2 x3 x4 x5 x6 x7 x8 x9 x10 x11 x12 x13 x14 x15 x16 x17 x18 x19 x20 f0 f1 f2 f3 f4 f5 f6 f7 f8 f9 f10 f11 f12 f13 f14 f15 f16 f17 f18 f19 f20 f21 f22 f23 f24) s.heap.size = A at hD hQ
  have hA : ∀ q, s.heap.size ≤ q → A q := fun q h => by rw [← hAe]; exact Or.inr h
  have hS : va_S A s.heap s.heap [] := va_S.rf
  have hl : lv_has ls 13 [(0, .ref mm), (1, .int what), (2, .int dd), (3, .int fro), (4, .int nn)] := hl
  refine lv_iconst (v := 0) hx hb dX11_turns_0 (by decide) ?_
  refine lv_istore (lv' := [(5, .int 0), (0, .ref mm), (1, .int what), (2, .int dd), (3, .int fro), (4, .int nn)]) hx hb dX11_turns_1 hl (by decide) rfl (fun ls hl => ?_)
  have loop3 : ∀ (ddloop3 : Nat) (k : Int32) (ga : (Nat → Int32)) (H : Heap) (locs : List Loc) (ls : Array Slot), (6 * nn.toInt - k.toInt).toNat < ddloop3 → (0 ≤ k.toInt ∧ k.toInt ≤ 6 * nn.toInt) → (∀ i9 : Int, 0 ≤ i9 → i9 < k.toInt → (ga i9.toNat).toInt = 0) → va_P D vwCl (mX mm q jn cI x0 x1 x2 x3 x4 x5 x6 x7 x8 x9 x10 x11 x12 x13 x14 x15 x16 x17 x18 x19 x20 f0 f1 f2 f3 f4 f5 f6 ga f8 f9 f10 f11 f12 f13 f14 f15 f16 f17 f18 f19 f20 f21 f22 f23 f24) H → va_D A (mX mm q jn cI x0 x1 x2 x3 x4 x5 x6 x7 x8 x9 x10 x11 x12 x13 x14 x15 x16 x17 x18 x19 x20 f0 f1 f2 f3 f4 f5 f6 ga f8 f9 f10 f11 f12 f13 f14 f15 f16 f17 f18 f19 f20 f21 f22 f23 f24) → va_S A s.heap H locs → lv_has ls 13 [(0, .ref mm), (1, .int what), (2, .int dd), (3, .int fro), (4, .int nn), (5, .int k)] → W p l e ({ frames := 2, cells := 0, slots := 0, locals := 47 }) s m args below meth c H locs 0 0 Q (F0 m 3 ls []) := by
    intro ddloop3
    induction ddloop3 with
    | zero =>
      intro k ga H locs ls hdd
      exact absurd hdd (Nat.not_lt_zero _)
    | succ ddloop3 ih3 =>
      intro k ga H locs ls hdd hk hz0 hP hD hS hl
      refine lv_iload hx hb dX11_turns_3 (lv_at hl 5 rfl) ?_
      refine lv_bipush (v := 6) hx hb dX11_turns_5 (by decide) ?_
      refine lv_iload hx hb dX11_turns_7 (lv_at hl 4 rfl) ?_
      refine a_imul (u := 6) (v := nn.toInt) hx hb dX11_turns_9 (by decide) (rfl) (by omega) (fun z_1 e_1 => ?_)
      refine a_icmp_ge (u := k.toInt) (v := (6 * nn.toInt)) (tgt := 27) hx hb dX11_turns_10 (by decide) (rfl) (e_1) (fun c_2 => ?_) (fun c_2 => ?_)
      · have hSa : CellsX jn ga 0 (6 * nn.toInt) := ⟨fun i9 h8 h9 => cx_0 (by omega) (hz0 i9 h8 (by omega)), fun k9 h8 h9 _ => hz0 _ (by omega) (by omega)⟩
        have hZa : ZX jn ga 0 nn.toInt := fun b9 x9 b0 b1 x0 x1 => hz0 _ (by omega) (by omega)
        have hOa : what.toInt = 9 → ∀ k9 : Int, 0 ≤ k9 → 2 * k9 + 1 < 6 * nn.toInt → (ga (2 * k9 + 1).toNat).toInt = 0 := fun _ k9 h8 h9 => hz0 _ (by omega) (by omega)
        refine lv_iconst (v := 1) hx hb dX11_turns_27 (by decide) ?_
        refine lv_istore (lv' := [(5, .int 1), (0, .ref mm), (1, .int what), (2, .int dd), (3, .int fro), (4, .int nn)]) hx hb dX11_turns_28 hl (by decide) rfl (fun ls hl => ?_)
        refine lv_iconst (v := 0) hx hb dX11_turns_30 (by decide) ?_
        refine lv_istore (lv' := [(6, .int 0), (5, .int 1), (0, .ref mm), (1, .int what), (2, .int dd), (3, .int fro), (4, .int nn)]) hx hb dX11_turns_31 hl (by decide) rfl (fun ls hl => ?_)
        have loop33 : ∀ (ddloop33 : Nat) (gd : Int32) (i : Int32) (gb : (Nat → Int32)) (H : Heap) (locs : List Loc) (ls : Array Slot), (nn.toInt - i.toInt).toNat < ddloop33 → (gd.toInt = 0 ∨ gd.toInt = 1) → (0 ≤ i.toInt ∧ i.toInt ≤ nn.toInt) → (CellsX jn gb 0 (6 * nn.toInt)) → (ZX jn gb 0 nn.toInt) → (what.toInt = 9 → ∀ k9 : Int, 0 ≤ k9 → 2 * k9 + 1 < 6 * nn.toInt → (gb (2 * k9 + 1).toNat).toInt = 0) → (gd.toInt = 1 ∧ RS gb (dlW w9 fro.toInt nn.toInt (6 * i.toInt)) nn.toInt) → va_P D vwCl (mX mm q jn cI x0 x1 x2 x3 x4 x5 x6 x7 x8 x9 x10 x11 x12 x13 x14 x15 x16 x17 x18 x19 x20 f0 f1 f2 f3 f4 f5 f6 gb f8 f9 f10 f11 f12 f13 f14 f15 f16 f17 f18 f19 f20 f21 f22 f23 f24) H → va_D A (mX mm q jn cI x0 x1 x2 x3 x4 x5 x6 x7 x8 x9 x10 x11 x12 x13 x14 x15 x16 x17 x18 x19 x20 f0 f1 f2 f3 f4 f5 f6 gb f8 f9 f10 f11 f12 f13 f14 f15 f16 f17 f18 f19 f20 f21 f22 f23 f24) → va_S A s.heap H locs → lv_has ls 13 [(0, .ref mm), (1, .int what), (2, .int dd), (3, .int fro), (4, .int nn), (5, .int gd), (6, .int i)] → W p l e ({ frames := 2, cells := 0, slots := 0, locals := 47 }) s m args below meth c H locs 0 0 Q (F0 m 33 ls []) := by
          intro ddloop33
          induction ddloop33 with
          | zero =>
            intro gd i gb H locs ls hdd
            exact absurd hdd (Nat.not_lt_zero _)
          | succ ddloop33 ih33 =>
            intro gd i gb H locs ls hdd hgd hi9 hS1 hZ1 hO1 hB1 hP hD hS hl
            refine lv_iload hx hb dX11_turns_33 (lv_at hl 6 rfl) ?_
            refine lv_iload hx hb dX11_turns_35 (lv_at hl 4 rfl) ?_
            refine a_icmp_ge (u := i.toInt) (v := nn.toInt) (tgt := 308) hx hb dX11_turns_37 (by decide) (rfl) (rfl) (fun c_3 => ?_) (fun c_3 => ?_)
            · refine lv_iconst (v := 0) hx hb dX11_turns_308 (by decide) ?_
              refine lv_istore (lv' := [(6, .int 0), (0, .ref mm), (1, .int what), (2, .int dd), (3, .int fro), (4, .int nn), (5, .int gd)]) hx hb dX11_turns_309 hl (by decide) rfl (fun ls hl => ?_)
              have loop311 : ∀ (ddloop311 : Nat) (k2 : Int32) (gw : (Nat → Int32)) (H : Heap) (locs : List Loc) (ls : Array Slot), (6 * nn.toInt - k2.toInt).toNat < ddloop311 → (0 ≤ k2.toInt ∧ k2.toInt ≤ 6 * nn.toInt) → (∀ i9 : Int, 0 ≤ i9 → i9 < 6 * fro.toInt → gw i9.toNat = f3 i9.toNat) → (∀ i9 : Int, 0 ≤ i9 → i9 < k2.toInt → gw (6 * fro.toInt + i9).toNat = gb (0 + i9).toNat) → va_P D vwCl (mX mm q jn cI x0 x1 x2 x3 x4 x5 x6 x7 x8 x9 x10 x11 x12 x13 x14 x15 x16 x17 x18 x19 x20 f0 f1 f2 gw f4 f5 f6 gb f8 f9 f10 f11 f12 f13 f14 f15 f16 f17 f18 f19 f20 f21 f22 f23 f24) H → va_D A (mX mm q jn cI x0 x1 x2 x3 x4 x5 x6 x7 x8 x9 x10 x11 x12 x13 x14 x15 x16 x17 x18 x19 x20 f0 f1 f2 gw f4 f5 f6 gb f8 f9 f10 f11 f12 f13 f14 f15 f16 f17 f18 f19 f20 f21 f22 f23 f24) → va_S A s.heap H locs → lv_has ls 13 [(0, .ref mm), (1, .int what), (2, .int dd), (3, .int fro), (4, .int nn), (5, .int gd), (6, .int k2)] → W p l e ({ frames := 2, cells := 0, slots := 0, locals := 47 }) s m args below meth c H locs 0 0 Q (F0 m 311 ls []) := by
                intro ddloop311
                induction ddloop311 with
                | zero =>
                  intro k2 gw H locs ls hdd
                  exact absurd hdd (Nat.not_lt_zero _)
                | succ ddloop311 ih311 =>
                  intro k2 gw H locs ls hdd hk2 hga hgs hP hD hS hl
                  refine lv_iload hx hb dX11_turns_311 (lv_at hl 6 rfl) ?_
                  refine lv_bipush (v := 6) hx hb dX11_turns_313 (by decide) ?_
                  refine lv_iload hx hb dX11_turns_315 (lv_at hl 4 rfl) ?_
                  refine a_imul (u := 6) (v := nn.toInt) hx hb dX11_turns_317 (by decide) (rfl) (by omega) (fun z_4 e_4 => ?_)
                  refine a_icmp_ge (u := k2.toInt) (v := (6 * nn.toInt)) (tgt := 346) hx hb dX11_turns_318 (by decide) (rfl) (e_4) (fun c_5 => ?_) (fun c_5 => ?_)
                  · have hCn : CellsX jn gw 0 (6 * (fro.toInt + nn.toInt)) := cx_app (src := gb) (lo := 0) (cx_sub hC (by omega)) (by rw [show (0 : Int) + 6 * nn.toInt = 6 * nn.toInt by omega]; exact hS1) (by omega) (by omega) hga (fun i9 h8 h9 => hgs i9 h8 (by omega))
                    have hZn : ZX jn gw 0 (fro.toInt + nn.toInt) := zx_app (src := gb) (lo := 0) (fun b9 x9 b0 b1 x0 x1 => hZ0 b9 x9 b0 (by omega) x0 x1) hZ1 (by omega) hga (fun i9 h8 h9 => hgs i9 h8 (by omega))
                    refine lv_iload hx hb dX11_turns_346 (lv_at hl 5 rfl) ?_
                    exact g_zret (gd, gw, gb) hx hb hr hlocks hS (b01 (by omega)) rfl (⟨show gd.toInt = 0 ∨ gd.toInt = 1 from (by first | assumption | omega), show CellsX jn gw 0 (6 * (fro.toInt + nn.toInt)) from (hCn), show ZX jn gw 0 (fro.toInt + nn.toInt) from (hZn), show Hd ((gd.toInt = 1 ∧ ∃ v9, ChW what.toInt dd.toInt w9 fro.toInt nn.toInt v9 ∧ RS gw v9 (fro.toInt + nn.toInt)) ∨ (gd.toInt = 0 ∧ ChF what.toInt w9 fro.toInt nn.toInt)) from (by
                      obtain ⟨q1, q2⟩ := hB1
                      rw [show 6 * i.toInt = 6 * nn.toInt by omega] at q2
                      exact Or.inl ⟨q1, _, Or.inr (Or.inr (Or.inr (Or.inl ⟨hw9, hpl, rfl⟩))), RS_put hRW (dl_end (by omega) q2) (by omega) (by omega) hga (fun i9 h8 h9 => hgs i9 h8 (by omega))⟩)⟩) hP hD hQ (Nat.le_of_ble_eq_true rfl) (Nat.le_of_ble_eq_true rfl) dX11_turns_348
                  · refine lv_aload_n hx hb dX11_turns_321 rfl (lv_at hl 0 rfl) ?_
                    refine va_get (D := D) (ci := 11) (v := .ref (q 3)) (C := RX11) (T := TX11) (N := 47) hx hb hts (by decide +kernel) hown hK.1 hP 0 rfl rfl 14 (by decide) (hts (.fieldLink RX11 27 "JugglingHallModel" "work" "[I") (by decide +kernel)) (fun _ h9 => h9) rfl dX11_turns_322 ?_
                    refine lv_bipush (v := 6) hx hb dX11_turns_325 (by decide) ?_
                    refine lv_iload_n hx hb dX11_turns_327 rfl (lv_at hl 3 rfl) ?_
                    refine a_imul (u := 6) (v := fro.toInt) hx hb dX11_turns_328 (by decide) (rfl) (by omega) (fun z_6 e_6 => ?_)
                    refine lv_iload hx hb dX11_turns_329 (lv_at hl 6 rfl) ?_
                    refine a_iadd (u := (6 * fro.toInt)) (v := k2.toInt) hx hb dX11_turns_331 (e_6) (rfl) (by omega) (fun z_7 e_7 => ?_)
                    refine lv_aload_n hx hb dX11_turns_332 rfl (lv_at hl 0 rfl) ?_
                    refine va_get (D := D) (ci := 11) (v := .ref (q 7)) (C := RX11) (T := TX11) (N := 47) hx hb hts (by decide +kernel) hown hK.1 hP 0 rfl rfl 18 (by decide) (hts (.fieldLink RX11 39 "JugglingHallModel" "spare" "[I") (by decide +kernel)) (fun _ h9 => h9) rfl dX11_turns_333 ?_
                    refine lv_iload hx hb dX11_turns_336 (lv_at hl 6 rfl) ?_
                    refine a_iald (f := gb) (u := k2.toInt) hx hb hK.1 hP 8 0 rfl rfl dX11_turns_338 (rfl) (by omega) (fun z_8 q_8 e_8 => ?_)
                    refine ma_3 (u := ((6 * fro.toInt) + k2.toInt)) hx hb hK hP hD hS dX11_turns_339 (e_7) (by omega) (fun g_9 H locs eg_9 hP hD hS => ?_)
                    obtain ⟨z_10, q_10, e_10⟩ := i_inc (a := k2.toInt) (1) (rfl) (by decide) (by omega) (by omega)
                    refine lv_iinc (v := z_10) (lv' := [(6, .int z_10), (0, .ref mm), (1, .int what), (2, .int dd), (3, .int fro), (4, .int nn), (5, .int gd)]) hx hb dX11_turns_340 hl (k := 6) rfl q_10 (by decide) rfl (fun ls hl => ?_)
                    refine lv_goto (tgt := 311) hx hb dX11_turns_343 (by decide) ?_
                    exact ih311 z_10 g_9 _ _ _ (by omega) (by first | assumption | omega) (fun i9 h8 h9 => by rw [eg_9, un_i h8 (by omega) (by omega)]; exact hga i9 h8 h9) (fun i9 h8 h9 => by
                      by_cases q : i9 = k2.toInt
                      · rw [eg_9, q, show 6 * fro.toInt + k2.toInt = ((6 * fro.toInt) + k2.toInt) by omega, pk_us, q_8, show (0 : Int) + k2.toInt = k2.toInt by omega]
                      · rw [eg_9, un_i (by omega) (by omega) (by omega)]; exact hgs i9 h8 (by omega)) hP hD hS (lv_sub hl [1, 2, 3, 4, 5, 6, 0] rfl)
              have hz_11 : (0 : Int32).toInt = 0 := by decide
              exact loop311 ((6 * nn.toInt - (0 : Int32).toInt).toNat + 1) (0 : Int32) f3 _ _ _ (by omega) (by first | assumption | omega) (fun _ _ _ => rfl) (fun i9 h8 h9 => absurd h9 (by omega)) hP hD hS (lv_sub hl [1, 2, 3, 4, 5, 6, 0] rfl)
            · refine lv_iconst (v := 0) hx hb dX11_turns_40 (by decide) ?_
              refine lv_istore (lv' := [(7, .int 0), (0, .ref mm), (1, .int what), (2, .int dd), (3, .int fro), (4, .int nn), (5, .int gd), (6, .int i)]) hx hb dX11_turns_41 hl (by decide) rfl (fun ls hl => ?_)
              have loop43 : ∀ (ddloop43 : Nat) (ge : Int32) (x : Int32) (gc : (Nat → Int32)) (H : Heap) (locs : List Loc) (ls : Array Slot), (6 - x.toInt).toNat < ddloop43 → (ge.toInt = 0 ∨ ge.toInt = 1) → (0 ≤ x.toInt ∧ x.toInt ≤ 6) → (CellsX jn gc 0 (6 * nn.toInt)) → (ZX jn gc 0 nn.toInt) → (what.toInt = 9 → ∀ k9 : Int, 0 ≤ k9 → 2 * k9 + 1 < 6 * nn.toInt → (gc (2 * k9 + 1).toNat).toInt = 0) → (ge.toInt = 1 ∧ RS gc (dlW w9 fro.toInt nn.toInt (6 * i.toInt + x.toInt)) nn.toInt) → va_P D vwCl (mX mm q jn cI x0 x1 x2 x3 x4 x5 x6 x7 x8 x9 x10 x11 x12 x13 x14 x15 x16 x17 x18 x19 x20 f0 f1 f2 f3 f4 f5 f6 gc f8 f9 f10 f11 f12 f13 f14 f15 f16 f17 f18 f19 f20 f21 f22 f23 f24) H → va_D A (mX mm q jn cI x0 x1 x2 x3 x4 x5 x6 x7 x8 x9 x10 x11 x12 x13 x14 x15 x16 x17 x18 x19 x20 f0 f1 f2 f3 f4 f5 f6 gc f8 f9 f10 f11 f12 f13 f14 f15 f16 f17 f18 f19 f20 f21 f22 f23 f24) → va_S A s.heap H locs → lv_has ls 13 [(0, .ref mm), (1, .int what), (2, .int dd), (3, .int fro), (4, .int nn), (5, .int ge), (6, .int i), (7, .int x)] → W p l e ({ frames := 2, cells := 0, slots := 0, locals := 47 }) s m args below meth c H locs 0 0 Q (F0 m 43 ls []) := by
                intro ddloop43
                induction ddloop43 with
                | zero =>
                  intro ge x gc H locs ls hdd
                  exact absurd hdd (Nat.not_lt_zero _)
                | succ ddloop43 ih43 =>
                  intro ge x gc H locs ls hdd hge hx9 hS2 hZ2 hO2 hB2 hP hD hS hl
                  refine lv_iload hx hb dX11_turns_43 (lv_at hl 7 rfl) ?_
                  refine lv_bipush (v := 6) hx hb dX11_turns_45 (by decide) ?_
                  refine a_icmp_ge (u := x.toInt) (v := 6) (tgt := 302) hx hb dX11_turns_47 (by decide) (rfl) (by decide) (fun c_12 => ?_) (fun c_12 => ?_)
                  · obtain ⟨z_13, q_13, e_13⟩ := i_inc (a := i.toInt) (1) (rfl) (by decide) (by omega) (by omega)
                    refine lv_iinc (v := z_13) (lv' := [(6, .int z_13), (0, .ref mm), (1, .int what), (2, .int dd), (3, .int fro), (4, .int nn), (5, .int ge), (7, .int x)]) hx hb dX11_turns_302 hl (k := 6) rfl q_13 (by decide) rfl (fun ls hl => ?_)
                    refine lv_goto (tgt := 33) hx hb dX11_turns_305 (by decide) ?_
                    exact ih33 ge z_13 gc _ _ _ (by omega) (by first | assumption | omega) (by first | assumption | omega) (by first | assumption | omega) (by first | assumption | omega) (by first | assumption | omega) (by rw [show 6 * z_13.toInt = 6 * i.toInt + x.toInt by omega]; exact hB2) hP hD hS (lv_sub hl [1, 2, 3, 4, 5, 6, 0] rfl)
                  · refine lv_aload_n hx hb dX11_turns_50 rfl (lv_at hl 0 rfl) ?_
                    refine va_get (D := D) (ci := 11) (v := .ref (q 3)) (C := RX11) (T := TX11) (N := 47) hx hb hts (by decide +kernel) hown hK.1 hP 0 rfl rfl 14 (by decide) (hts (.fieldLink RX11 27 "JugglingHallModel" "work" "[I") (by decide +kernel)) (fun _ h9 => h9) rfl dX11_turns_51 ?_
                    refine lv_bipush (v := 6) hx hb dX11_turns_54 (by decide) ?_
                    refine lv_iload_n hx hb dX11_turns_56 rfl (lv_at hl 3 rfl) ?_
                    refine lv_iload hx hb dX11_turns_57 (lv_at hl 6 rfl) ?_
                    refine a_iadd (u := fro.toInt) (v := i.toInt) hx hb dX11_turns_59 (rfl) (rfl) (by omega) (fun z_14 e_14 => ?_)
                    refine a_imul (u := 6) (v := (fro.toInt + i.toInt)) hx hb dX11_turns_60 (by decide) (e_14) (by omega) (fun z_15 e_15 => ?_)
                    refine lv_iload hx hb dX11_turns_61 (lv_at hl 7 rfl) ?_
                    refine a_iadd (u := (6 * (fro.toInt + i.toInt))) (v := x.toInt) hx hb dX11_turns_63 (e_15) (rfl) (by omega) (fun z_16 e_16 => ?_)
                    refine a_iald (f := f3) (u := ((6 * (fro.toInt + i.toInt)) + x.toInt)) hx hb hK.1 hP 4 0 rfl rfl dX11_turns_64 (e_16) (by omega) (fun z_17 q_17 e_17 => ?_)
                    have hcv : CellX jn z_17 := by rw [q_17]; exact hC.1 _ (by omega) (by omega)
                    obtain ⟨hv1, hv2, hv3, hv4⟩ := hcv
                    have hvz : 2 * (jn : Int) ≤ x.toInt → z_17.toInt = 0 := fun h9 => by
                      have h8 := hZ0 (fro.toInt + i.toInt) x.toInt (by omega) (by omega) h9 (by omega)
                      rw [show 0 + 6 * (fro.toInt + i.toInt) + x.toInt = ((6 * (fro.toInt + i.toInt)) + x.toInt) by omega] at h8
                      rw [q_17]; exact h8
                    have hwx : x.toInt < 2 → z_17.toInt = 4 * w9 (2 * (fro.toInt + i.toInt) + x.toInt) := fun h9 => by
                      have h8 := hRW (2 * (fro.toInt + i.toInt) + x.toInt) (by omega) (by omega)
                      rw [show 6 * ((2 * (fro.toInt + i.toInt) + x.toInt) / 2) + (2 * (fro.toInt + i.toInt) + x.toInt) % 2 = ((6 * (fro.toInt + i.toInt)) + x.toInt) by omega] at h8
                      rw [q_17]; exact h8
                    refine lv_istore (lv' := [(8, .int z_17), (0, .ref mm), (1, .int what), (2, .int dd), (3, .int fro), (4, .int nn), (5, .int ge), (6, .int i), (7, .int x)]) hx hb dX11_turns_65 hl (by decide) rfl (fun ls hl => ?_)
                    refine lv_iload hx hb dX11_turns_67 (lv_at hl 8 rfl) ?_
                    refine lv_iconst (v := 2) hx hb dX11_turns_69 (by decide) ?_
                    refine a_idiv (u := x.toInt) (v := 2) hx hb dX11_turns_70 (rfl) (by decide) (by omega) (fun z_18 e_18 => ?_)
                    refine lv_istore (lv' := [(9, .int z_18), (8, .int z_17), (0, .ref mm), (1, .int what), (2, .int dd), (3, .int fro), (4, .int nn), (5, .int ge), (6, .int i), (7, .int x)]) hx hb dX11_turns_71 hl (by decide) rfl (fun ls hl => ?_)
                    refine lv_iload_n hx hb dX11_turns_73 rfl (lv_at hl 3 rfl) ?_
                    refine lv_bipush (v := 9) hx hb dX11_turns_74 (by decide) ?_
                    refine a_icmp_ne (u := what.toInt) (v := 9) (tgt := 95) hx hb dX11_turns_76 (by decide) (rfl) (by decide) (fun c_19 => absurd c_19 (by omega)) (fun c_19 => ?_)
                    refine lv_iload hx hb dX11_turns_79 (lv_at hl 9 rfl) ?_
                    refine lv_iconst (v := 2) hx hb dX11_turns_81 (by decide) ?_
                    refine a_irem (u := x.toInt) (v := 2) hx hb dX11_turns_82 (rfl) (by decide) (by omega) (fun z_20 e_20 h_20 k_20 => ?_)
                    refine lv_iconst (v := 1) hx hb dX11_turns_83 (by decide) ?_
                    refine a_icmp_eq (u := z_20.toInt) (v := 1) (tgt := 296) hx hb dX11_turns_84 (by decide) (rfl) (by decide) (fun c_21 => ?_) (fun c_21 => ?_)
                    · obtain ⟨z_22, q_22, e_22⟩ := i_inc (a := x.toInt) (1) (rfl) (by decide) (by omega) (by omega)
                      refine lv_iinc (v := z_22) (lv' := [(7, .int z_22), (9, .int z_18), (8, .int z_17), (0, .ref mm), (1, .int what), (2, .int dd), (3, .int fro), (4, .int nn), (5, .int ge), (6, .int i)]) hx hb dX11_turns_296 hl (k := 9) rfl q_22 (by decide) rfl (fun ls hl => ?_)
                      refine lv_goto (tgt := 43) hx hb dX11_turns_299 (by decide) ?_
                      exact ih43 ge z_22 gc _ _ _ (by omega) (by first | assumption | omega) (by first | assumption | omega) (by first | assumption | omega) (by first | assumption | omega) (by first | assumption | omega) (by
                        rw [show 6 * i.toInt + z_22.toInt = 6 * i.toInt + x.toInt + 1 by omega]
                        exact ⟨hB2.1, dlW_s hB2.2 (by omega) (by omega)⟩) hP hD hS (lv_sub hl [3, 4, 5, 6, 7, 8, 9, 0] rfl)
                    · refine lv_iload hx hb dX11_turns_87 (lv_at hl 0 rfl) ?_
                      refine a_if_le (u := (x.toInt / 2)) (tgt := 95) hx hb dX11_turns_89 (by decide) (e_18) (fun c_23 => ?_) (fun c_23 => ?_)
                      · refine lv_iload_n hx hb dX11_turns_95 rfl (lv_at hl 3 rfl) ?_
                        refine lv_bipush (v := 9) hx hb dX11_turns_96 (by decide) ?_
                        refine a_icmp_ne (u := what.toInt) (v := 9) (tgt := 142) hx hb dX11_turns_98 (by decide) (rfl) (by decide) (fun c_24 => absurd c_24 (by omega)) (fun c_24 => ?_)
                        refine lv_bipush (v := 9) hx hb dX11_turns_101 (by decide) ?_
                        refine lv_iload hx hb dX11_turns_103 (lv_at hl 1 rfl) ?_
                        refine lv_iconst (v := 4) hx hb dX11_turns_105 (by decide) ?_
                        refine a_idiv (u := z_17.toInt) (v := 4) hx hb dX11_turns_106 (rfl) (by decide) (by omega) (fun z_25 e_25 => ?_)
                        refine a_isub (u := 9) (v := (z_17.toInt / 4)) hx hb dX11_turns_107 (by decide) (e_25) (by omega) (fun z_26 e_26 => ?_)
                        refine lv_istore (lv' := [(10, .int z_26), (9, .int z_18), (8, .int z_17), (0, .ref mm), (1, .int what), (2, .int dd), (3, .int fro), (4, .int nn), (5, .int ge), (6, .int i), (7, .int x)]) hx hb dX11_turns_108 hl (by decide) rfl (fun ls hl => ?_)
                        refine lv_aload_n hx hb dX11_turns_110 rfl (lv_at hl 3 rfl) ?_
                        refine va_get (D := D) (ci := 11) (v := .ref (q 7)) (C := RX11) (T := TX11) (N := 47) hx hb hts (by decide +kernel) hown hK.1 hP 0 rfl rfl 18 (by decide) (hts (.fieldLink RX11 39 "JugglingHallModel" "spare" "[I") (by decide +kernel)) (fun _ h9 => h9) rfl dX11_turns_111 ?_
                        refine lv_bipush (v := 6) hx hb dX11_turns_114 (by decide) ?_
                        refine lv_iload hx hb dX11_turns_116 (lv_at hl 9 rfl) ?_
                        refine a_ineg (u := i.toInt) hx hb dX11_turns_118 (rfl) (by omega) (fun z_27 e_27 => ?_)
                        refine lv_iload hx hb dX11_turns_119 (lv_at hl 7 rfl) ?_
                        refine roP (va_runS (As := [.int z_27, .int nn]) (rest := [.int 6, .ref (q 7)]) ⟨hx, hb, hml, hown, hts⟩ (k_mod2 l D cI cR cM _  (by first | assumption | omega) (by first | assumption | omega)) (va_cwS 2 hts gX11_turns_X11_mod rfl rfl rfl (by decide +kernel) ⟨Nat.le_of_ble_eq_true rfl, Nat.le_of_ble_eq_true rfl⟩) (pre_S hK va_P_nil (va_D_nil (A := fun _ => True))) rfl rfl hl.1 rfl (lv_room (Nat.le_of_ble_eq_true rfl)) dX11_turns_121 ⟨Nat.le_of_ble_eq_true rfl, Nat.le_of_ble_eq_true rfl⟩) hS hA hP (fun r_28 H locs hw hP hS => ?_)
                        obtain ⟨h_28, hb_28⟩ : (r_28.toInt = z_27.toInt % nn.toInt) ∧ (0 ≤ r_28.toInt ∧ r_28.toInt < nn.toInt) := hw
                        refine a_imul (u := 6) (v := r_28.toInt) hx hb dX11_turns_124 (by decide) (rfl) (by omega) (fun z_29 e_29 => ?_)
                        refine lv_iload hx hb dX11_turns_125 (lv_at hl 0 rfl) ?_
                        refine a_if_ne (u := (9 - (z_17.toInt / 4))) (tgt := 134) hx hb dX11_turns_127 (by decide) (e_26) (fun c_30 => ?_) (fun c_30 => ?_)
                        · refine lv_iconst (v := 4) hx hb dX11_turns_134 (by decide) ?_
                          refine lv_iload hx hb dX11_turns_135 (lv_at hl 0 rfl) ?_
                          refine a_imul (u := 4) (v := (9 - (z_17.toInt / 4))) hx hb dX11_turns_137 (by decide) (e_26) (by omega) (fun z_31 e_31 => ?_)
                          refine ma_7 (u := (6 * r_28.toInt)) hx hb hK hP hD hS dX11_turns_138 (e_29) (by omega) (fun g_32 H locs eg_32 hP hD hS => ?_)
                          have hI6 : (6 * r_28.toInt) = 2 * (3 * r_28.toInt) := by omega
                          have hcx : CellX jn z_31 := ⟨by omega, by omega, by omega, by omega⟩
                          have hodd : (gc ((6 * r_28.toInt) + 1).toNat).toInt = 0 := by rw [show (6 * r_28.toInt) + 1 = 2 * (3 * r_28.toInt) + 1 by omega]; exact hO2 (by omega) (3 * r_28.toInt) (by omega) (by omega)
                          have hun : ∀ i9 : Int, 0 ≤ i9 → i9 ≠ (6 * r_28.toInt) → g_32 i9.toNat = gc i9.toNat := fun i9 h8 h9 => by rw [eg_32, un_i h8 (by omega) h9]
                          have hS3 : CellsX jn g_32 0 (6 * nn.toInt) := cx_set2 (x := (6 * r_28.toInt)) (k := 3 * r_28.toInt) hS2 (by omega) (by omega) (fun i9 h8 h9 _ => hun i9 h8 h9) (by rw [eg_32, pk_us]; exact hcx) (by rw [hun _ (by omega) (by omega)]; exact hS2.1 _ (by omega) (by omega)) (fun _ => by rw [hun _ (by omega) (by omega)]; exact hodd)
                          have hZ3 : ZX jn g_32 0 nn.toInt := fun b9 x9 b0 b1 x0 x1 => by rw [hun _ (by omega) (by omega)]; exact hZ2 b9 x9 b0 b1 x0 x1
                          have hO3 : what.toInt = 9 → ∀ k9 : Int, 0 ≤ k9 → 2 * k9 + 1 < 6 * nn.toInt → (g_32 (2 * k9 + 1).toNat).toInt = 0 := fun h7 k9 h8 h9 => by rw [hun _ (by omega) (by omega)]; exact hO2 h7 k9 h8 h9
                          have hwv := hwx (by omega)
                          have hbe : r_28.toInt = (-i.toInt) % nn.toInt := h_28.trans (by
                            first | rfl | exact congrArg (fun t9 : Int => t9 % nn.toInt) (by omega) | omega)
                          have hdl : RS g_32 (dlW w9 fro.toInt nn.toInt (6 * i.toInt + x.toInt + 1)) nn.toInt := by
                            rw [show x.toInt = 0 by omega, Int.add_zero] at hwv
                            rw [show 6 * i.toInt + x.toInt + 1 = 6 * i.toInt + 1 by omega]
                            have hB3 := hB2.2
                            rw [show 6 * i.toInt + x.toInt = 6 * i.toInt by omega] at hB3
                            refine dl_i (by omega) (by omega) (by omega) hB3 (fun i9 h8 h9 => by rw [eg_32, un_i h8 (by omega) (by omega)]) (by rw [eg_32, show 6 * ((-i.toInt) % nn.toInt) = (6 * r_28.toInt) by omega, pk_us]; omega)
                          refine lv_goto (tgt := 296) hx hb dX11_turns_139 (by decide) ?_
                          obtain ⟨z_33, q_33, e_33⟩ := i_inc (a := x.toInt) (1) (rfl) (by decide) (by omega) (by omega)
                          refine lv_iinc (v := z_33) (lv' := [(7, .int z_33), (10, .int z_26), (9, .int z_18), (8, .int z_17), (0, .ref mm), (1, .int what), (2, .int dd), (3, .int fro), (4, .int nn), (5, .int ge), (6, .int i)]) hx hb dX11_turns_296 hl (k := 10) rfl q_33 (by decide) rfl (fun ls hl => ?_)
                          refine lv_goto (tgt := 43) hx hb dX11_turns_299 (by decide) ?_
                          exact ih43 ge z_33 g_32 _ _ _ (by omega) (by first | assumption | omega) (by first | assumption | omega) (by first | assumption | omega) (by first | assumption | omega) (by first | assumption | omega) (by
                            rw [show 6 * i.toInt + z_33.toInt = 6 * i.toInt + x.toInt + 1 by omega]
                            exact ⟨hB2.1, hdl⟩) hP hD hS (lv_sub hl [4, 5, 6, 7, 8, 9, 10, 0] rfl)
                        · refine lv_iconst (v := 0) hx hb dX11_turns_130 (by decide) ?_
                          refine lv_goto (tgt := 138) hx hb dX11_turns_131 (by decide) ?_
                          refine ma_7 (u := (6 * r_28.toInt)) hx hb hK hP hD hS dX11_turns_138 (e_29) (by omega) (fun g_34 H locs eg_34 hP hD hS => ?_)
                          have hz_35 : (0 : Int32).toInt = 0 := by decide
                          have hI6 : (6 * r_28.toInt) = 2 * (3 * r_28.toInt) := by omega
                          have hcx : CellX jn (0 : Int32) := ⟨by omega, by omega, by omega, by omega⟩
                          have hodd : (gc ((6 * r_28.toInt) + 1).toNat).toInt = 0 := by rw [show (6 * r_28.toInt) + 1 = 2 * (3 * r_28.toInt) + 1 by omega]; exact hO2 (by omega) (3 * r_28.toInt) (by omega) (by omega)
                          have hun : ∀ i9 : Int, 0 ≤ i9 → i9 ≠ (6 * r_28.toInt) → g_34 i9.toNat = gc i9.toNat := fun i9 h8 h9 => by rw [eg_34, un_i h8 (by omega) h9]
                          have hS3 : CellsX jn g_34 0 (6 * nn.toInt) := cx_set2 (x := (6 * r_28.toInt)) (k := 3 * r_28.toInt) hS2 (by omega) (by omega) (fun i9 h8 h9 _ => hun i9 h8 h9) (by rw [eg_34, pk_us]; exact hcx) (by rw [hun _ (by omega) (by omega)]; exact hS2.1 _ (by omega) (by omega)) (fun _ => by rw [hun _ (by omega) (by omega)]; exact hodd)
                          have hZ3 : ZX jn g_34 0 nn.toInt := fun b9 x9 b0 b1 x0 x1 => by rw [hun _ (by omega) (by omega)]; exact hZ2 b9 x9 b0 b1 x0 x1
                          have hO3 : what.toInt = 9 → ∀ k9 : Int, 0 ≤ k9 → 2 * k9 + 1 < 6 * nn.toInt → (g_34 (2 * k9 + 1).toNat).toInt = 0 := fun h7 k9 h8 h9 => by rw [hun _ (by omega) (by omega)]; exact hO2 h7 k9 h8 h9
                          have hwv := hwx (by omega)
                          have hbe : r_28.toInt = (-i.toInt) % nn.toInt := h_28.trans (by
                            first | rfl | exact congrArg (fun t9 : Int => t9 % nn.toInt) (by omega) | omega)
                          have hdl : RS g_34 (dlW w9 fro.toInt nn.toInt (6 * i.toInt + x.toInt + 1)) nn.toInt := by
                            rw [show x.toInt = 0 by omega, Int.add_zero] at hwv
                            rw [show 6 * i.toInt + x.toInt + 1 = 6 * i.toInt + 1 by omega]
                            have hB3 := hB2.2
                            rw [show 6 * i.toInt + x.toInt = 6 * i.toInt by omega] at hB3
                            refine dl_i (by omega) (by omega) (by omega) hB3 (fun i9 h8 h9 => by rw [eg_34, un_i h8 (by omega) (by omega)]) (by rw [eg_34, show 6 * ((-i.toInt) % nn.toInt) = (6 * r_28.toInt) by omega, pk_us]; omega)
                          refine lv_goto (tgt := 296) hx hb dX11_turns_139 (by decide) ?_
                          obtain ⟨z_36, q_36, e_36⟩ := i_inc (a := x.toInt) (1) (rfl) (by decide) (by omega) (by omega)
                          refine lv_iinc (v := z_36) (lv' := [(7, .int z_36), (10, .int z_26), (9, .int z_18), (8, .int z_17), (0, .ref mm), (1, .int what), (2, .int dd), (3, .int fro), (4, .int nn), (5, .int ge), (6, .int i)]) hx hb dX11_turns_296 hl (k := 10) rfl q_36 (by decide) rfl (fun ls hl => ?_)
                          refine lv_goto (tgt := 43) hx hb dX11_turns_299 (by decide) ?_
                          exact ih43 ge z_36 g_34 _ _ _ (by omega) (by first | assumption | omega) (by first | assumption | omega) (by first | assumption | omega) (by first | assumption | omega) (by first | assumption | omega) (by
                            rw [show 6 * i.toInt + z_36.toInt = 6 * i.toInt + x.toInt + 1 by omega]
                            exact ⟨hB2.1, hdl⟩) hP hD hS (lv_sub hl [4, 5, 6, 7, 8, 9, 10, 0] rfl)
                      · refine lv_goto (tgt := 296) hx hb dX11_turns_92 (by decide) ?_
                        obtain ⟨z_37, q_37, e_37⟩ := i_inc (a := x.toInt) (1) (rfl) (by decide) (by omega) (by omega)
                        refine lv_iinc (v := z_37) (lv' := [(7, .int z_37), (9, .int z_18), (8, .int z_17), (0, .ref mm), (1, .int what), (2, .int dd), (3, .int fro), (4, .int nn), (5, .int ge), (6, .int i)]) hx hb dX11_turns_296 hl (k := 9) rfl q_37 (by decide) rfl (fun ls hl => ?_)
                        refine lv_goto (tgt := 43) hx hb dX11_turns_299 (by decide) ?_
                        exact ih43 ge z_37 gc _ _ _ (by omega) (by first | assumption | omega) (by first | assumption | omega) (by first | assumption | omega) (by first | assumption | omega) (by first | assumption | omega) (by
                          rw [show 6 * i.toInt + z_37.toInt = 6 * i.toInt + x.toInt + 1 by omega]
                          exact ⟨hB2.1, dlW_s hB2.2 (by omega) (by omega)⟩) hP hD hS (lv_sub hl [3, 4, 5, 6, 7, 8, 9, 0] rfl)
              have hz_38 : (0 : Int32).toInt = 0 := by decide
              exact loop43 ((6 - (0 : Int32).toInt).toNat + 1) gd (0 : Int32) gb _ _ _ (by omega) (by first | assumption | omega) (by first | assumption | omega) (by first | assumption | omega) (by first | assumption | omega) (by first | assumption | omega) (by rw [z32, Int.add_zero]; exact hB1) hP hD hS (lv_sub hl [1, 2, 3, 4, 5, 6, 7, 0] rfl)
        have hz_39 : (1 : Int32).toInt = 1 := by decide
        have hz_40 : (0 : Int32).toInt = 0 := by decide
        exact loop33 ((nn.toInt - (0 : Int32).toInt).toNat + 1) (1 : Int32) (0 : Int32) ga _ _ _ (by omega) (by first | assumption | omega) (by first | assumption | omega) (by first | assumption | omega) (by first | assumption | omega) (by first | assumption | omega) (⟨by decide, fun c9 h8 h9 => by
          rw [hz0 _ (by omega) (by omega), z32]
          have q9 := Int.emod_nonneg (-(c9 / 2)) (show nn.toInt ≠ 0 by omega)
          unfold dlW
          split
          · rfl
          · rw [if_neg (by omega)]; rfl⟩) hP hD hS (lv_sub hl [2, 3, 4, 5, 6, 1, 0] rfl)
      · refine lv_aload_n hx hb dX11_turns_13 rfl (lv_at hl 0 rfl) ?_
        refine va_get (D := D) (ci := 11) (v := .ref (q 7)) (C := RX11) (T := TX11) (N := 47) hx hb hts (by decide +kernel) hown hK.1 hP 0 rfl rfl 18 (by decide) (hts (.fieldLink RX11 39 "JugglingHallModel" "spare" "[I") (by decide +kernel)) (fun _ h9 => h9) rfl dX11_turns_14 ?_
        refine lv_iload hx hb dX11_turns_17 (lv_at hl 5 rfl) ?_
        refine lv_iconst (v := 0) hx hb dX11_turns_19 (by decide) ?_
        refine ma_7 (u := k.toInt) hx hb hK hP hD hS dX11_turns_20 (rfl) (by omega) (fun g_41 H locs eg_41 hP hD hS => ?_)
        obtain ⟨z_42, q_42, e_42⟩ := i_inc (a := k.toInt) (1) (rfl) (by decide) (by omega) (by omega)
        refine lv_iinc (v := z_42) (lv' := [(5, .int z_42), (0, .ref mm), (1, .int what), (2, .int dd), (3, .int fro), (4, .int nn)]) hx hb dX11_turns_21 hl (k := 5) rfl q_42 (by decide) rfl (fun ls hl => ?_)
        refine lv_goto (tgt := 3) hx hb dX11_turns_24 (by decide) ?_
        exact ih3 z_42 g_41 _ _ _ (by omega) (by first | assumption | omega) (fun i9 h8 h9 => by
          by_cases q : i9 = k.toInt
          · rw [eg_41, q, pk_us]; decide
          · rw [eg_41, un_i (by omega) (by omega) (by omega)]; exact hz0 i9 h8 (by omega)) hP hD hS (lv_sub hl [1, 2, 3, 4, 5, 0] rfl)
  have hz_43 : (0 : Int32).toInt = 0 := by decide
  exact loop3 ((6 * nn.toInt - (0 : Int32).toInt).toNat + 1) (0 : Int32) f7 _ _ _ (by omega) (by first | assumption | omega) (fun i9 h8 h9 => absurd h9 (by omega)) hP hD hS (lv_sub hl [1, 2, 3, 4, 5, 0] rfl)
theorem k_turns3 (l : Launch) (D : va_G) (cI cR cM : ClassId) (sz : Nat) {jn mm : Nat} {q : Nat → Nat} {x0 x1 x2 x3 x4 x5 x6 x7 x8 x9 x10 x11 x12 x13 x14 x15 x16 x17 x18 x19 x20 : Int32} {f0 f1 f2 f3 f4 f5 f6 f7 f8 f9 f10 f11 f12 f13 f14 f15 f16 f17 f18 f19 f20 f21 f22 f23 f24 : Nat → Int32} {what dd fro nn : Int32} {w9 : Int → Int} (hj : 1 ≤ jn ∧ jn ≤ 3) (hw : 7 ≤ what.toInt ∧ what.toInt ≤ 10) (hd : 0 ≤ dd.toInt ∧ dd.toInt ≤ 9) (hf : 0 ≤ fro.toInt ∧ 0 ≤ nn.toInt ∧ nn.toInt ≤ 24 ∧ fro.toInt + nn.toInt ≤ 150) (hC : CellsX jn f3 0 (6 * (fro.toInt + nn.toInt))) (hZ0 : ZX jn f3 0 (fro.toInt + nn.toInt)) (hj1 : jn = 1) (hRW : RS f3 w9 (fro.toInt + nn.toInt)) (hnn : 0 < nn.toInt) (hSo : ∀ b9 : Int, 0 ≤ b9 → b9 < fro.toInt + nn.toInt → w9 (2 * b9 + 1) ≤ w9 (2 * b9)) (hp9 : what.toInt = 9 → plW w9 fro.toInt nn.toInt) : Met l yX11_turns wsX11_turns ({ frames := 2, cells := 0, slots := 0, locals := 47 }) (P0 D cI cR cM [.ref mm, .int what, .int dd, .int fro, .int nn] sz (mX mm q jn cI x0 x1 x2 x3 x4 x5 x6 x7 x8 x9 x10 x11 x12 x13 x14 x15 x16 x17 x18 x19 x20 f0 f1 f2 f3 f4 f5 f6 f7 f8 f9 f10 f11 f12 f13 f14 f15 f16 f17 f18 f19 f20 f21 f22 f23 f24)) (QG (S := Int32 × (Nat → Int32) × (Nat → Int32)) (fun u => some (.int u.1)) (fun u => mX mm q jn cI x0 x1 x2 x3 x4 x5 x6 x7 x8 x9 x10 x11 x12 x13 x14 x15 x16 x17 x18 x19 x20 f0 f1 f2 (u.2.1) f4 f5 f6 (u.2.2) f8 f9 f10 f11 f12 f13 f14 f15 f16 f17 f18 f19 f20 f21 f22 f23 f24) (fun u => (u.1.toInt = 0 ∨ u.1.toInt = 1) ∧ (CellsX jn u.2.1 0 (6 * (fro.toInt + nn.toInt))) ∧ (ZX jn u.2.1 0 (fro.toInt + nn.toInt)) ∧ (Hd ((u.1.toInt = 1 ∧ ∃ v9, ChW what.toInt dd.toInt w9 fro.toInt nn.toInt v9 ∧ RS u.2.1 v9 (fro.toInt + nn.toInt)) ∨ (u.1.toInt = 0 ∧ ChF what.toInt w9 fro.toInt nn.toInt)))) D (va_A (mX mm q jn cI x0 x1 x2 x3 x4 x5 x6 x7 x8 x9 x10 x11 x12 x13 x14 x15 x16 x17 x18 x19 x20 f0 f1 f2 f3 f4 f5 f6 f7 f8 f9 f10 f11 f12 f13 f14 f15 f16 f17 f18 f19 f20 f21 f22 f23 f24) sz)) 0 0 (va_A (mX mm q jn cI x0 x1 x2 x3 x4 x5 x6 x7 x8 x9 x10 x11 x12 x13 x14 x15 x16 x17 x18 x19 x20 f0 f1 f2 f3 f4 f5 f6 f7 f8 f9 f10 f11 f12 f13 f14 f15 f16 f17 f18 f19 f20 f21 f22 f23 f24) sz) := by
  rcases (show what.toInt = 7 ∨ what.toInt = 8 ∨ what.toInt = 9 ∨ what.toInt = 10 by omega) with e | e | e | e
  · exact k_turns_7 l D cI cR cM sz hj hw hd hf hC hZ0 e hj1 hRW hnn
  · exact k_turns_8 l D cI cR cM sz hj hw hd hf hC hZ0 e hj1 hRW hnn hSo
  · exact k_turns_9 l D cI cR cM sz hj hw hd hf hC hZ0 e hj1 hRW hnn (hp9 e)
  · exact k_turns_10 l D cI cR cM sz hj hw hd hf hC hZ0 e hj1 hRW hnn hSo
set_option maxRecDepth 100000 in
set_option maxHeartbeats 4000000 in
theorem k_isPlain3 (l : Launch) (D : va_G) (cI cR cM : ClassId) (sz : Nat) {jn mm : Nat} {q : Nat → Nat} {x0 x1 x2 x3 x4 x5 x6 x7 x8 x9 x10 x11 x12 x13 x14 x15 x16 x17 x18 x19 x20 : Int32} {f0 f1 f2 f3 f4 f5 f6 f7 f8 f9 f10 f11 f12 f13 f14 f15 f16 f17 f18 f19 f20 f21 f22 f23 f24 : Nat → Int32} {from_ n : Int32} {w9 : Int → Int} (hj : 1 ≤ jn ∧ jn ≤ 3) (hf : 0 ≤ from_.toInt ∧ from_.toInt ≤ 150) (hn : 0 ≤ n.toInt ∧ n.toInt ≤ 24) (hj1 : jn = 1) (hRW : RS f3 w9 (from_.toInt + n.toInt)) (hC : CellsX jn f3 0 (6 * (from_.toInt + n.toInt))) : Met l yX11_isPlain wsX11_isPlain ({ frames := 0, cells := 0, slots := 0, locals := 0 }) (P0 D cI cR cM [.ref mm, .int from_, .int n] sz (mX mm q jn cI x0 x1 x2 x3 x4 x5 x6 x7 x8 x9 x10 x11 x12 x13 x14 x15 x16 x17 x18 x19 x20 f0 f1 f2 f3 f4 f5 f6 f7 f8 f9 f10 f11 f12 f13 f14 f15 f16 f17 f18 f19 f20 f21 f22 f23 f24)) (QP (fun r => (r.toInt = 0 ∨ r.toInt = 1) ∧ ((r.toInt = 1 ∧ plW w9 from_.toInt n.toInt) ∨ (r.toInt = 0 ∧ ¬ plW w9 from_.toInt n.toInt))) sz) 0 0 (va_A [] sz) := by
  refine go (cc := cX11_isPlain) (maxL := 4) (ret := (some .boolean)) (by decide) rfl (Nat.le_of_ble_eq_true rfl) ?_
  intro p e s m below meth c ls args Q hQ hsz hx hb hr hml hts hown hlocks hnm hP hK hD hl
  subst hsz
  have hS : va_S (va_A [] s.heap.size) s.heap s.heap [] := va_S.rf
  have hA : ∀ q, s.heap.size ≤ q → va_A [] s.heap.size q := fun q h => Or.inr h
  have hl : lv_has ls 4 [(0, .ref mm), (1, .int from_), (2, .int n)] := hl
  refine lv_iconst (v := 0) hx hb dX11_isPlain_0 (by decide) ?_
  refine lv_istore_n (lv' := [(3, .int 0), (0, .ref mm), (1, .int from_), (2, .int n)]) hx hb dX11_isPlain_1 rfl hl (by decide) rfl (fun ls hl => ?_)
  have loop2 : ∀ (ddloop2 : Nat) (i : Int32) (H : Heap) (locs : List Loc) (ls : Array Slot), (30 - i.toInt).toNat < ddloop2 → (0 ≤ i.toInt ∧ i.toInt ≤ n.toInt) → (∀ b9 : Int, 0 ≤ b9 → b9 < i.toInt → w9 (2 * (from_.toInt + b9) + 1) = 0) → va_P D vwCl (mX mm q jn cI x0 x1 x2 x3 x4 x5 x6 x7 x8 x9 x10 x11 x12 x13 x14 x15 x16 x17 x18 x19 x20 f0 f1 f2 f3 f4 f5 f6 f7 f8 f9 f10 f11 f12 f13 f14 f15 f16 f17 f18 f19 f20 f21 f22 f23 f24) H → va_S (va_A [] s.heap.size) s.heap H locs → lv_has ls 4 [(0, .ref mm), (1, .int from_), (2, .int n), (3, .int i)] → W p l e ({ frames := 0, cells := 0, slots := 0, locals := 0 }) s m args below meth c H locs 0 0 Q (F0 m 2 ls []) := by
    intro ddloop2
    induction ddloop2 with
    | zero =>
      intro i H locs ls hdd
      exact absurd hdd (Nat.not_lt_zero _)
    | succ ddloop2 ih2 =>
      intro i H locs ls hdd hi hpp hP hS hl
      refine lv_iload_n hx hb dX11_isPlain_2 rfl (lv_at hl 3 rfl) ?_
      refine lv_iload_n hx hb dX11_isPlain_3 rfl (lv_at hl 2 rfl) ?_
      refine a_icmp_ge (u := i.toInt) (v := n.toInt) (tgt := 31) hx hb dX11_isPlain_4 (by decide) (rfl) (rfl) (fun c_1 => ?_) (fun c_1 => ?_)
      · refine lv_aload_n hx hb dX11_isPlain_31 rfl (lv_at hl 0 rfl) ?_
        refine va_get (D := D) (ci := 11) (v := .int (nI jn)) (C := RX11) (T := TX11) (N := 47) hx hb hts (by decide +kernel) hown hK.1 hP 0 rfl rfl 0 (by decide) (hts (.fieldLink RX11 93 "JugglingHallModel" "jugglers" "I") (by decide +kernel)) (fun _ h9 => h9) rfl dX11_isPlain_32 ?_
        refine lv_iconst (v := 1) hx hb dX11_isPlain_35 (by decide) ?_
        refine a_icmp_ne (u := (jn : Int)) (v := 1) (tgt := 43) hx hb dX11_isPlain_36 (by decide) (nI_toInt (by omega)) (by decide) (fun c_2 => ?_) (fun c_2 => ?_)
        · refine lv_iconst (v := 0) hx hb dX11_isPlain_43 (by decide) ?_
          have hz_3 : (0 : Int32).toInt = 0 := by decide
          exact rp_zret hx hb hr hlocks hS (by first | exact Or.inl rfl | exact Or.inr rfl) (⟨show (0 : Int32).toInt = 0 ∨ (0 : Int32).toInt = 1 from (by first | assumption | omega), show ((0 : Int32).toInt = 1 ∧ plW w9 from_.toInt n.toInt) ∨ ((0 : Int32).toInt = 0 ∧ ¬ plW w9 from_.toInt n.toInt) from (Or.inr ⟨by omega, by omega⟩)⟩) hQ dX11_isPlain_44
        · refine lv_iconst (v := 1) hx hb dX11_isPlain_39 (by decide) ?_
          refine lv_goto (tgt := 44) hx hb dX11_isPlain_40 (by decide) ?_
          have hz_4 : (1 : Int32).toInt = 1 := by decide
          exact rp_zret hx hb hr hlocks hS (by first | exact Or.inl rfl | exact Or.inr rfl) (⟨show (1 : Int32).toInt = 0 ∨ (1 : Int32).toInt = 1 from (by first | assumption | omega), show ((1 : Int32).toInt = 1 ∧ plW w9 from_.toInt n.toInt) ∨ ((1 : Int32).toInt = 0 ∧ ¬ plW w9 from_.toInt n.toInt) from (Or.inl ⟨by omega, fun b9 h8 h9 => hpp b9 h8 (by omega)⟩)⟩) hQ dX11_isPlain_44
      · refine lv_aload_n hx hb dX11_isPlain_7 rfl (lv_at hl 0 rfl) ?_
        refine va_get (D := D) (ci := 11) (v := .ref (q 3)) (C := RX11) (T := TX11) (N := 47) hx hb hts (by decide +kernel) hown hK.1 hP 0 rfl rfl 14 (by decide) (hts (.fieldLink RX11 27 "JugglingHallModel" "work" "[I") (by decide +kernel)) (fun _ h9 => h9) rfl dX11_isPlain_8 ?_
        refine lv_bipush (v := 6) hx hb dX11_isPlain_11 (by decide) ?_
        refine lv_iload_n hx hb dX11_isPlain_13 rfl (lv_at hl 1 rfl) ?_
        refine lv_iload_n hx hb dX11_isPlain_14 rfl (lv_at hl 3 rfl) ?_
        refine a_iadd (u := from_.toInt) (v := i.toInt) hx hb dX11_isPlain_15 (rfl) (rfl) (by omega) (fun z_5 e_5 => ?_)
        refine a_imul (u := 6) (v := (from_.toInt + i.toInt)) hx hb dX11_isPlain_16 (by decide) (e_5) (by omega) (fun z_6 e_6 => ?_)
        refine lv_iconst (v := 1) hx hb dX11_isPlain_17 (by decide) ?_
        refine a_iadd (u := (6 * (from_.toInt + i.toInt))) (v := 1) hx hb dX11_isPlain_18 (e_6) (by decide) (by omega) (fun z_7 e_7 => ?_)
        refine a_iald (f := f3) (u := ((6 * (from_.toInt + i.toInt)) + 1)) hx hb hK.1 hP 4 0 rfl rfl dX11_isPlain_19 (e_7) (by omega) (fun z_8 q_8 e_8 => ?_)
        have hx8 := (hC.1 (6 * (from_.toInt + i.toInt) + 1) (by omega) (by omega)).1
        have hx9 := (RS_a hRW (b := from_.toInt + i.toInt) (by omega) (by omega)).2
        have hz9 : z_8.toInt = 4 * w9 (2 * (from_.toInt + i.toInt) + 1) := by rw [q_8, show ((6 * (from_.toInt + i.toInt)) + 1) = 6 * (from_.toInt + i.toInt) + 1 by omega]; exact hx9
        refine a_if_le (u := z_8.toInt) (tgt := 25) hx hb dX11_isPlain_20 (by decide) (rfl) (fun c_9 => ?_) (fun c_9 => ?_)
        · obtain ⟨z_10, q_10, e_10⟩ := i_inc (a := i.toInt) (1) (rfl) (by decide) (by omega) (by omega)
          refine lv_iinc (v := z_10) (lv' := [(3, .int z_10), (0, .ref mm), (1, .int from_), (2, .int n)]) hx hb dX11_isPlain_25 hl (k := 3) rfl q_10 (by decide) rfl (fun ls hl => ?_)
          refine lv_goto (tgt := 2) hx hb dX11_isPlain_28 (by decide) ?_
          exact ih2 z_10 _ _ _ (by omega) (by first | assumption | omega) (fun b9 h8 h9 => by
            by_cases q : b9 = i.toInt
            · rw [q]; omega
            · exact hpp b9 h8 (by omega)) hP hS (lv_sub hl [1, 2, 3, 0] rfl)
        · refine lv_iconst (v := 0) hx hb dX11_isPlain_23 (by decide) ?_
          have hz_11 : (0 : Int32).toInt = 0 := by decide
          exact rp_zret hx hb hr hlocks hS (by first | exact Or.inl rfl | exact Or.inr rfl) (⟨show (0 : Int32).toInt = 0 ∨ (0 : Int32).toInt = 1 from (by first | assumption | omega), show ((0 : Int32).toInt = 1 ∧ plW w9 from_.toInt n.toInt) ∨ ((0 : Int32).toInt = 0 ∧ ¬ plW w9 from_.toInt n.toInt) from (Or.inr ⟨by omega, fun q => by have q9 := q i.toInt (by omega) (by omega); omega⟩)⟩) hQ dX11_isPlain_24
  have hz_12 : (0 : Int32).toInt = 0 := by decide
  exact loop2 ((30 - (0 : Int32).toInt).toNat + 1) (0 : Int32) _ _ _ (by omega) (by first | assumption | omega) (fun b9 h8 h9 => absurd h9 (by omega)) hP hS (lv_sub hl [1, 2, 3, 0] rfl)
set_option maxRecDepth 100000 in
set_option maxHeartbeats 4000000 in
theorem k_closes3 (l : Launch) (D : va_G) (cI cR cM : ClassId) (sz : Nat) {jn mm : Nat} {q : Nat → Nat} {x0 x1 x2 x3 x4 x5 x6 x7 x8 x9 x10 x11 x12 x13 x14 x15 x16 x17 x18 x19 x20 : Int32} {f0 f1 f2 f3 f4 f5 f6 f7 f8 f9 f10 f11 f12 f13 f14 f15 f16 f17 f18 f19 f20 f21 f22 f23 f24 : Nat → Int32} {P ks vs : Nat → Int} {i : Nat} {w9 : Int → Int} (ht : 0 ≤ x2.toInt ∧ x2.toInt ≤ 300) (h5 : 0 ≤ x5.toInt ∧ x5.toInt ≤ x2.toInt) (hT : TokOK x7 x8) (hj : 1 ≤ jn ∧ jn ≤ 3) (h11 : 1 ≤ x11.toInt ∧ x11.toInt ≤ 5) (h10 : 0 ≤ x10.toInt ∧ x10.toInt ≤ 150) (hs0 : 0 ≤ (f6 (x11.toInt - 1).toNat).toInt ∧ (f6 (x11.toInt - 1).toNat).toInt ≤ (f6 x11.toInt.toNat).toInt ∧ (f6 x11.toInt.toNat).toInt ≤ x10.toInt) (hm0 : x10.toInt - (f6 x11.toInt.toNat).toInt ≤ 24) (ho4 : (f4 (x11.toInt - 1).toNat).toInt = 0 ∨ (7 ≤ (f4 (x11.toInt - 1).toNat).toInt ∧ (f4 (x11.toInt - 1).toNat).toInt ≤ 10)) (hd5 : 0 ≤ (f5 (x11.toInt - 1).toNat).toInt ∧ (f5 (x11.toInt - 1).toNat).toInt ≤ 9) (hC : CellsX jn f3 0 (6 * x10.toInt)) (hZ0 : ZX jn f3 0 x10.toInt) (hj1 : jn = 1) (hSM : SM (sE f2 x2.toInt) P ks vs) (hCU : CU P ks vs i x5 x7 x8) (hRW : RS f3 w9 x10.toInt) (hSo : ∀ b9 : Int, 0 ≤ b9 → b9 < x10.toInt → w9 (2 * b9 + 1) ≤ w9 (2 * b9)) (hnn : (f6 x11.toInt.toNat).toInt < x10.toInt) : Met l yX11_closes wsX11_closes ({ frames := 4, cells := 0, slots := 0, locals := 88 }) (P0 D cI cR cM [.ref mm] sz (mX mm q jn cI x0 x1 x2 x3 x4 x5 x6 x7 x8 x9 x10 x11 x12 x13 x14 x15 x16 x17 x18 x19 x20 f0 f1 f2 f3 f4 f5 f6 f7 f8 f9 f10 f11 f12 f13 f14 f15 f16 f17 f18 f19 f20 f21 f22 f23 f24)) (QG (S := Int32 × Int32 × Int32 × Int32 × Int32 × Int32 × Int32 × Int32 × (Nat → Int32) × (Nat → Int32)) (fun u => some (.int u.1)) (fun u => mX mm q jn cI x0 x1 x2 x3 x4 (u.2.1) (u.2.2.1) (u.2.2.2.1) (u.2.2.2.2.1) (u.2.2.2.2.2.1) x10 (u.2.2.2.2.2.2.1) (u.2.2.2.2.2.2.2.1) x13 x14 x15 x16 x17 x18 x19 x20 f0 f1 f2 (u.2.2.2.2.2.2.2.2.1) f4 f5 f6 (u.2.2.2.2.2.2.2.2.2) f8 f9 f10 f11 f12 f13 f14 f15 f16 f17 f18 f19 f20 f21 f22 f23 f24) (fun u => (x5.toInt ≤ u.2.1.toInt ∧ u.2.1.toInt ≤ x2.toInt) ∧ (TokOK u.2.2.2.1 u.2.2.2.2.1) ∧ (u.1.toInt = 0 → x5.toInt < u.2.1.toInt ∨ u.2.2.2.1.toInt = 0) ∧ (u.1.toInt = 0 → u.2.2.2.2.2.2.1.toInt = x11.toInt - 1 ∧ u.2.2.2.2.2.2.2.1.toInt = (f6 x11.toInt.toNat).toInt) ∧ (u.1.toInt = 0 → x10.toInt - (f6 (x11.toInt - 1).toNat).toInt ≤ 24) ∧ (u.1.toInt = 0 → CellsX jn u.2.2.2.2.2.2.2.2.1 0 (6 * x10.toInt)) ∧ (u.1.toInt = 0 → ZX jn u.2.2.2.2.2.2.2.2.1 0 x10.toInt) ∧ (Hd ((u.1.toInt = 0 ∧ x10.toInt - (f6 (x11.toInt - 1).toNat).toInt ≤ 24 ∧ CU P ks vs (i + 1) u.2.1 u.2.2.2.1 u.2.2.2.2.1 ∧ ∃ v9, ChW (f4 (x11.toInt - 1).toNat).toInt (f5 (x11.toInt - 1).toNat).toInt w9 (f6 x11.toInt.toNat).toInt (x10.toInt - (f6 x11.toInt.toNat).toInt) v9 ∧ RS u.2.2.2.2.2.2.2.2.1 v9 x10.toInt) ∨ (u.1.toInt ≠ 0 ∧ (24 < x10.toInt - (f6 (x11.toInt - 1).toNat).toInt ∨ ChF (f4 (x11.toInt - 1).toNat).toInt w9 (f6 x11.toInt.toNat).toInt (x10.toInt - (f6 x11.toInt.toNat).toInt)))))) D (va_A (mX mm q jn cI x0 x1 x2 x3 x4 x5 x6 x7 x8 x9 x10 x11 x12 x13 x14 x15 x16 x17 x18 x19 x20 f0 f1 f2 f3 f4 f5 f6 f7 f8 f9 f10 f11 f12 f13 f14 f15 f16 f17 f18 f19 f20 f21 f22 f23 f24) sz)) 0 0 (va_A (mX mm q jn cI x0 x1 x2 x3 x4 x5 x6 x7 x8 x9 x10 x11 x12 x13 x14 x15 x16 x17 x18 x19 x20 f0 f1 f2 f3 f4 f5 f6 f7 f8 f9 f10 f11 f12 f13 f14 f15 f16 f17 f18 f19 f20 f21 f22 f23 f24) sz) := by
  refine go (cc := cX11_closes) (maxL := 3) (ret := (some .int)) (by decide) rfl (Nat.le_of_ble_eq_true rfl) ?_
  intro p e s m below meth c ls args Q hQ hsz hx hb hr hml hts hown hlocks hnm hP hK hD hl
  subst hsz
  have hD := hD.self (sz := s.heap.size)
  generalize hAe : va_A (mX mm q jn cI x0 x1 x2 x3 x4 x5 x6 x7 x8 x9 x10 x11 x12 x13 x14 x15 x16 x17 x18 x19 x20 f0 f1 f2 f3 f4 f5 f6 f7 f8 f9 f10 f11 f12 f13 f14 f15 f16 f17 f18 f19 f20 f21 f22 f23 f24) s.heap.size = A at hD hQ
  have hA : ∀ q, s.heap.size ≤ q → A q := fun q h => by rw [← hAe]; exact Or.inr h
  have hS : va_S A s.heap s.heap [] := va_S.rf
  have hl : lv_has ls 3 [(0, .ref mm)] := hl
  have hcu0 := hCU
  obtain ⟨u1_0, u2_0, u3_0⟩ := hcu0
  refine lv_aload_n hx hb dX11_closes_0 rfl (lv_at hl 0 rfl) ?_
  refine va_get (D := D) (ci := 11) (v := .int x6) (C := RX11) (T := TX11) (N := 47) hx hb hts (by decide +kernel) hown hK.1 hP 0 rfl rfl 10 (by decide) (hts (.fieldLink RX11 120 "JugglingHallModel" "place" "I") (by decide +kernel)) (fun _ h9 => h9) rfl dX11_closes_1 ?_
  refine lv_istore_n (lv' := [(1, .int x6), (0, .ref mm)]) hx hb dX11_closes_4 rfl hl (by decide) rfl (fun ls hl => ?_)
  refine lv_aload_n hx hb dX11_closes_5 rfl (lv_at hl 1 rfl) ?_
  refine call_g (wr := []) (va_runV (As := []) (rest := []) ⟨hx, hb, hml, hown, hts⟩ (k_next2 l D cI cR cM _  (by first | assumption | omega) (by first | assumption | omega)) (cwV 0 hts gX11_closes_X11_nextToken rfl rfl rfl (by decide +kernel) ⟨Nat.le_of_ble_eq_true rfl, Nat.le_of_ble_eq_true rfl⟩) (pre_V hK hP hD 0 11 rfl rfl) rfl rfl hl.1 rfl (lv_room (Nat.le_of_ble_eq_true rfl)) dX11_closes_6 ⟨Nat.le_of_ble_eq_true rfl, Nat.le_of_ble_eq_true rfl⟩) hP hD hS hA [0, 1, 2, 3, 4, 5, 6, 7, 8, 9, 10, 11, 12, 13, 14, 15, 16, 17, 18, 19, 20, 21, 22, 23, 24, 25] [] (by with_unfolding_all rfl) rfl (by decide) (by decide) (fun u_1 H locs hw hP hD hS => ?_)
  obtain ⟨y5_1, y6_1, y7_1, y8_1⟩ := u_1
  have hP : va_P D vwCl (mX mm q jn cI x0 x1 x2 x3 x4 y5_1 y6_1 y7_1 y8_1 x9 x10 x11 x12 x13 x14 x15 x16 x17 x18 x19 x20 f0 f1 f2 f3 f4 f5 f6 f7 f8 f9 f10 f11 f12 f13 f14 f15 f16 f17 f18 f19 f20 f21 f22 f23 f24) H := hP
  have hD : va_D A (mX mm q jn cI x0 x1 x2 x3 x4 y5_1 y6_1 y7_1 y8_1 x9 x10 x11 x12 x13 x14 x15 x16 x17 x18 x19 x20 f0 f1 f2 f3 f4 f5 f6 f7 f8 f9 f10 f11 f12 f13 f14 f15 f16 f17 f18 f19 f20 f21 f22 f23 f24) := hD
  obtain ⟨ha_1, hp_1, hk_1, hT_1, hR_1⟩ : (x5.toInt ≤ y5_1.toInt ∧ y5_1.toInt ≤ x2.toInt) ∧ (0 ≤ y6_1.toInt ∧ y6_1.toInt ≤ 300) ∧ (y7_1.toInt = 0 ∨ x5.toInt < y5_1.toInt) ∧ (TokOK y7_1 y8_1) ∧ (∃ v9 : Int, TkR (sE f2 x2.toInt) x5.toInt y7_1.toInt v9 y6_1.toInt y5_1.toInt ∧ (y7_1.toInt = 1 ∨ y7_1.toInt = 2 → y8_1.toInt = v9)) := hw
  obtain ⟨v9_1, q1_1, q2_1⟩ := hR_1
  have hcu_1 : CU P ks vs (i + 1) y5_1 y7_1 y8_1 := CU_n hSM hCU.1 q1_1 q2_1
  have hcv_1 := hcu_1
  obtain ⟨u1_1, u2_1, u3_1⟩ := hcv_1
  refine lv_aload_n hx hb dX11_closes_9 rfl (lv_at hl 1 rfl) ?_
  refine lv_dup hx hb dX11_closes_10 rfl ?_
  refine va_get (D := D) (ci := 11) (v := .int x11) (C := RX11) (T := TX11) (N := 47) hx hb hts (by decide +kernel) hown hK.1 hP 0 rfl rfl 20 (by decide) (hts (.fieldLink RX11 154 "JugglingHallModel" "depth" "I") (by decide +kernel)) (fun _ h9 => h9) rfl dX11_closes_11 ?_
  refine lv_iconst (v := 1) hx hb dX11_closes_14 (by decide) ?_
  refine a_isub (u := x11.toInt) (v := 1) hx hb dX11_closes_15 (rfl) (by decide) (by omega) (fun z_2 e_2 => ?_)
  refine mp_11 hx hb hts (by decide +kernel) hown hK hP hD hS (hts (.fieldLink RX11 154 "JugglingHallModel" "depth" "I") (by decide +kernel)) dX11_closes_16 (fun H locs hP hD hS => ?_)
  refine lv_aload_n hx hb dX11_closes_19 rfl (lv_at hl 1 rfl) ?_
  refine lv_aload_n hx hb dX11_closes_20 rfl (lv_at hl 1 rfl) ?_
  refine va_get (D := D) (ci := 11) (v := .ref (q 6)) (C := RX11) (T := TX11) (N := 47) hx hb hts (by decide +kernel) hown hK.1 hP 0 rfl rfl 17 (by decide) (hts (.fieldLink RX11 36 "JugglingHallModel" "starts" "[I") (by decide +kernel)) (fun _ h9 => h9) rfl dX11_closes_21 ?_
  refine lv_aload_n hx hb dX11_closes_24 rfl (lv_at hl 1 rfl) ?_
  refine va_get (D := D) (ci := 11) (v := .int z_2) (C := RX11) (T := TX11) (N := 47) hx hb hts (by decide +kernel) hown hK.1 hP 0 rfl rfl 20 (by decide) (hts (.fieldLink RX11 154 "JugglingHallModel" "depth" "I") (by decide +kernel)) (fun _ h9 => h9) rfl dX11_closes_25 ?_
  refine lv_iconst (v := 1) hx hb dX11_closes_28 (by decide) ?_
  refine a_iadd (u := (x11.toInt - 1)) (v := 1) hx hb dX11_closes_29 (e_2) (by decide) (by omega) (fun z_3 e_3 => ?_)
  refine a_iald (f := f6) (u := ((x11.toInt - 1) + 1)) hx hb hK.1 hP 7 0 rfl rfl dX11_closes_30 (e_3) (by omega) (fun z_4 q_4 e_4 => ?_)
  have hs9_4 : z_4.toInt = (f6 x11.toInt.toNat).toInt := by rw [q_4, show ((x11.toInt - 1) + 1) = x11.toInt by omega]
  refine mp_12 hx hb hts (by decide +kernel) hown hK hP hD hS (hts (.fieldLink RX11 176 "JugglingHallModel" "oneStart" "I") (by decide +kernel)) dX11_closes_31 (fun H locs hP hD hS => ?_)
  refine lv_aload_n hx hb dX11_closes_34 rfl (lv_at hl 1 rfl) ?_
  refine va_get (D := D) (ci := 11) (v := .int x10) (C := RX11) (T := TX11) (N := 47) hx hb hts (by decide +kernel) hown hK.1 hP 0 rfl rfl 19 (by decide) (hts (.fieldLink RX11 151 "JugglingHallModel" "top" "I") (by decide +kernel)) (fun _ h9 => h9) rfl dX11_closes_35 ?_
  refine lv_aload_n hx hb dX11_closes_38 rfl (lv_at hl 1 rfl) ?_
  refine va_get (D := D) (ci := 11) (v := .int z_4) (C := RX11) (T := TX11) (N := 47) hx hb hts (by decide +kernel) hown hK.1 hP 0 rfl rfl 21 (by decide) (hts (.fieldLink RX11 176 "JugglingHallModel" "oneStart" "I") (by decide +kernel)) (fun _ h9 => h9) rfl dX11_closes_39 ?_
  refine a_isub (u := x10.toInt) (v := z_4.toInt) hx hb dX11_closes_42 (rfl) (rfl) (by omega) (fun z_5 e_5 => ?_)
  refine lv_istore_n (lv' := [(2, .int z_5), (1, .int x6), (0, .ref mm)]) hx hb dX11_closes_43 rfl hl (by decide) rfl (fun ls hl => ?_)
  refine lv_aload_n hx hb dX11_closes_44 rfl (lv_at hl 2 rfl) ?_
  have hz11 : z_2.toInt = x11.toInt - 1 := by omega
  have hf6z : (f6 z_2.toInt.toNat).toInt = (f6 (x11.toInt - 1).toNat).toInt := by rw [hz11]
  refine roP (va_runV (As := []) (rest := []) ⟨hx, hb, hml, hown, hts⟩ (k_many l D cI cR cM _  (by first | assumption | omega) (by first | assumption | omega) (by first | assumption | omega)) (cwV 0 hts gX11_closes_X11_many rfl rfl rfl (by decide +kernel) ⟨Nat.le_of_ble_eq_true rfl, Nat.le_of_ble_eq_true rfl⟩) (pre_V hK hP hD 0 11 rfl rfl) rfl rfl hl.1 rfl (lv_room (Nat.le_of_ble_eq_true rfl)) dX11_closes_45 ⟨Nat.le_of_ble_eq_true rfl, Nat.le_of_ble_eq_true rfl⟩) hS hA hP (fun r_6 H locs hw hP hS => ?_)
  have h_6 : (r_6.toInt = x10.toInt - (f6 z_2.toInt.toNat).toInt) := hw
  refine lv_bipush (v := 24) hx hb dX11_closes_48 (by decide) ?_
  refine a_icmp_le (u := r_6.toInt) (v := 24) (tgt := 60) hx hb dX11_closes_50 (by decide) (rfl) (by decide) (fun c_7 => ?_) (fun c_7 => ?_)
  · refine lv_aload_n hx hb dX11_closes_60 rfl (lv_at hl 2 rfl) ?_
    refine va_get (D := D) (ci := 11) (v := .ref (q 4)) (C := RX11) (T := TX11) (N := 47) hx hb hts (by decide +kernel) hown hK.1 hP 0 rfl rfl 15 (by decide) (hts (.fieldLink RX11 30 "JugglingHallModel" "open" "[I") (by decide +kernel)) (fun _ h9 => h9) rfl dX11_closes_61 ?_
    refine lv_aload_n hx hb dX11_closes_64 rfl (lv_at hl 2 rfl) ?_
    refine va_get (D := D) (ci := 11) (v := .int z_2) (C := RX11) (T := TX11) (N := 47) hx hb hts (by decide +kernel) hown hK.1 hP 0 rfl rfl 20 (by decide) (hts (.fieldLink RX11 154 "JugglingHallModel" "depth" "I") (by decide +kernel)) (fun _ h9 => h9) rfl dX11_closes_65 ?_
    refine a_iald (f := f4) (u := (x11.toInt - 1)) hx hb hK.1 hP 5 0 rfl rfl dX11_closes_68 (e_2) (by omega) (fun z_8 q_8 e_8 => ?_)
    have ho9_8 : z_8.toInt = (f4 (x11.toInt - 1).toNat).toInt := by rw [q_8, show (x11.toInt - 1) = x11.toInt - 1 by omega]
    refine lv_bipush (v := 9) hx hb dX11_closes_69 (by decide) ?_
    refine a_icmp_ne (u := z_8.toInt) (v := 9) (tgt := 93) hx hb dX11_closes_71 (by decide) (rfl) (by decide) (fun c_9 => ?_) (fun c_9 => ?_)
    · refine lv_aload_n hx hb dX11_closes_93 rfl (lv_at hl 2 rfl) ?_
      refine va_get (D := D) (ci := 11) (v := .ref (q 4)) (C := RX11) (T := TX11) (N := 47) hx hb hts (by decide +kernel) hown hK.1 hP 0 rfl rfl 15 (by decide) (hts (.fieldLink RX11 30 "JugglingHallModel" "open" "[I") (by decide +kernel)) (fun _ h9 => h9) rfl dX11_closes_94 ?_
      refine lv_aload_n hx hb dX11_closes_97 rfl (lv_at hl 2 rfl) ?_
      refine va_get (D := D) (ci := 11) (v := .int z_2) (C := RX11) (T := TX11) (N := 47) hx hb hts (by decide +kernel) hown hK.1 hP 0 rfl rfl 20 (by decide) (hts (.fieldLink RX11 154 "JugglingHallModel" "depth" "I") (by decide +kernel)) (fun _ h9 => h9) rfl dX11_closes_98 ?_
      refine a_iald (f := f4) (u := (x11.toInt - 1)) hx hb hK.1 hP 5 0 rfl rfl dX11_closes_101 (e_2) (by omega) (fun z_10 q_10 e_10 => ?_)
      have ho9_10 : z_10.toInt = (f4 (x11.toInt - 1).toNat).toInt := by rw [q_10, show (x11.toInt - 1) = x11.toInt - 1 by omega]
      refine a_if_le (u := z_10.toInt) (tgt := 142) hx hb dX11_closes_102 (by decide) (rfl) (fun c_11 => ?_) (fun c_11 => ?_)
      · refine lv_iconst (v := 0) hx hb dX11_closes_142 (by decide) ?_
        have hz_12 : (0 : Int32).toInt = 0 := by decide
        exact g_iret ((0 : Int32), y5_1, y6_1, y7_1, y8_1, x9, z_2, z_4, f3, f7) hx hb hr hlocks hS rfl (⟨show x5.toInt ≤ y5_1.toInt ∧ y5_1.toInt ≤ x2.toInt from (by first | assumption | omega), show TokOK y7_1 y8_1 from (by first | assumption | omega), show (0 : Int32).toInt = 0 → x5.toInt < y5_1.toInt ∨ y7_1.toInt = 0 from (by first | assumption | omega), show (0 : Int32).toInt = 0 → z_2.toInt = x11.toInt - 1 ∧ z_4.toInt = (f6 x11.toInt.toNat).toInt from (by first | assumption | omega), show (0 : Int32).toInt = 0 → x10.toInt - (f6 (x11.toInt - 1).toNat).toInt ≤ 24 from (by first | assumption | omega), show (0 : Int32).toInt = 0 → CellsX jn f3 0 (6 * x10.toInt) from (fun _ => hC), show (0 : Int32).toInt = 0 → ZX jn f3 0 x10.toInt from (fun _ => hZ0), show Hd (((0 : Int32).toInt = 0 ∧ x10.toInt - (f6 (x11.toInt - 1).toNat).toInt ≤ 24 ∧ CU P ks vs (i + 1) y5_1 y7_1 y8_1 ∧ ∃ v9, ChW (f4 (x11.toInt - 1).toNat).toInt (f5 (x11.toInt - 1).toNat).toInt w9 (f6 x11.toInt.toNat).toInt (x10.toInt - (f6 x11.toInt.toNat).toInt) v9 ∧ RS f3 v9 x10.toInt) ∨ ((0 : Int32).toInt ≠ 0 ∧ (24 < x10.toInt - (f6 (x11.toInt - 1).toNat).toInt ∨ ChF (f4 (x11.toInt - 1).toNat).toInt w9 (f6 x11.toInt.toNat).toInt (x10.toInt - (f6 x11.toInt.toNat).toInt)))) from (Or.inl ⟨by omega, by omega, hcu_1, w9, Or.inl ⟨by omega, rfl⟩, hRW⟩)⟩) hP hD hQ (Nat.le_of_ble_eq_true rfl) (Nat.le_of_ble_eq_true rfl) dX11_closes_143
      · refine lv_aload_n hx hb dX11_closes_105 rfl (lv_at hl 2 rfl) ?_
        refine lv_aload_n hx hb dX11_closes_106 rfl (lv_at hl 2 rfl) ?_
        refine va_get (D := D) (ci := 11) (v := .ref (q 4)) (C := RX11) (T := TX11) (N := 47) hx hb hts (by decide +kernel) hown hK.1 hP 0 rfl rfl 15 (by decide) (hts (.fieldLink RX11 30 "JugglingHallModel" "open" "[I") (by decide +kernel)) (fun _ h9 => h9) rfl dX11_closes_107 ?_
        refine lv_aload_n hx hb dX11_closes_110 rfl (lv_at hl 2 rfl) ?_
        refine va_get (D := D) (ci := 11) (v := .int z_2) (C := RX11) (T := TX11) (N := 47) hx hb hts (by decide +kernel) hown hK.1 hP 0 rfl rfl 20 (by decide) (hts (.fieldLink RX11 154 "JugglingHallModel" "depth" "I") (by decide +kernel)) (fun _ h9 => h9) rfl dX11_closes_111 ?_
        refine a_iald (f := f4) (u := (x11.toInt - 1)) hx hb hK.1 hP 5 0 rfl rfl dX11_closes_114 (e_2) (by omega) (fun z_13 q_13 e_13 => ?_)
        have ho9_13 : z_13.toInt = (f4 (x11.toInt - 1).toNat).toInt := by rw [q_13, show (x11.toInt - 1) = x11.toInt - 1 by omega]
        refine lv_aload_n hx hb dX11_closes_115 rfl (lv_at hl 2 rfl) ?_
        refine va_get (D := D) (ci := 11) (v := .ref (q 5)) (C := RX11) (T := TX11) (N := 47) hx hb hts (by decide +kernel) hown hK.1 hP 0 rfl rfl 16 (by decide) (hts (.fieldLink RX11 33 "JugglingHallModel" "digit" "[I") (by decide +kernel)) (fun _ h9 => h9) rfl dX11_closes_116 ?_
        refine lv_aload_n hx hb dX11_closes_119 rfl (lv_at hl 2 rfl) ?_
        refine va_get (D := D) (ci := 11) (v := .int z_2) (C := RX11) (T := TX11) (N := 47) hx hb hts (by decide +kernel) hown hK.1 hP 0 rfl rfl 20 (by decide) (hts (.fieldLink RX11 154 "JugglingHallModel" "depth" "I") (by decide +kernel)) (fun _ h9 => h9) rfl dX11_closes_120 ?_
        refine a_iald (f := f5) (u := (x11.toInt - 1)) hx hb hK.1 hP 6 0 rfl rfl dX11_closes_123 (e_2) (by omega) (fun z_14 q_14 e_14 => ?_)
        have hd9_14 : z_14.toInt = (f5 (x11.toInt - 1).toNat).toInt := by rw [q_14, show (x11.toInt - 1) = x11.toInt - 1 by omega]
        refine lv_aload_n hx hb dX11_closes_124 rfl (lv_at hl 2 rfl) ?_
        refine va_get (D := D) (ci := 11) (v := .int z_4) (C := RX11) (T := TX11) (N := 47) hx hb hts (by decide +kernel) hown hK.1 hP 0 rfl rfl 21 (by decide) (hts (.fieldLink RX11 176 "JugglingHallModel" "oneStart" "I") (by decide +kernel)) (fun _ h9 => h9) rfl dX11_closes_125 ?_
        refine lv_iload_n hx hb dX11_closes_128 rfl (lv_at hl 0 rfl) ?_
        have hfn : z_4.toInt + z_5.toInt = x10.toInt := by omega
        have hfr : z_4.toInt = (f6 x11.toInt.toNat).toInt := by omega
        have hnr : z_5.toInt = x10.toInt - (f6 x11.toInt.toNat).toInt := by omega
        refine call_g (wr := []) (va_runV (As := [.int z_13, .int z_14, .int z_4, .int z_5]) (rest := []) ⟨hx, hb, hml, hown, hts⟩ (k_turns3 l D cI cR cM _ (w9 := w9) (by first | assumption | omega) (by first | assumption | omega) (by first | assumption | omega) (by first | assumption | omega) (by rw [hfn]; exact hC) (by rw [hfn]; exact hZ0) (by first | assumption | omega) (by rw [hfn]; exact hRW) (by first | assumption | omega) (by rw [hfn]; exact hSo) (fun q9 => absurd q9 (by omega))) (cwV 4 hts gX11_closes_X11_turns rfl rfl rfl (by decide +kernel) ⟨Nat.le_of_ble_eq_true rfl, Nat.le_of_ble_eq_true rfl⟩) (pre_V hK hP hD 0 11 rfl rfl) rfl rfl hl.1 rfl (lv_room (Nat.le_of_ble_eq_true rfl)) dX11_closes_129 ⟨Nat.le_of_ble_eq_true rfl, Nat.le_of_ble_eq_true rfl⟩) hP hD hS hA [0, 1, 2, 3, 4, 5, 6, 7, 8, 9, 10, 11, 12, 13, 14, 15, 16, 17, 18, 19, 20, 21, 22, 23, 24, 25] [] (by with_unfolding_all rfl) rfl (by decide) (by decide) (fun u_15 H locs hw hP hD hS => ?_)
        obtain ⟨r_15, g3_15, g7_15⟩ := u_15
        have hP : va_P D vwCl (mX mm q jn cI x0 x1 x2 x3 x4 y5_1 y6_1 y7_1 y8_1 x9 x10 z_2 z_4 x13 x14 x15 x16 x17 x18 x19 x20 f0 f1 f2 g3_15 f4 f5 f6 g7_15 f8 f9 f10 f11 f12 f13 f14 f15 f16 f17 f18 f19 f20 f21 f22 f23 f24) H := hP
        have hD : va_D A (mX mm q jn cI x0 x1 x2 x3 x4 y5_1 y6_1 y7_1 y8_1 x9 x10 z_2 z_4 x13 x14 x15 x16 x17 x18 x19 x20 f0 f1 f2 g3_15 f4 f5 f6 g7_15 f8 f9 f10 f11 f12 f13 f14 f15 f16 f17 f18 f19 f20 f21 f22 f23 f24) := hD
        obtain ⟨h_15, hC_15, hZ_15, hF_15⟩ : (r_15.toInt = 0 ∨ r_15.toInt = 1) ∧ (CellsX jn g3_15 0 (6 * (z_4.toInt + z_5.toInt))) ∧ (ZX jn g3_15 0 (z_4.toInt + z_5.toInt)) ∧ (Hd ((r_15.toInt = 1 ∧ ∃ v9, ChW z_13.toInt z_14.toInt w9 z_4.toInt z_5.toInt v9 ∧ RS g3_15 v9 (z_4.toInt + z_5.toInt)) ∨ (r_15.toInt = 0 ∧ ChF z_13.toInt w9 z_4.toInt z_5.toInt))) := hw
        refine a_if_ne (u := r_15.toInt) (tgt := 142) hx hb dX11_closes_132 (by decide) (rfl) (fun c_16 => ?_) (fun c_16 => ?_)
        · refine lv_iconst (v := 0) hx hb dX11_closes_142 (by decide) ?_
          have hz_17 : (0 : Int32).toInt = 0 := by decide
          exact g_iret ((0 : Int32), y5_1, y6_1, y7_1, y8_1, x9, z_2, z_4, g3_15, g7_15) hx hb hr hlocks hS rfl (⟨show x5.toInt ≤ y5_1.toInt ∧ y5_1.toInt ≤ x2.toInt from (by first | assumption | omega), show TokOK y7_1 y8_1 from (by first | assumption | omega), show (0 : Int32).toInt = 0 → x5.toInt < y5_1.toInt ∨ y7_1.toInt = 0 from (by first | assumption | omega), show (0 : Int32).toInt = 0 → z_2.toInt = x11.toInt - 1 ∧ z_4.toInt = (f6 x11.toInt.toNat).toInt from (by first | assumption | omega), show (0 : Int32).toInt = 0 → x10.toInt - (f6 (x11.toInt - 1).toNat).toInt ≤ 24 from (by first | assumption | omega), show (0 : Int32).toInt = 0 → CellsX jn g3_15 0 (6 * x10.toInt) from (fun _ => by have h9 := hC_15; rw [hfn] at h9; exact h9), show (0 : Int32).toInt = 0 → ZX jn g3_15 0 x10.toInt from (fun _ => by have h9 := hZ_15; rw [hfn] at h9; exact h9), show Hd (((0 : Int32).toInt = 0 ∧ x10.toInt - (f6 (x11.toInt - 1).toNat).toInt ≤ 24 ∧ CU P ks vs (i + 1) y5_1 y7_1 y8_1 ∧ ∃ v9, ChW (f4 (x11.toInt - 1).toNat).toInt (f5 (x11.toInt - 1).toNat).toInt w9 (f6 x11.toInt.toNat).toInt (x10.toInt - (f6 x11.toInt.toNat).toInt) v9 ∧ RS g3_15 v9 x10.toInt) ∨ ((0 : Int32).toInt ≠ 0 ∧ (24 < x10.toInt - (f6 (x11.toInt - 1).toNat).toInt ∨ ChF (f4 (x11.toInt - 1).toNat).toInt w9 (f6 x11.toInt.toNat).toInt (x10.toInt - (f6 x11.toInt.toNat).toInt)))) from (by
            rcases hF_15 with ⟨t1, v9, t2, t3⟩ | ⟨t1, t2⟩
            · rw [hfr, hnr, show z_13.toInt = (f4 (x11.toInt - 1).toNat).toInt by omega, show z_14.toInt = (f5 (x11.toInt - 1).toNat).toInt by omega] at t2
              rw [hfn] at t3
              exact Or.inl ⟨by omega, by omega, hcu_1, v9, t2, t3⟩
            · exact absurd t1 (by omega))⟩) hP hD hQ (Nat.le_of_ble_eq_true rfl) (Nat.le_of_ble_eq_true rfl) dX11_closes_143
        · refine lv_aload_n hx hb dX11_closes_135 rfl (lv_at hl 2 rfl) ?_
          refine lv_iconst (v := 5) hx hb dX11_closes_136 (by decide) ?_
          refine lv_iload_n hx hb dX11_closes_137 rfl (lv_at hl 1 rfl) ?_
          have hz_18 : (5 : Int32).toInt = 5 := by decide
          refine call_g (wr := []) (va_runV (As := [.int 5, .int x6]) (rest := []) ⟨hx, hb, hml, hown, hts⟩ (k_fails l D cI cR cM _  ) (cwV 2 hts gX11_closes_X11_fails rfl rfl rfl (by decide +kernel) ⟨Nat.le_of_ble_eq_true rfl, Nat.le_of_ble_eq_true rfl⟩) (pre_V hK hP hD 0 11 rfl rfl) rfl rfl hl.1 rfl (lv_room (Nat.le_of_ble_eq_true rfl)) dX11_closes_138 ⟨Nat.le_of_ble_eq_true rfl, Nat.le_of_ble_eq_true rfl⟩) hP hD hS hA [0, 1, 2, 3, 4, 5, 6, 7, 8, 9, 10, 11, 12, 13, 14, 15, 16, 17, 18, 19, 20, 21, 22, 23, 24, 25] [] (by with_unfolding_all rfl) rfl (by decide) (by decide) (fun u_19 H locs hw hP hD hS => ?_)
          obtain ⟨r_19, y9_19⟩ := u_19
          have hP : va_P D vwCl (mX mm q jn cI x0 x1 x2 x3 x4 y5_1 y6_1 y7_1 y8_1 y9_19 x10 z_2 z_4 x13 x14 x15 x16 x17 x18 x19 x20 f0 f1 f2 g3_15 f4 f5 f6 g7_15 f8 f9 f10 f11 f12 f13 f14 f15 f16 f17 f18 f19 f20 f21 f22 f23 f24) H := hP
          have hD : va_D A (mX mm q jn cI x0 x1 x2 x3 x4 y5_1 y6_1 y7_1 y8_1 y9_19 x10 z_2 z_4 x13 x14 x15 x16 x17 x18 x19 x20 f0 f1 f2 g3_15 f4 f5 f6 g7_15 f8 f9 f10 f11 f12 f13 f14 f15 f16 f17 f18 f19 f20 f21 f22 f23 f24) := hD
          have hr_19 : (r_19.toInt = (5 : Int32).toInt) := hw
          exact g_iret (r_19, y5_1, y6_1, y7_1, y8_1, y9_19, z_2, z_4, g3_15, g7_15) hx hb hr hlocks hS rfl (⟨show x5.toInt ≤ y5_1.toInt ∧ y5_1.toInt ≤ x2.toInt from (by first | assumption | omega), show TokOK y7_1 y8_1 from (by first | assumption | omega), show r_19.toInt = 0 → x5.toInt < y5_1.toInt ∨ y7_1.toInt = 0 from (by first | assumption | omega), show r_19.toInt = 0 → z_2.toInt = x11.toInt - 1 ∧ z_4.toInt = (f6 x11.toInt.toNat).toInt from (by first | assumption | omega), show r_19.toInt = 0 → x10.toInt - (f6 (x11.toInt - 1).toNat).toInt ≤ 24 from (by first | assumption | omega), show r_19.toInt = 0 → CellsX jn g3_15 0 (6 * x10.toInt) from (fun q => absurd q (by omega)), show r_19.toInt = 0 → ZX jn g3_15 0 x10.toInt from (fun q => absurd q (by omega)), show Hd ((r_19.toInt = 0 ∧ x10.toInt - (f6 (x11.toInt - 1).toNat).toInt ≤ 24 ∧ CU P ks vs (i + 1) y5_1 y7_1 y8_1 ∧ ∃ v9, ChW (f4 (x11.toInt - 1).toNat).toInt (f5 (x11.toInt - 1).toNat).toInt w9 (f6 x11.toInt.toNat).toInt (x10.toInt - (f6 x11.toInt.toNat).toInt) v9 ∧ RS g3_15 v9 x10.toInt) ∨ (r_19.toInt ≠ 0 ∧ (24 < x10.toInt - (f6 (x11.toInt - 1).toNat).toInt ∨ ChF (f4 (x11.toInt - 1).toNat).toInt w9 (f6 x11.toInt.toNat).toInt (x10.toInt - (f6 x11.toInt.toNat).toInt)))) from (by
            rcases hF_15 with ⟨t1, v9, t2, t3⟩ | ⟨t1, t2⟩
            · exact absurd t1 (by omega)
            · rw [hfr, hnr, show z_13.toInt = (f4 (x11.toInt - 1).toNat).toInt by omega] at t2
              exact Or.inr ⟨by omega, Or.inr t2⟩)⟩) hP hD hQ (Nat.le_of_ble_eq_true rfl) (Nat.le_of_ble_eq_true rfl) dX11_closes_141
    · refine lv_aload_n hx hb dX11_closes_74 rfl (lv_at hl 2 rfl) ?_
      refine lv_aload_n hx hb dX11_closes_75 rfl (lv_at hl 2 rfl) ?_
      refine va_get (D := D) (ci := 11) (v := .int z_4) (C := RX11) (T := TX11) (N := 47) hx hb hts (by decide +kernel) hown hK.1 hP 0 rfl rfl 21 (by decide) (hts (.fieldLink RX11 176 "JugglingHallModel" "oneStart" "I") (by decide +kernel)) (fun _ h9 => h9) rfl dX11_closes_76 ?_
      refine lv_iload_n hx hb dX11_closes_79 rfl (lv_at hl 0 rfl) ?_
      have hfr9 : z_4.toInt = (f6 x11.toInt.toNat).toInt := by omega
      have hnr9 : z_5.toInt = x10.toInt - (f6 x11.toInt.toNat).toInt := by omega
      have hfn9 : z_4.toInt + z_5.toInt = x10.toInt := by omega
      refine roP (va_runV (As := [.int z_4, .int z_5]) (rest := []) ⟨hx, hb, hml, hown, hts⟩ (k_isPlain3 l D cI cR cM _ (w9 := w9) (by first | assumption | omega) (by first | assumption | omega) (by first | assumption | omega) (by first | assumption | omega) (by rw [hfn9]; exact hRW) (by rw [hfn9]; exact hC)) (cwV 2 hts gX11_closes_X11_isPlain rfl rfl rfl (by decide +kernel) ⟨Nat.le_of_ble_eq_true rfl, Nat.le_of_ble_eq_true rfl⟩) (pre_V hK hP hD 0 11 rfl rfl) rfl rfl hl.1 rfl (lv_room (Nat.le_of_ble_eq_true rfl)) dX11_closes_80 ⟨Nat.le_of_ble_eq_true rfl, Nat.le_of_ble_eq_true rfl⟩) hS hA hP (fun r_20 H locs hw hP hS => ?_)
      obtain ⟨h_20, hF_20⟩ : (r_20.toInt = 0 ∨ r_20.toInt = 1) ∧ ((r_20.toInt = 1 ∧ plW w9 z_4.toInt z_5.toInt) ∨ (r_20.toInt = 0 ∧ ¬ plW w9 z_4.toInt z_5.toInt)) := hw
      refine a_if_ne (u := r_20.toInt) (tgt := 93) hx hb dX11_closes_83 (by decide) (rfl) (fun c_21 => ?_) (fun c_21 => ?_)
      · refine lv_aload_n hx hb dX11_closes_93 rfl (lv_at hl 2 rfl) ?_
        refine va_get (D := D) (ci := 11) (v := .ref (q 4)) (C := RX11) (T := TX11) (N := 47) hx hb hts (by decide +kernel) hown hK.1 hP 0 rfl rfl 15 (by decide) (hts (.fieldLink RX11 30 "JugglingHallModel" "open" "[I") (by decide +kernel)) (fun _ h9 => h9) rfl dX11_closes_94 ?_
        refine lv_aload_n hx hb dX11_closes_97 rfl (lv_at hl 2 rfl) ?_
        refine va_get (D := D) (ci := 11) (v := .int z_2) (C := RX11) (T := TX11) (N := 47) hx hb hts (by decide +kernel) hown hK.1 hP 0 rfl rfl 20 (by decide) (hts (.fieldLink RX11 154 "JugglingHallModel" "depth" "I") (by decide +kernel)) (fun _ h9 => h9) rfl dX11_closes_98 ?_
        refine a_iald (f := f4) (u := (x11.toInt - 1)) hx hb hK.1 hP 5 0 rfl rfl dX11_closes_101 (e_2) (by omega) (fun z_22 q_22 e_22 => ?_)
        have ho9_22 : z_22.toInt = (f4 (x11.toInt - 1).toNat).toInt := by rw [q_22, show (x11.toInt - 1) = x11.toInt - 1 by omega]
        refine a_if_le (u := z_22.toInt) (tgt := 142) hx hb dX11_closes_102 (by decide) (rfl) (fun c_23 => ?_) (fun c_23 => ?_)
        · refine lv_iconst (v := 0) hx hb dX11_closes_142 (by decide) ?_
          have hz_24 : (0 : Int32).toInt = 0 := by decide
          exact g_iret ((0 : Int32), y5_1, y6_1, y7_1, y8_1, x9, z_2, z_4, f3, f7) hx hb hr hlocks hS rfl (⟨show x5.toInt ≤ y5_1.toInt ∧ y5_1.toInt ≤ x2.toInt from (by first | assumption | omega), show TokOK y7_1 y8_1 from (by first | assumption | omega), show (0 : Int32).toInt = 0 → x5.toInt < y5_1.toInt ∨ y7_1.toInt = 0 from (by first | assumption | omega), show (0 : Int32).toInt = 0 → z_2.toInt = x11.toInt - 1 ∧ z_4.toInt = (f6 x11.toInt.toNat).toInt from (by first | assumption | omega), show (0 : Int32).toInt = 0 → x10.toInt - (f6 (x11.toInt - 1).toNat).toInt ≤ 24 from (by first | assumption | omega), show (0 : Int32).toInt = 0 → CellsX jn f3 0 (6 * x10.toInt) from (fun _ => hC), show (0 : Int32).toInt = 0 → ZX jn f3 0 x10.toInt from (fun _ => hZ0), show Hd (((0 : Int32).toInt = 0 ∧ x10.toInt - (f6 (x11.toInt - 1).toNat).toInt ≤ 24 ∧ CU P ks vs (i + 1) y5_1 y7_1 y8_1 ∧ ∃ v9, ChW (f4 (x11.toInt - 1).toNat).toInt (f5 (x11.toInt - 1).toNat).toInt w9 (f6 x11.toInt.toNat).toInt (x10.toInt - (f6 x11.toInt.toNat).toInt) v9 ∧ RS f3 v9 x10.toInt) ∨ ((0 : Int32).toInt ≠ 0 ∧ (24 < x10.toInt - (f6 (x11.toInt - 1).toNat).toInt ∨ ChF (f4 (x11.toInt - 1).toNat).toInt w9 (f6 x11.toInt.toNat).toInt (x10.toInt - (f6 x11.toInt.toNat).toInt)))) from (Or.inl ⟨by omega, by omega, hcu_1, w9, Or.inl ⟨by omega, rfl⟩, hRW⟩)⟩) hP hD hQ (Nat.le_of_ble_eq_true rfl) (Nat.le_of_ble_eq_true rfl) dX11_closes_143
        · refine lv_aload_n hx hb dX11_closes_105 rfl (lv_at hl 2 rfl) ?_
          refine lv_aload_n hx hb dX11_closes_106 rfl (lv_at hl 2 rfl) ?_
          refine va_get (D := D) (ci := 11) (v := .ref (q 4)) (C := RX11) (T := TX11) (N := 47) hx hb hts (by decide +kernel) hown hK.1 hP 0 rfl rfl 15 (by decide) (hts (.fieldLink RX11 30 "JugglingHallModel" "open" "[I") (by decide +kernel)) (fun _ h9 => h9) rfl dX11_closes_107 ?_
          refine lv_aload_n hx hb dX11_closes_110 rfl (lv_at hl 2 rfl) ?_
          refine va_get (D := D) (ci := 11) (v := .int z_2) (C := RX11) (T := TX11) (N := 47) hx hb hts (by decide +kernel) hown hK.1 hP 0 rfl rfl 20 (by decide) (hts (.fieldLink RX11 154 "JugglingHallModel" "depth" "I") (by decide +kernel)) (fun _ h9 => h9) rfl dX11_closes_111 ?_
          refine a_iald (f := f4) (u := (x11.toInt - 1)) hx hb hK.1 hP 5 0 rfl rfl dX11_closes_114 (e_2) (by omega) (fun z_25 q_25 e_25 => ?_)
          have ho9_25 : z_25.toInt = (f4 (x11.toInt - 1).toNat).toInt := by rw [q_25, show (x11.toInt - 1) = x11.toInt - 1 by omega]
          refine lv_aload_n hx hb dX11_closes_115 rfl (lv_at hl 2 rfl) ?_
          refine va_get (D := D) (ci := 11) (v := .ref (q 5)) (C := RX11) (T := TX11) (N := 47) hx hb hts (by decide +kernel) hown hK.1 hP 0 rfl rfl 16 (by decide) (hts (.fieldLink RX11 33 "JugglingHallModel" "digit" "[I") (by decide +kernel)) (fun _ h9 => h9) rfl dX11_closes_116 ?_
          refine lv_aload_n hx hb dX11_closes_119 rfl (lv_at hl 2 rfl) ?_
          refine va_get (D := D) (ci := 11) (v := .int z_2) (C := RX11) (T := TX11) (N := 47) hx hb hts (by decide +kernel) hown hK.1 hP 0 rfl rfl 20 (by decide) (hts (.fieldLink RX11 154 "JugglingHallModel" "depth" "I") (by decide +kernel)) (fun _ h9 => h9) rfl dX11_closes_120 ?_
          refine a_iald (f := f5) (u := (x11.toInt - 1)) hx hb hK.1 hP 6 0 rfl rfl dX11_closes_123 (e_2) (by omega) (fun z_26 q_26 e_26 => ?_)
          have hd9_26 : z_26.toInt = (f5 (x11.toInt - 1).toNat).toInt := by rw [q_26, show (x11.toInt - 1) = x11.toInt - 1 by omega]
          refine lv_aload_n hx hb dX11_closes_124 rfl (lv_at hl 2 rfl) ?_
          refine va_get (D := D) (ci := 11) (v := .int z_4) (C := RX11) (T := TX11) (N := 47) hx hb hts (by decide +kernel) hown hK.1 hP 0 rfl rfl 21 (by decide) (hts (.fieldLink RX11 176 "JugglingHallModel" "oneStart" "I") (by decide +kernel)) (fun _ h9 => h9) rfl dX11_closes_125 ?_
          refine lv_iload_n hx hb dX11_closes_128 rfl (lv_at hl 0 rfl) ?_
          have hfn : z_4.toInt + z_5.toInt = x10.toInt := by omega
          have hfr : z_4.toInt = (f6 x11.toInt.toNat).toInt := by omega
          have hnr : z_5.toInt = x10.toInt - (f6 x11.toInt.toNat).toInt := by omega
          refine call_g (wr := []) (va_runV (As := [.int z_25, .int z_26, .int z_4, .int z_5]) (rest := []) ⟨hx, hb, hml, hown, hts⟩ (k_turns3 l D cI cR cM _ (w9 := w9) (by first | assumption | omega) (by first | assumption | omega) (by first | assumption | omega) (by first | assumption | omega) (by rw [hfn]; exact hC) (by rw [hfn]; exact hZ0) (by first | assumption | omega) (by rw [hfn]; exact hRW) (by first | assumption | omega) (by rw [hfn]; exact hSo) (fun q9 => by
            rcases hF_20 with ⟨t1, t2⟩ | ⟨t1, t2⟩
            · rw [hfr9, hnr9] at t2
              rw [hfr, hnr]; exact t2
            · exact absurd t1 (by omega))) (cwV 4 hts gX11_closes_X11_turns rfl rfl rfl (by decide +kernel) ⟨Nat.le_of_ble_eq_true rfl, Nat.le_of_ble_eq_true rfl⟩) (pre_V hK hP hD 0 11 rfl rfl) rfl rfl hl.1 rfl (lv_room (Nat.le_of_ble_eq_true rfl)) dX11_closes_129 ⟨Nat.le_of_ble_eq_true rfl, Nat.le_of_ble_eq_true rfl⟩) hP hD hS hA [0, 1, 2, 3, 4, 5, 6, 7, 8, 9, 10, 11, 12, 13, 14, 15, 16, 17, 18, 19, 20, 21, 22, 23, 24, 25] [] (by with_unfolding_all rfl) rfl (by decide) (by decide) (fun u_27 H locs hw hP hD hS => ?_)
          obtain ⟨r_27, g3_27, g7_27⟩ := u_27
          have hP : va_P D vwCl (mX mm q jn cI x0 x1 x2 x3 x4 y5_1 y6_1 y7_1 y8_1 x9 x10 z_2 z_4 x13 x14 x15 x16 x17 x18 x19 x20 f0 f1 f2 g3_27 f4 f5 f6 g7_27 f8 f9 f10 f11 f12 f13 f14 f15 f16 f17 f18 f19 f20 f21 f22 f23 f24) H := hP
          have hD : va_D A (mX mm q jn cI x0 x1 x2 x3 x4 y5_1 y6_1 y7_1 y8_1 x9 x10 z_2 z_4 x13 x14 x15 x16 x17 x18 x19 x20 f0 f1 f2 g3_27 f4 f5 f6 g7_27 f8 f9 f10 f11 f12 f13 f14 f15 f16 f17 f18 f19 f20 f21 f22 f23 f24) := hD
          obtain ⟨h_27, hC_27, hZ_27, hF_27⟩ : (r_27.toInt = 0 ∨ r_27.toInt = 1) ∧ (CellsX jn g3_27 0 (6 * (z_4.toInt + z_5.toInt))) ∧ (ZX jn g3_27 0 (z_4.toInt + z_5.toInt)) ∧ (Hd ((r_27.toInt = 1 ∧ ∃ v9, ChW z_25.toInt z_26.toInt w9 z_4.toInt z_5.toInt v9 ∧ RS g3_27 v9 (z_4.toInt + z_5.toInt)) ∨ (r_27.toInt = 0 ∧ ChF z_25.toInt w9 z_4.toInt z_5.toInt))) := hw
          refine a_if_ne (u := r_27.toInt) (tgt := 142) hx hb dX11_closes_132 (by decide) (rfl) (fun c_28 => ?_) (fun c_28 => ?_)
          · refine lv_iconst (v := 0) hx hb dX11_closes_142 (by decide) ?_
            have hz_29 : (0 : Int32).toInt = 0 := by decide
            exact g_iret ((0 : Int32), y5_1, y6_1, y7_1, y8_1, x9, z_2, z_4, g3_27, g7_27) hx hb hr hlocks hS rfl (⟨show x5.toInt ≤ y5_1.toInt ∧ y5_1.toInt ≤ x2.toInt from (by first | assumption | omega), show TokOK y7_1 y8_1 from (by first | assumption | omega), show (0 : Int32).toInt = 0 → x5.toInt < y5_1.toInt ∨ y7_1.toInt = 0 from (by first | assumption | omega), show (0 : Int32).toInt = 0 → z_2.toInt = x11.toInt - 1 ∧ z_4.toInt = (f6 x11.toInt.toNat).toInt from (by first | assumption | omega), show (0 : Int32).toInt = 0 → x10.toInt - (f6 (x11.toInt - 1).toNat).toInt ≤ 24 from (by first | assumption | omega), show (0 : Int32).toInt = 0 → CellsX jn g3_27 0 (6 * x10.toInt) from (fun _ => by have h9 := hC_27; rw [hfn] at h9; exact h9), show (0 : Int32).toInt = 0 → ZX jn g3_27 0 x10.toInt from (fun _ => by have h9 := hZ_27; rw [hfn] at h9; exact h9), show Hd (((0 : Int32).toInt = 0 ∧ x10.toInt - (f6 (x11.toInt - 1).toNat).toInt ≤ 24 ∧ CU P ks vs (i + 1) y5_1 y7_1 y8_1 ∧ ∃ v9, ChW (f4 (x11.toInt - 1).toNat).toInt (f5 (x11.toInt - 1).toNat).toInt w9 (f6 x11.toInt.toNat).toInt (x10.toInt - (f6 x11.toInt.toNat).toInt) v9 ∧ RS g3_27 v9 x10.toInt) ∨ ((0 : Int32).toInt ≠ 0 ∧ (24 < x10.toInt - (f6 (x11.toInt - 1).toNat).toInt ∨ ChF (f4 (x11.toInt - 1).toNat).toInt w9 (f6 x11.toInt.toNat).toInt (x10.toInt - (f6 x11.toInt.toNat).toInt)))) from (by
              rcases hF_27 with ⟨t1, v9, t2, t3⟩ | ⟨t1, t2⟩
              · rw [hfr, hnr, show z_25.toInt = (f4 (x11.toInt - 1).toNat).toInt by omega, show z_26.toInt = (f5 (x11.toInt - 1).toNat).toInt by omega] at t2
                rw [hfn] at t3
                exact Or.inl ⟨by omega, by omega, hcu_1, v9, t2, t3⟩
              · exact absurd t1 (by omega))⟩) hP hD hQ (Nat.le_of_ble_eq_true rfl) (Nat.le_of_ble_eq_true rfl) dX11_closes_143
          · refine lv_aload_n hx hb dX11_closes_135 rfl (lv_at hl 2 rfl) ?_
            refine lv_iconst (v := 5) hx hb dX11_closes_136 (by decide) ?_
            refine lv_iload_n hx hb dX11_closes_137 rfl (lv_at hl 1 rfl) ?_
            have hz_30 : (5 : Int32).toInt = 5 := by decide
            refine call_g (wr := []) (va_runV (As := [.int 5, .int x6]) (rest := []) ⟨hx, hb, hml, hown, hts⟩ (k_fails l D cI cR cM _  ) (cwV 2 hts gX11_closes_X11_fails rfl rfl rfl (by decide +kernel) ⟨Nat.le_of_ble_eq_true rfl, Nat.le_of_ble_eq_true rfl⟩) (pre_V hK hP hD 0 11 rfl rfl) rfl rfl hl.1 rfl (lv_room (Nat.le_of_ble_eq_true rfl)) dX11_closes_138 ⟨Nat.le_of_ble_eq_true rfl, Nat.le_of_ble_eq_true rfl⟩) hP hD hS hA [0, 1, 2, 3, 4, 5, 6, 7, 8, 9, 10, 11, 12, 13, 14, 15, 16, 17, 18, 19, 20, 21, 22, 23, 24, 25] [] (by with_unfolding_all rfl) rfl (by decide) (by decide) (fun u_31 H locs hw hP hD hS => ?_)
            obtain ⟨r_31, y9_31⟩ := u_31
            have hP : va_P D vwCl (mX mm q jn cI x0 x1 x2 x3 x4 y5_1 y6_1 y7_1 y8_1 y9_31 x10 z_2 z_4 x13 x14 x15 x16 x17 x18 x19 x20 f0 f1 f2 g3_27 f4 f5 f6 g7_27 f8 f9 f10 f11 f12 f13 f14 f15 f16 f17 f18 f19 f20 f21 f22 f23 f24) H := hP
            have hD : va_D A (mX mm q jn cI x0 x1 x2 x3 x4 y5_1 y6_1 y7_1 y8_1 y9_31 x10 z_2 z_4 x13 x14 x15 x16 x17 x18 x19 x20 f0 f1 f2 g3_27 f4 f5 f6 g7_27 f8 f9 f10 f11 f12 f13 f14 f15 f16 f17 f18 f19 f20 f21 f22 f23 f24) := hD
            have hr_31 : (r_31.toInt = (5 : Int32).toInt) := hw
            exact g_iret (r_31, y5_1, y6_1, y7_1, y8_1, y9_31, z_2, z_4, g3_27, g7_27) hx hb hr hlocks hS rfl (⟨show x5.toInt ≤ y5_1.toInt ∧ y5_1.toInt ≤ x2.toInt from (by first | assumption | omega), show TokOK y7_1 y8_1 from (by first | assumption | omega), show r_31.toInt = 0 → x5.toInt < y5_1.toInt ∨ y7_1.toInt = 0 from (by first | assumption | omega), show r_31.toInt = 0 → z_2.toInt = x11.toInt - 1 ∧ z_4.toInt = (f6 x11.toInt.toNat).toInt from (by first | assumption | omega), show r_31.toInt = 0 → x10.toInt - (f6 (x11.toInt - 1).toNat).toInt ≤ 24 from (by first | assumption | omega), show r_31.toInt = 0 → CellsX jn g3_27 0 (6 * x10.toInt) from (fun q => absurd q (by omega)), show r_31.toInt = 0 → ZX jn g3_27 0 x10.toInt from (fun q => absurd q (by omega)), show Hd ((r_31.toInt = 0 ∧ x10.toInt - (f6 (x11.toInt - 1).toNat).toInt ≤ 24 ∧ CU P ks vs (i + 1) y5_1 y7_1 y8_1 ∧ ∃ v9, ChW (f4 (x11.toInt - 1).toNat).toInt (f5 (x11.toInt - 1).toNat).toInt w9 (f6 x11.toInt.toNat).toInt (x10.toInt - (f6 x11.toInt.toNat).toInt) v9 ∧ RS g3_27 v9 x10.toInt) ∨ (r_31.toInt ≠ 0 ∧ (24 < x10.toInt - (f6 (x11.toInt - 1).toNat).toInt ∨ ChF (f4 (x11.toInt - 1).toNat).toInt w9 (f6 x11.toInt.toNat).toInt (x10.toInt - (f6 x11.toInt.toNat).toInt)))) from (by
              rcases hF_27 with ⟨t1, v9, t2, t3⟩ | ⟨t1, t2⟩
              · exact absurd t1 (by omega)
              · rw [hfr, hnr, show z_25.toInt = (f4 (x11.toInt - 1).toNat).toInt by omega] at t2
                exact Or.inr ⟨by omega, Or.inr t2⟩)⟩) hP hD hQ (Nat.le_of_ble_eq_true rfl) (Nat.le_of_ble_eq_true rfl) dX11_closes_141
      · refine lv_aload_n hx hb dX11_closes_86 rfl (lv_at hl 2 rfl) ?_
        refine lv_iconst (v := 5) hx hb dX11_closes_87 (by decide) ?_
        refine lv_iload_n hx hb dX11_closes_88 rfl (lv_at hl 1 rfl) ?_
        have hz_32 : (5 : Int32).toInt = 5 := by decide
        refine call_g (wr := []) (va_runV (As := [.int 5, .int x6]) (rest := []) ⟨hx, hb, hml, hown, hts⟩ (k_fails l D cI cR cM _  ) (cwV 2 hts gX11_closes_X11_fails rfl rfl rfl (by decide +kernel) ⟨Nat.le_of_ble_eq_true rfl, Nat.le_of_ble_eq_true rfl⟩) (pre_V hK hP hD 0 11 rfl rfl) rfl rfl hl.1 rfl (lv_room (Nat.le_of_ble_eq_true rfl)) dX11_closes_89 ⟨Nat.le_of_ble_eq_true rfl, Nat.le_of_ble_eq_true rfl⟩) hP hD hS hA [0, 1, 2, 3, 4, 5, 6, 7, 8, 9, 10, 11, 12, 13, 14, 15, 16, 17, 18, 19, 20, 21, 22, 23, 24, 25] [] (by with_unfolding_all rfl) rfl (by decide) (by decide) (fun u_33 H locs hw hP hD hS => ?_)
        obtain ⟨r_33, y9_33⟩ := u_33
        have hP : va_P D vwCl (mX mm q jn cI x0 x1 x2 x3 x4 y5_1 y6_1 y7_1 y8_1 y9_33 x10 z_2 z_4 x13 x14 x15 x16 x17 x18 x19 x20 f0 f1 f2 f3 f4 f5 f6 f7 f8 f9 f10 f11 f12 f13 f14 f15 f16 f17 f18 f19 f20 f21 f22 f23 f24) H := hP
        have hD : va_D A (mX mm q jn cI x0 x1 x2 x3 x4 y5_1 y6_1 y7_1 y8_1 y9_33 x10 z_2 z_4 x13 x14 x15 x16 x17 x18 x19 x20 f0 f1 f2 f3 f4 f5 f6 f7 f8 f9 f10 f11 f12 f13 f14 f15 f16 f17 f18 f19 f20 f21 f22 f23 f24) := hD
        have hr_33 : (r_33.toInt = (5 : Int32).toInt) := hw
        exact g_iret (r_33, y5_1, y6_1, y7_1, y8_1, y9_33, z_2, z_4, f3, f7) hx hb hr hlocks hS rfl (⟨show x5.toInt ≤ y5_1.toInt ∧ y5_1.toInt ≤ x2.toInt from (by first | assumption | omega), show TokOK y7_1 y8_1 from (by first | assumption | omega), show r_33.toInt = 0 → x5.toInt < y5_1.toInt ∨ y7_1.toInt = 0 from (by first | assumption | omega), show r_33.toInt = 0 → z_2.toInt = x11.toInt - 1 ∧ z_4.toInt = (f6 x11.toInt.toNat).toInt from (by first | assumption | omega), show r_33.toInt = 0 → x10.toInt - (f6 (x11.toInt - 1).toNat).toInt ≤ 24 from (by first | assumption | omega), show r_33.toInt = 0 → CellsX jn f3 0 (6 * x10.toInt) from (fun q => absurd q (by omega)), show r_33.toInt = 0 → ZX jn f3 0 x10.toInt from (fun q => absurd q (by omega)), show Hd ((r_33.toInt = 0 ∧ x10.toInt - (f6 (x11.toInt - 1).toNat).toInt ≤ 24 ∧ CU P ks vs (i + 1) y5_1 y7_1 y8_1 ∧ ∃ v9, ChW (f4 (x11.toInt - 1).toNat).toInt (f5 (x11.toInt - 1).toNat).toInt w9 (f6 x11.toInt.toNat).toInt (x10.toInt - (f6 x11.toInt.toNat).toInt) v9 ∧ RS f3 v9 x10.toInt) ∨ (r_33.toInt ≠ 0 ∧ (24 < x10.toInt - (f6 (x11.toInt - 1).toNat).toInt ∨ ChF (f4 (x11.toInt - 1).toNat).toInt w9 (f6 x11.toInt.toNat).toInt (x10.toInt - (f6 x11.toInt.toNat).toInt)))) from (by
          rcases hF_20 with ⟨t1, t2⟩ | ⟨t1, t2⟩
          · exact absurd t1 (by omega)
          · rw [hfr9, hnr9] at t2
            exact Or.inr ⟨by omega, Or.inr (Or.inr ⟨by omega, t2⟩)⟩)⟩) hP hD hQ (Nat.le_of_ble_eq_true rfl) (Nat.le_of_ble_eq_true rfl) dX11_closes_92
  · refine lv_aload_n hx hb dX11_closes_53 rfl (lv_at hl 2 rfl) ?_
    refine lv_iconst (v := 4) hx hb dX11_closes_54 (by decide) ?_
    refine lv_iload_n hx hb dX11_closes_55 rfl (lv_at hl 1 rfl) ?_
    have hz_34 : (4 : Int32).toInt = 4 := by decide
    refine call_g (wr := []) (va_runV (As := [.int 4, .int x6]) (rest := []) ⟨hx, hb, hml, hown, hts⟩ (k_fails l D cI cR cM _  ) (cwV 2 hts gX11_closes_X11_fails rfl rfl rfl (by decide +kernel) ⟨Nat.le_of_ble_eq_true rfl, Nat.le_of_ble_eq_true rfl⟩) (pre_V hK hP hD 0 11 rfl rfl) rfl rfl hl.1 rfl (lv_room (Nat.le_of_ble_eq_true rfl)) dX11_closes_56 ⟨Nat.le_of_ble_eq_true rfl, Nat.le_of_ble_eq_true rfl⟩) hP hD hS hA [0, 1, 2, 3, 4, 5, 6, 7, 8, 9, 10, 11, 12, 13, 14, 15, 16, 17, 18, 19, 20, 21, 22, 23, 24, 25] [] (by with_unfolding_all rfl) rfl (by decide) (by decide) (fun u_35 H locs hw hP hD hS => ?_)
    obtain ⟨r_35, y9_35⟩ := u_35
    have hP : va_P D vwCl (mX mm q jn cI x0 x1 x2 x3 x4 y5_1 y6_1 y7_1 y8_1 y9_35 x10 z_2 z_4 x13 x14 x15 x16 x17 x18 x19 x20 f0 f1 f2 f3 f4 f5 f6 f7 f8 f9 f10 f11 f12 f13 f14 f15 f16 f17 f18 f19 f20 f21 f22 f23 f24) H := hP
    have hD : va_D A (mX mm q jn cI x0 x1 x2 x3 x4 y5_1 y6_1 y7_1 y8_1 y9_35 x10 z_2 z_4 x13 x14 x15 x16 x17 x18 x19 x20 f0 f1 f2 f3 f4 f5 f6 f7 f8 f9 f10 f11 f12 f13 f14 f15 f16 f17 f18 f19 f20 f21 f22 f23 f24) := hD
    have hr_35 : (r_35.toInt = (4 : Int32).toInt) := hw
    exact g_iret (r_35, y5_1, y6_1, y7_1, y8_1, y9_35, z_2, z_4, f3, f7) hx hb hr hlocks hS rfl (⟨show x5.toInt ≤ y5_1.toInt ∧ y5_1.toInt ≤ x2.toInt from (by first | assumption | omega), show TokOK y7_1 y8_1 from (by first | assumption | omega), show r_35.toInt = 0 → x5.toInt < y5_1.toInt ∨ y7_1.toInt = 0 from (by first | assumption | omega), show r_35.toInt = 0 → z_2.toInt = x11.toInt - 1 ∧ z_4.toInt = (f6 x11.toInt.toNat).toInt from (by first | assumption | omega), show r_35.toInt = 0 → x10.toInt - (f6 (x11.toInt - 1).toNat).toInt ≤ 24 from (by first | assumption | omega), show r_35.toInt = 0 → CellsX jn f3 0 (6 * x10.toInt) from (fun q => absurd q (by omega)), show r_35.toInt = 0 → ZX jn f3 0 x10.toInt from (fun q => absurd q (by omega)), show Hd ((r_35.toInt = 0 ∧ x10.toInt - (f6 (x11.toInt - 1).toNat).toInt ≤ 24 ∧ CU P ks vs (i + 1) y5_1 y7_1 y8_1 ∧ ∃ v9, ChW (f4 (x11.toInt - 1).toNat).toInt (f5 (x11.toInt - 1).toNat).toInt w9 (f6 x11.toInt.toNat).toInt (x10.toInt - (f6 x11.toInt.toNat).toInt) v9 ∧ RS f3 v9 x10.toInt) ∨ (r_35.toInt ≠ 0 ∧ (24 < x10.toInt - (f6 (x11.toInt - 1).toNat).toInt ∨ ChF (f4 (x11.toInt - 1).toNat).toInt w9 (f6 x11.toInt.toNat).toInt (x10.toInt - (f6 x11.toInt.toNat).toInt)))) from (Or.inr ⟨by omega, Or.inl (by omega)⟩)⟩) hP hD hQ (Nat.le_of_ble_eq_true rfl) (Nat.le_of_ble_eq_true rfl) dX11_closes_59
