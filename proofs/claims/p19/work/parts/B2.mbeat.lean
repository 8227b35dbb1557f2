set_option maxRecDepth 100000 in
set_option maxHeartbeats 4000000 in
theorem k_order2 (l : Launch) (D : va_G) (cI cR cM : ClassId) (sz : Nat) {aa NN : Nat} {fA : Nat → Int32} {x : Int32}  (h1 : 0 ≤ x.toInt ∧ x.toInt + 1 < NN) (ha : 0 ≤ (fA x.toInt.toNat).toInt ∧ ((fA x.toInt.toNat).toInt = 0 ∨ 4 ≤ (fA x.toInt.toNat).toInt)) (hb9 : 0 ≤ (fA (x.toInt + 1).toNat).toInt ∧ ((fA (x.toInt + 1).toNat).toInt = 0 ∨ 4 ≤ (fA (x.toInt + 1).toNat).toInt)) (hN : NN ≤ 100000) : Met l yX11_order wsX11_order ({ frames := 0, cells := 0, slots := 0, locals := 0 }) (P0 D cI cR cM [.ref aa, .int x] sz [(aa, .inl (cI, NN, .inl fA))]) (QG (S := Nat → Int32) (fun u => none) (fun u => [(aa, .inl (cI, NN, .inl u))]) (fun u => (∀ i : Int, 0 ≤ i → i ≠ x.toInt → i ≠ x.toInt + 1 → u i.toNat = fA i.toNat) ∧ ((u x.toInt.toNat = fA x.toInt.toNat ∧ u (x.toInt + 1).toNat = fA (x.toInt + 1).toNat) ∨ (u x.toInt.toNat = fA (x.toInt + 1).toNat ∧ u (x.toInt + 1).toNat = fA x.toInt.toNat)) ∧ ((u x.toInt.toNat).toInt = 0 → (u (x.toInt + 1).toNat).toInt = 0) ∧ ((¬ ((fA (x.toInt + 1).toNat).toInt / 4 > (fA x.toInt.toNat).toInt / 4 ∨ ((fA (x.toInt + 1).toNat).toInt / 4 = (fA x.toInt.toNat).toInt / 4 ∧ (fA (x.toInt + 1).toNat).toInt % 4 < (fA x.toInt.toNat).toInt % 4)) ∧ u x.toInt.toNat = fA x.toInt.toNat ∧ u (x.toInt + 1).toNat = fA (x.toInt + 1).toNat) ∨ (((fA (x.toInt + 1).toNat).toInt / 4 > (fA x.toInt.toNat).toInt / 4 ∨ ((fA (x.toInt + 1).toNat).toInt / 4 = (fA x.toInt.toNat).toInt / 4 ∧ (fA (x.toInt + 1).toNat).toInt % 4 < (fA x.toInt.toNat).toInt % 4)) ∧ u x.toInt.toNat = fA (x.toInt + 1).toNat ∧ u (x.toInt + 1).toNat = fA x.toInt.toNat))) D (va_A [(aa, .inl (cI, NN, .inl fA))] sz)) 0 0 (va_A [(aa, .inl (cI, NN, .inl fA))] sz) := by
  refine go (cc := cX11_order) (maxL := 4) (ret := none) (by decide) rfl (Nat.le_of_ble_eq_true rfl) ?_
  intro p e s m below meth c ls args Q hQ hsz hx hb hr hml hts hown hlocks hnm hP hK hD hl
  subst hsz
  have hD := hD.self (sz := s.heap.size)
  generalize hAe : va_A [(aa, .inl (cI, NN, .inl fA))] s.heap.size = A at hD hQ
  have hA : ∀ q, s.heap.size ≤ q → A q := fun q h => by rw [← hAe]; exact Or.inr h
  have hS : va_S A s.heap s.heap [] := va_S.rf
  have hl : lv_has ls 4 [(0, .ref aa), (1, .int x)] := hl
  refine lv_aload_n hx hb dX11_order_0 rfl (lv_at hl 0 rfl) ?_
  refine lv_iload_n hx hb dX11_order_1 rfl (lv_at hl 1 rfl) ?_
  refine a_iald (f := fA) (u := x.toInt) hx hb hK.1 hP 0 0 rfl rfl dX11_order_2 (rfl) (by omega) (fun z_1 q_1 e_1 => ?_)
  refine lv_istore_n (lv' := [(2, .int z_1), (0, .ref aa), (1, .int x)]) hx hb dX11_order_3 rfl hl (by decide) rfl (fun ls hl => ?_)
  refine lv_aload_n hx hb dX11_order_4 rfl (lv_at hl 1 rfl) ?_
  refine lv_iload_n hx hb dX11_order_5 rfl (lv_at hl 2 rfl) ?_
  refine lv_iconst (v := 1) hx hb dX11_order_6 (by decide) ?_
  refine a_iadd (u := x.toInt) (v := 1) hx hb dX11_order_7 (rfl) (by decide) (by omega) (fun z_2 e_2 => ?_)
  refine a_iald (f := fA) (u := (x.toInt + 1)) hx hb hK.1 hP 0 0 rfl rfl dX11_order_8 (e_2) (by omega) (fun z_3 q_3 e_3 => ?_)
  refine lv_istore_n (lv' := [(3, .int z_3), (2, .int z_1), (0, .ref aa), (1, .int x)]) hx hb dX11_order_9 rfl hl (by decide) rfl (fun ls hl => ?_)
  refine lv_iload_n hx hb dX11_order_10 rfl (lv_at hl 0 rfl) ?_
  refine lv_iconst (v := 4) hx hb dX11_order_11 (by decide) ?_
  refine a_idiv (u := z_3.toInt) (v := 4) hx hb dX11_order_12 (rfl) (by decide) (by omega) (fun z_4 e_4 => ?_)
  refine lv_iload_n hx hb dX11_order_13 rfl (lv_at hl 1 rfl) ?_
  refine lv_iconst (v := 4) hx hb dX11_order_14 (by decide) ?_
  refine a_idiv (u := z_1.toInt) (v := 4) hx hb dX11_order_15 (rfl) (by decide) (by omega) (fun z_5 e_5 => ?_)
  refine a_icmp_gt (u := (z_3.toInt / 4)) (v := (z_1.toInt / 4)) (tgt := 37) hx hb dX11_order_16 (by decide) (e_4) (e_5) (fun c_6 => ?_) (fun c_6 => ?_)
  · refine lv_aload_n hx hb dX11_order_37 rfl (lv_at hl 2 rfl) ?_
    refine lv_iload_n hx hb dX11_order_38 rfl (lv_at hl 3 rfl) ?_
    refine lv_iload_n hx hb dX11_order_39 rfl (lv_at hl 0 rfl) ?_
    refine a_iast (f := fA) (u := x.toInt) hx hb hK.1 hP hD hS 0 0 rfl rfl dX11_order_40 (rfl) (by omega) (fun g_7 H locs eg_7 hP hD hS => ?_)
    have hP : va_P D vwCl [(aa, .inl (cI, NN, .inl g_7))] H := hP
    have hD : va_D A [(aa, .inl (cI, NN, .inl g_7))] := hD
    skip
    refine lv_aload_n hx hb dX11_order_41 rfl (lv_at hl 2 rfl) ?_
    refine lv_iload_n hx hb dX11_order_42 rfl (lv_at hl 3 rfl) ?_
    refine lv_iconst (v := 1) hx hb dX11_order_43 (by decide) ?_
    refine a_iadd (u := x.toInt) (v := 1) hx hb dX11_order_44 (rfl) (by decide) (by omega) (fun z_8 e_8 => ?_)
    refine lv_iload_n hx hb dX11_order_45 rfl (lv_at hl 1 rfl) ?_
    refine a_iast (f := g_7) (u := (x.toInt + 1)) hx hb hK.1 hP hD hS 0 0 rfl rfl dX11_order_46 (e_8) (by omega) (fun g_9 H locs eg_9 hP hD hS => ?_)
    have hP : va_P D vwCl [(aa, .inl (cI, NN, .inl g_9))] H := hP
    have hD : va_D A [(aa, .inl (cI, NN, .inl g_9))] := hD
    exact g_vret g_9 hx hb hr hlocks hS rfl (⟨show ∀ i : Int, 0 ≤ i → i ≠ x.toInt → i ≠ x.toInt + 1 → g_9 i.toNat = fA i.toNat from (fun i i0 i1 i2 => by rw [eg_9, un_i i0 (by omega) i2, eg_7, un_i i0 (by omega) i1]), show (g_9 x.toInt.toNat = fA x.toInt.toNat ∧ g_9 (x.toInt + 1).toNat = fA (x.toInt + 1).toNat) ∨ (g_9 x.toInt.toNat = fA (x.toInt + 1).toNat ∧ g_9 (x.toInt + 1).toNat = fA x.toInt.toNat) from (by have t1 : g_9 x.toInt.toNat = z_3 := (by rw [eg_9, un_i (by omega) (by omega) (by omega), eg_7, pk_us]); have t2 : g_9 (x.toInt + 1).toNat = z_1 := (by rw [eg_9, pk_us]); rw [t1, t2]; exact Or.inr ⟨q_3, q_1⟩), show (g_9 x.toInt.toNat).toInt = 0 → (g_9 (x.toInt + 1).toNat).toInt = 0 from (by have t1 : g_9 x.toInt.toNat = z_3 := (by rw [eg_9, un_i (by omega) (by omega) (by omega), eg_7, pk_us]); have t2 : g_9 (x.toInt + 1).toNat = z_1 := (by rw [eg_9, pk_us]); rw [t1, t2]; omega), show (¬ ((fA (x.toInt + 1).toNat).toInt / 4 > (fA x.toInt.toNat).toInt / 4 ∨ ((fA (x.toInt + 1).toNat).toInt / 4 = (fA x.toInt.toNat).toInt / 4 ∧ (fA (x.toInt + 1).toNat).toInt % 4 < (fA x.toInt.toNat).toInt % 4)) ∧ g_9 x.toInt.toNat = fA x.toInt.toNat ∧ g_9 (x.toInt + 1).toNat = fA (x.toInt + 1).toNat) ∨ (((fA (x.toInt + 1).toNat).toInt / 4 > (fA x.toInt.toNat).toInt / 4 ∨ ((fA (x.toInt + 1).toNat).toInt / 4 = (fA x.toInt.toNat).toInt / 4 ∧ (fA (x.toInt + 1).toNat).toInt % 4 < (fA x.toInt.toNat).toInt % 4)) ∧ g_9 x.toInt.toNat = fA (x.toInt + 1).toNat ∧ g_9 (x.toInt + 1).toNat = fA x.toInt.toNat) from (by
      have t1 : g_9 x.toInt.toNat = z_3 := by rw [eg_9, un_i (by omega) (by omega) (by omega), eg_7, pk_us]
      have t2 : g_9 (x.toInt + 1).toNat = z_1 := by rw [eg_9, pk_us]
      rw [t1, t2]
      exact Or.inr ⟨by omega, q_3, q_1⟩)⟩) hP hD hQ (Nat.le_of_ble_eq_true rfl) (Nat.le_of_ble_eq_true rfl) dX11_order_47
  · refine lv_iload_n hx hb dX11_order_19 rfl (lv_at hl 0 rfl) ?_
    refine lv_iconst (v := 4) hx hb dX11_order_20 (by decide) ?_
    refine a_idiv (u := z_3.toInt) (v := 4) hx hb dX11_order_21 (rfl) (by decide) (by omega) (fun z_10 e_10 => ?_)
    refine lv_iload_n hx hb dX11_order_22 rfl (lv_at hl 1 rfl) ?_
    refine lv_iconst (v := 4) hx hb dX11_order_23 (by decide) ?_
    refine a_idiv (u := z_1.toInt) (v := 4) hx hb dX11_order_24 (rfl) (by decide) (by omega) (fun z_11 e_11 => ?_)
    refine a_icmp_ne (u := (z_3.toInt / 4)) (v := (z_1.toInt / 4)) (tgt := 47) hx hb dX11_order_25 (by decide) (e_10) (e_11) (fun c_12 => ?_) (fun c_12 => ?_)
    · exact g_vret fA hx hb hr hlocks hS rfl (⟨show ∀ i : Int, 0 ≤ i → i ≠ x.toInt → i ≠ x.toInt + 1 → fA i.toNat = fA i.toNat from (fun _ _ _ _ => rfl), show (fA x.toInt.toNat = fA x.toInt.toNat ∧ fA (x.toInt + 1).toNat = fA (x.toInt + 1).toNat) ∨ (fA x.toInt.toNat = fA (x.toInt + 1).toNat ∧ fA (x.toInt + 1).toNat = fA x.toInt.toNat) from (Or.inl ⟨rfl, rfl⟩), show (fA x.toInt.toNat).toInt = 0 → (fA (x.toInt + 1).toNat).toInt = 0 from (by omega), show (¬ ((fA (x.toInt + 1).toNat).toInt / 4 > (fA x.toInt.toNat).toInt / 4 ∨ ((fA (x.toInt + 1).toNat).toInt / 4 = (fA x.toInt.toNat).toInt / 4 ∧ (fA (x.toInt + 1).toNat).toInt % 4 < (fA x.toInt.toNat).toInt % 4)) ∧ fA x.toInt.toNat = fA x.toInt.toNat ∧ fA (x.toInt + 1).toNat = fA (x.toInt + 1).toNat) ∨ (((fA (x.toInt + 1).toNat).toInt / 4 > (fA x.toInt.toNat).toInt / 4 ∨ ((fA (x.toInt + 1).toNat).toInt / 4 = (fA x.toInt.toNat).toInt / 4 ∧ (fA (x.toInt + 1).toNat).toInt % 4 < (fA x.toInt.toNat).toInt % 4)) ∧ fA x.toInt.toNat = fA (x.toInt + 1).toNat ∧ fA (x.toInt + 1).toNat = fA x.toInt.toNat) from (Or.inl ⟨by omega, rfl, rfl⟩)⟩) hP hD hQ (Nat.le_of_ble_eq_true rfl) (Nat.le_of_ble_eq_true rfl) dX11_order_47
    · refine lv_iload_n hx hb dX11_order_28 rfl (lv_at hl 0 rfl) ?_
      refine lv_iconst (v := 4) hx hb dX11_order_29 (by decide) ?_
      refine a_irem (u := z_3.toInt) (v := 4) hx hb dX11_order_30 (rfl) (by decide) (by omega) (fun z_13 e_13 h_13 k_13 => ?_)
      refine lv_iload_n hx hb dX11_order_31 rfl (lv_at hl 1 rfl) ?_
      refine lv_iconst (v := 4) hx hb dX11_order_32 (by decide) ?_
      refine a_irem (u := z_1.toInt) (v := 4) hx hb dX11_order_33 (rfl) (by decide) (by omega) (fun z_14 e_14 h_14 k_14 => ?_)
      refine a_icmp_ge (u := z_13.toInt) (v := z_14.toInt) (tgt := 47) hx hb dX11_order_34 (by decide) (rfl) (rfl) (fun c_15 => ?_) (fun c_15 => ?_)
      · exact g_vret fA hx hb hr hlocks hS rfl (⟨show ∀ i : Int, 0 ≤ i → i ≠ x.toInt → i ≠ x.toInt + 1 → fA i.toNat = fA i.toNat from (fun _ _ _ _ => rfl), show (fA x.toInt.toNat = fA x.toInt.toNat ∧ fA (x.toInt + 1).toNat = fA (x.toInt + 1).toNat) ∨ (fA x.toInt.toNat = fA (x.toInt + 1).toNat ∧ fA (x.toInt + 1).toNat = fA x.toInt.toNat) from (Or.inl ⟨rfl, rfl⟩), show (fA x.toInt.toNat).toInt = 0 → (fA (x.toInt + 1).toNat).toInt = 0 from (by omega), show (¬ ((fA (x.toInt + 1).toNat).toInt / 4 > (fA x.toInt.toNat).toInt / 4 ∨ ((fA (x.toInt + 1).toNat).toInt / 4 = (fA x.toInt.toNat).toInt / 4 ∧ (fA (x.toInt + 1).toNat).toInt % 4 < (fA x.toInt.toNat).toInt % 4)) ∧ fA x.toInt.toNat = fA x.toInt.toNat ∧ fA (x.toInt + 1).toNat = fA (x.toInt + 1).toNat) ∨ (((fA (x.toInt + 1).toNat).toInt / 4 > (fA x.toInt.toNat).toInt / 4 ∨ ((fA (x.toInt + 1).toNat).toInt / 4 = (fA x.toInt.toNat).toInt / 4 ∧ (fA (x.toInt + 1).toNat).toInt % 4 < (fA x.toInt.toNat).toInt % 4)) ∧ fA x.toInt.toNat = fA (x.toInt + 1).toNat ∧ fA (x.toInt + 1).toNat = fA x.toInt.toNat) from (Or.inl ⟨by omega, rfl, rfl⟩)⟩) hP hD hQ (Nat.le_of_ble_eq_true rfl) (Nat.le_of_ble_eq_true rfl) dX11_order_47
      · refine lv_aload_n hx hb dX11_order_37 rfl (lv_at hl 2 rfl) ?_
        refine lv_iload_n hx hb dX11_order_38 rfl (lv_at hl 3 rfl) ?_
        refine lv_iload_n hx hb dX11_order_39 rfl (lv_at hl 0 rfl) ?_
        refine a_iast (f := fA) (u := x.toInt) hx hb hK.1 hP hD hS 0 0 rfl rfl dX11_order_40 (rfl) (by omega) (fun g_16 H locs eg_16 hP hD hS => ?_)
        have hP : va_P D vwCl [(aa, .inl (cI, NN, .inl g_16))] H := hP
        have hD : va_D A [(aa, .inl (cI, NN, .inl g_16))] := hD
        skip
        refine lv_aload_n hx hb dX11_order_41 rfl (lv_at hl 2 rfl) ?_
        refine lv_iload_n hx hb dX11_order_42 rfl (lv_at hl 3 rfl) ?_
        refine lv_iconst (v := 1) hx hb dX11_order_43 (by decide) ?_
        refine a_iadd (u := x.toInt) (v := 1) hx hb dX11_order_44 (rfl) (by decide) (by omega) (fun z_17 e_17 => ?_)
        refine lv_iload_n hx hb dX11_order_45 rfl (lv_at hl 1 rfl) ?_
        refine a_iast (f := g_16) (u := (x.toInt + 1)) hx hb hK.1 hP hD hS 0 0 rfl rfl dX11_order_46 (e_17) (by omega) (fun g_18 H locs eg_18 hP hD hS => ?_)
        have hP : va_P D vwCl [(aa, .inl (cI, NN, .inl g_18))] H := hP
        have hD : va_D A [(aa, .inl (cI, NN, .inl g_18))] := hD
        exact g_vret g_18 hx hb hr hlocks hS rfl (⟨show ∀ i : Int, 0 ≤ i → i ≠ x.toInt → i ≠ x.toInt + 1 → g_18 i.toNat = fA i.toNat from (fun i i0 i1 i2 => by rw [eg_18, un_i i0 (by omega) i2, eg_16, un_i i0 (by omega) i1]), show (g_18 x.toInt.toNat = fA x.toInt.toNat ∧ g_18 (x.toInt + 1).toNat = fA (x.toInt + 1).toNat) ∨ (g_18 x.toInt.toNat = fA (x.toInt + 1).toNat ∧ g_18 (x.toInt + 1).toNat = fA x.toInt.toNat) from (by have t1 : g_18 x.toInt.toNat = z_3 := (by rw [eg_18, un_i (by omega) (by omega) (by omega), eg_16, pk_us]); have t2 : g_18 (x.toInt + 1).toNat = z_1 := (by rw [eg_18, pk_us]); rw [t1, t2]; exact Or.inr ⟨q_3, q_1⟩), show (g_18 x.toInt.toNat).toInt = 0 → (g_18 (x.toInt + 1).toNat).toInt = 0 from (by have t1 : g_18 x.toInt.toNat = z_3 := (by rw [eg_18, un_i (by omega) (by omega) (by omega), eg_16, pk_us]); have t2 : g_18 (x.toInt + 1).toNat = z_1 := (by rw [eg_18, pk_us]); rw [t1, t2]; omega), show (¬ ((fA (x.toInt + 1).toNat).toInt / 4 > (fA x.toInt.toNat).toInt / 4 ∨ ((fA (x.toInt + 1).toNat).toInt / 4 = (fA x.toInt.toNat).toInt / 4 ∧ (fA (x.toInt + 1).toNat).toInt % 4 < (fA x.toInt.toNat).toInt % 4)) ∧ g_18 x.toInt.toNat = fA x.toInt.toNat ∧ g_18 (x.toInt + 1).toNat = fA (x.toInt + 1).toNat) ∨ (((fA (x.toInt + 1).toNat).toInt / 4 > (fA x.toInt.toNat).toInt / 4 ∨ ((fA (x.toInt + 1).toNat).toInt / 4 = (fA x.toInt.toNat).toInt / 4 ∧ (fA (x.toInt + 1).toNat).toInt % 4 < (fA x.toInt.toNat).toInt % 4)) ∧ g_18 x.toInt.toNat = fA (x.toInt + 1).toNat ∧ g_18 (x.toInt + 1).toNat = fA x.toInt.toNat) from (by
          have t1 : g_18 x.toInt.toNat = z_3 := by rw [eg_18, un_i (by omega) (by omega) (by omega), eg_16, pk_us]
          have t2 : g_18 (x.toInt + 1).toNat = z_1 := by rw [eg_18, pk_us]
          rw [t1, t2]
          exact Or.inr ⟨by omega, q_3, q_1⟩)⟩) hP hD hQ (Nat.le_of_ble_eq_true rfl) (Nat.le_of_ble_eq_true rfl) dX11_order_47
set_option maxRecDepth 100000 in
set_option maxHeartbeats 4000000 in
theorem k_oneThrow3 (l : Launch) (D : va_G) (cI cR cM : ClassId) (sz : Nat) {jn mm : Nat} {q : Nat → Nat} {x0 x1 x2 x3 x4 x5 x6 x7 x8 x9 x10 x11 x12 x13 x14 x15 x16 x17 x18 x19 x20 : Int32} {f0 f1 f2 f3 f4 f5 f6 f7 f8 f9 f10 f11 f12 f13 f14 f15 f16 f17 f18 f19 f20 f21 f22 f23 f24 : Nat → Int32} {j : Int32} {P ks vs : Nat → Int} {i : Nat} (ht : 0 ≤ x2.toInt ∧ x2.toInt ≤ 300) (h5 : 0 ≤ x5.toInt ∧ x5.toInt ≤ x2.toInt) (hT : TokOK x7 x8) (hj : 1 ≤ jn ∧ jn ≤ 3) (hjj : 0 ≤ j.toInt ∧ j.toInt < (jn : Int)) (hj1 : jn = 1) (hSM : SM (sE f2 x2.toInt) P ks vs) (hCU : CU P ks vs i x5 x7 x8) : Met l yX11_oneThrow wsX11_oneThrow ({ frames := 4, cells := 0, slots := 0, locals := 88 }) (P0 D cI cR cM [.ref mm, .int j] sz (mX mm q jn cI x0 x1 x2 x3 x4 x5 x6 x7 x8 x9 x10 x11 x12 x13 x14 x15 x16 x17 x18 x19 x20 f0 f1 f2 f3 f4 f5 f6 f7 f8 f9 f10 f11 f12 f13 f14 f15 f16 f17 f18 f19 f20 f21 f22 f23 f24)) (QG (S := Int32 × Int32 × Int32 × Int32 × Int32 × Int32 × Int32 × Int32) (fun u => some (.int u.1)) (fun u => mX mm q jn cI x0 x1 x2 x3 x4 (u.2.1) (u.2.2.1) (u.2.2.2.1) (u.2.2.2.2.1) (u.2.2.2.2.2.1) x10 x11 x12 (u.2.2.2.2.2.2.1) (u.2.2.2.2.2.2.2) x15 x16 x17 x18 x19 x20 f0 f1 f2 f3 f4 f5 f6 f7 f8 f9 f10 f11 f12 f13 f14 f15 f16 f17 f18 f19 f20 f21 f22 f23 f24) (fun u => (x5.toInt ≤ u.2.1.toInt ∧ u.2.1.toInt ≤ x2.toInt) ∧ (TokOK u.2.2.2.1 u.2.2.2.2.1) ∧ (u.1.toInt = 0 → x5.toInt < u.2.1.toInt ∨ u.2.2.2.1.toInt = 0) ∧ (u.1.toInt = 0 → CellX jn u.2.2.2.2.2.2.1) ∧ (u.1.toInt = 0 → x7.toInt = 1) ∧ ((u.1.toInt = 0 ∧ ThOk ks vs i ∧ u.2.2.2.2.2.2.1.toInt = 4 * vs i ∧ CU P ks vs (thN ks i) u.2.1 u.2.2.2.1 u.2.2.2.2.1) ∨ (u.1.toInt ≠ 0 ∧ ¬ ThOk ks vs i))) D (va_A (mX mm q jn cI x0 x1 x2 x3 x4 x5 x6 x7 x8 x9 x10 x11 x12 x13 x14 x15 x16 x17 x18 x19 x20 f0 f1 f2 f3 f4 f5 f6 f7 f8 f9 f10 f11 f12 f13 f14 f15 f16 f17 f18 f19 f20 f21 f22 f23 f24) sz)) 0 0 (va_A (mX mm q jn cI x0 x1 x2 x3 x4 x5 x6 x7 x8 x9 x10 x11 x12 x13 x14 x15 x16 x17 x18 x19 x20 f0 f1 f2 f3 f4 f5 f6 f7 f8 f9 f10 f11 f12 f13 f14 f15 f16 f17 f18 f19 f20 f21 f22 f23 f24) sz) := by
  refine go (cc := cX11_oneThrow) (maxL := 4) (ret := (some .int)) (by decide) rfl (Nat.le_of_ble_eq_true rfl) ?_
  intro p e s m below meth c ls args Q hQ hsz hx hb hr hml hts hown hlocks hnm hP hK hD hl
  subst hsz
  have hD := hD.self (sz := s.heap.size)
  generalize hAe : va_A (mX mm q jn cI x0 x1 x2 x3 x4 x5 x6 x7 x8 x9 x10 x11 x12 x13 x14 x15 x16 x17 x18 x19 x20 f0 f1 f2 f3 f4 f5 f6 f7 f8 f9 f10 f11 f12 f13 f14 f15 f16 f17 f18 f19 f20 f21 f22 f23 f24) s.heap.size = A at hD hQ
  have hA : ∀ q, s.heap.size ≤ q → A q := fun q h => by rw [← hAe]; exact Or.inr h
  have hS : va_S A s.heap s.heap [] := va_S.rf
  have hl : lv_has ls 4 [(0, .ref mm), (1, .int j)] := hl
  have hcu0 := hCU
  obtain ⟨u1_0, u2_0, u3_0⟩ := hcu0
  refine lv_aload_n hx hb dX11_oneThrow_0 rfl (lv_at hl 0 rfl) ?_
  refine va_get (D := D) (ci := 11) (v := .int x7) (C := RX11) (T := TX11) (N := 47) hx hb hts (by decide +kernel) hown hK.1 hP 0 rfl rfl 11 (by decide) (hts (.fieldLink RX11 131 "JugglingHallModel" "token" "I") (by decide +kernel)) (fun _ h9 => h9) rfl dX11_oneThrow_1 ?_
  refine lv_iconst (v := 1) hx hb dX11_oneThrow_4 (by decide) ?_
  refine a_icmp_eq (u := x7.toInt) (v := 1) (tgt := 18) hx hb dX11_oneThrow_5 (by decide) (rfl) (by decide) (fun c_1 => ?_) (fun c_1 => ?_)
  · have hv2 := hT.2.1 (by omega)
    refine lv_aload_n hx hb dX11_oneThrow_18 rfl (lv_at hl 0 rfl) ?_
    refine va_get (D := D) (ci := 11) (v := .int x8) (C := RX11) (T := TX11) (N := 47) hx hb hts (by decide +kernel) hown hK.1 hP 0 rfl rfl 12 (by decide) (hts (.fieldLink RX11 138 "JugglingHallModel" "value" "I") (by decide +kernel)) (fun _ h9 => h9) rfl dX11_oneThrow_19 ?_
    refine lv_istore_n (lv' := [(2, .int x8), (0, .ref mm), (1, .int j)]) hx hb dX11_oneThrow_22 rfl hl (by decide) rfl (fun ls hl => ?_)
    refine lv_iload_n hx hb dX11_oneThrow_23 rfl (lv_at hl 2 rfl) ?_
    refine lv_istore_n (lv' := [(3, .int j), (2, .int x8), (0, .ref mm), (1, .int j)]) hx hb dX11_oneThrow_24 rfl hl (by decide) rfl (fun ls hl => ?_)
    refine lv_aload_n hx hb dX11_oneThrow_25 rfl (lv_at hl 2 rfl) ?_
    refine lv_aload_n hx hb dX11_oneThrow_26 rfl (lv_at hl 2 rfl) ?_
    refine va_get (D := D) (ci := 11) (v := .int x6) (C := RX11) (T := TX11) (N := 47) hx hb hts (by decide +kernel) hown hK.1 hP 0 rfl rfl 10 (by decide) (hts (.fieldLink RX11 120 "JugglingHallModel" "place" "I") (by decide +kernel)) (fun _ h9 => h9) rfl dX11_oneThrow_27 ?_
    refine mp_14 hx hb hts (by decide +kernel) hown hK hP hD hS (hts (.fieldLink RX11 160 "JugglingHallModel" "lastPlace" "I") (by decide +kernel)) dX11_oneThrow_30 (fun H locs hP hD hS => ?_)
    refine lv_aload_n hx hb dX11_oneThrow_33 rfl (lv_at hl 2 rfl) ?_
    refine call_g (wr := []) (va_runV (As := []) (rest := []) ⟨hx, hb, hml, hown, hts⟩ (k_next2 l D cI cR cM _  (by first | assumption | omega) (by first | assumption | omega)) (cwV 0 hts gX11_oneThrow_X11_nextToken rfl rfl rfl (by decide +kernel) ⟨Nat.le_of_ble_eq_true rfl, Nat.le_of_ble_eq_true rfl⟩) (pre_V hK hP hD 0 11 rfl rfl) rfl rfl hl.1 rfl (lv_room (Nat.le_of_ble_eq_true rfl)) dX11_oneThrow_34 ⟨Nat.le_of_ble_eq_true rfl, Nat.le_of_ble_eq_true rfl⟩) hP hD hS hA [0, 1, 2, 3, 4, 5, 6, 7, 8, 9, 10, 11, 12, 13, 14, 15, 16, 17, 18, 19, 20, 21, 22, 23, 24, 25] [] (by with_unfolding_all rfl) rfl (by decide) (by decide) (fun u_3 H locs hw hP hD hS => ?_)
    obtain ⟨y5_3, y6_3, y7_3, y8_3⟩ := u_3
    have hP : va_P D vwCl (mX mm q jn cI x0 x1 x2 x3 x4 y5_3 y6_3 y7_3 y8_3 x9 x10 x11 x12 x13 x6 x15 x16 x17 x18 x19 x20 f0 f1 f2 f3 f4 f5 f6 f7 f8 f9 f10 f11 f12 f13 f14 f15 f16 f17 f18 f19 f20 f21 f22 f23 f24) H := hP
    have hD : va_D A (mX mm q jn cI x0 x1 x2 x3 x4 y5_3 y6_3 y7_3 y8_3 x9 x10 x11 x12 x13 x6 x15 x16 x17 x18 x19 x20 f0 f1 f2 f3 f4 f5 f6 f7 f8 f9 f10 f11 f12 f13 f14 f15 f16 f17 f18 f19 f20 f21 f22 f23 f24) := hD
    obtain ⟨ha_3, hp_3, hk_3, hT_3, hR_3⟩ : (x5.toInt ≤ y5_3.toInt ∧ y5_3.toInt ≤ x2.toInt) ∧ (0 ≤ y6_3.toInt ∧ y6_3.toInt ≤ 300) ∧ (y7_3.toInt = 0 ∨ x5.toInt < y5_3.toInt) ∧ (TokOK y7_3 y8_3) ∧ (∃ v9 : Int, TkR (sE f2 x2.toInt) x5.toInt y7_3.toInt v9 y6_3.toInt y5_3.toInt ∧ (y7_3.toInt = 1 ∨ y7_3.toInt = 2 → y8_3.toInt = v9)) := hw
    obtain ⟨v9_3, q1_3, q2_3⟩ := hR_3
    have hcu_3 : CU P ks vs (i + 1) y5_3 y7_3 y8_3 := CU_n hSM hCU.1 q1_3 q2_3
    have hcv_3 := hcu_3
    obtain ⟨u1_3, u2_3, u3_3⟩ := hcv_3
    refine lv_aload_n hx hb dX11_oneThrow_37 rfl (lv_at hl 2 rfl) ?_
    refine va_get (D := D) (ci := 11) (v := .int y7_3) (C := RX11) (T := TX11) (N := 47) hx hb hts (by decide +kernel) hown hK.1 hP 0 rfl rfl 11 (by decide) (hts (.fieldLink RX11 131 "JugglingHallModel" "token" "I") (by decide +kernel)) (fun _ h9 => h9) rfl dX11_oneThrow_38 ?_
    refine lv_iconst (v := 4) hx hb dX11_oneThrow_41 (by decide) ?_
    refine a_icmp_ne (u := y7_3.toInt) (v := 4) (tgt := 105) hx hb dX11_oneThrow_42 (by decide) (rfl) (by decide) (fun c_4 => ?_) (fun c_4 => ?_)
    · refine lv_aload_n hx hb dX11_oneThrow_105 rfl (lv_at hl 2 rfl) ?_
      refine lv_iload_n hx hb dX11_oneThrow_106 rfl (lv_at hl 1 rfl) ?_
      refine a_if_ne (u := x8.toInt) (tgt := 114) hx hb dX11_oneThrow_107 (by decide) (rfl) (fun c_5 => ?_) (fun c_5 => ?_)
      · refine lv_iconst (v := 4) hx hb dX11_oneThrow_114 (by decide) ?_
        refine lv_iload_n hx hb dX11_oneThrow_115 rfl (lv_at hl 1 rfl) ?_
        refine a_imul (u := 4) (v := x8.toInt) hx hb dX11_oneThrow_116 (by decide) (rfl) (by omega) (fun z_6 e_6 => ?_)
        refine lv_iload_n hx hb dX11_oneThrow_117 rfl (lv_at hl 0 rfl) ?_
        refine a_iadd (u := (4 * x8.toInt)) (v := j.toInt) hx hb dX11_oneThrow_118 (e_6) (rfl) (by omega) (fun z_7 e_7 => ?_)
        refine mp_13 hx hb hts (by decide +kernel) hown hK hP hD hS (hts (.fieldLink RX11 166 "JugglingHallModel" "made" "I") (by decide +kernel)) dX11_oneThrow_119 (fun H locs hP hD hS => ?_)
        refine lv_iconst (v := 0) hx hb dX11_oneThrow_122 (by decide) ?_
        have hz_8 : (0 : Int32).toInt = 0 := by decide
        exact g_iret ((0 : Int32), y5_3, y6_3, y7_3, y8_3, x9, z_7, x6) hx hb hr hlocks hS rfl (⟨show x5.toInt ≤ y5_3.toInt ∧ y5_3.toInt ≤ x2.toInt from (by first | assumption | omega), show TokOK y7_3 y8_3 from (by first | assumption | omega), show (0 : Int32).toInt = 0 → x5.toInt < y5_3.toInt ∨ y7_3.toInt = 0 from (by first | assumption | omega), show (0 : Int32).toInt = 0 → CellX jn z_7 from (fun _ => ⟨by omega, by omega, by omega, by omega⟩), show (0 : Int32).toInt = 0 → x7.toInt = 1 from (by first | assumption | omega), show ((0 : Int32).toInt = 0 ∧ ThOk ks vs i ∧ z_7.toInt = 4 * vs i ∧ CU P ks vs (thN ks i) y5_3 y7_3 y8_3) ∨ ((0 : Int32).toInt ≠ 0 ∧ ¬ ThOk ks vs i) from (Or.inl ⟨by omega, ⟨by omega, fun q => absurd q (by omega)⟩, by omega, by rw [show thN ks i = i + 1 from if_neg (by omega)]; exact hcu_3⟩)⟩) hP hD hQ (Nat.le_of_ble_eq_true rfl) (Nat.le_of_ble_eq_true rfl) dX11_oneThrow_123
      · refine lv_iconst (v := 0) hx hb dX11_oneThrow_110 (by decide) ?_
        refine lv_goto (tgt := 119) hx hb dX11_oneThrow_111 (by decide) ?_
        refine mp_13 hx hb hts (by decide +kernel) hown hK hP hD hS (hts (.fieldLink RX11 166 "JugglingHallModel" "made" "I") (by decide +kernel)) dX11_oneThrow_119 (fun H locs hP hD hS => ?_)
        refine lv_iconst (v := 0) hx hb dX11_oneThrow_122 (by decide) ?_
        have hz_9 : (0 : Int32).toInt = 0 := by decide
        have hz_10 : (0 : Int32).toInt = 0 := by decide
        exact g_iret ((0 : Int32), y5_3, y6_3, y7_3, y8_3, x9, (0 : Int32), x6) hx hb hr hlocks hS rfl (⟨show x5.toInt ≤ y5_3.toInt ∧ y5_3.toInt ≤ x2.toInt from (by first | assumption | omega), show TokOK y7_3 y8_3 from (by first | assumption | omega), show (0 : Int32).toInt = 0 → x5.toInt < y5_3.toInt ∨ y7_3.toInt = 0 from (by first | assumption | omega), show (0 : Int32).toInt = 0 → CellX jn (0 : Int32) from (fun _ => ⟨by omega, by omega, by omega, by omega⟩), show (0 : Int32).toInt = 0 → x7.toInt = 1 from (by first | assumption | omega), show ((0 : Int32).toInt = 0 ∧ ThOk ks vs i ∧ (0 : Int32).toInt = 4 * vs i ∧ CU P ks vs (thN ks i) y5_3 y7_3 y8_3) ∨ ((0 : Int32).toInt ≠ 0 ∧ ¬ ThOk ks vs i) from (Or.inl ⟨by omega, ⟨by omega, fun q => absurd q (by omega)⟩, by omega, by rw [show thN ks i = i + 1 from if_neg (by omega)]; exact hcu_3⟩)⟩) hP hD hQ (Nat.le_of_ble_eq_true rfl) (Nat.le_of_ble_eq_true rfl) dX11_oneThrow_123
    · refine lv_aload_n hx hb dX11_oneThrow_45 rfl (lv_at hl 2 rfl) ?_
      refine call_g (wr := []) (va_runV (As := []) (rest := []) ⟨hx, hb, hml, hown, hts⟩ (k_next2 l D cI cR cM _  (by first | assumption | omega) (by first | assumption | omega)) (cwV 0 hts gX11_oneThrow_X11_nextToken rfl rfl rfl (by decide +kernel) ⟨Nat.le_of_ble_eq_true rfl, Nat.le_of_ble_eq_true rfl⟩) (pre_V hK hP hD 0 11 rfl rfl) rfl rfl hl.1 rfl (lv_room (Nat.le_of_ble_eq_true rfl)) dX11_oneThrow_46 ⟨Nat.le_of_ble_eq_true rfl, Nat.le_of_ble_eq_true rfl⟩) hP hD hS hA [0, 1, 2, 3, 4, 5, 6, 7, 8, 9, 10, 11, 12, 13, 14, 15, 16, 17, 18, 19, 20, 21, 22, 23, 24, 25] [] (by with_unfolding_all rfl) rfl (by decide) (by decide) (fun u_11 H locs hw hP hD hS => ?_)
      obtain ⟨y5_11, y6_11, y7_11, y8_11⟩ := u_11
      have hP : va_P D vwCl (mX mm q jn cI x0 x1 x2 x3 x4 y5_11 y6_11 y7_11 y8_11 x9 x10 x11 x12 x13 x6 x15 x16 x17 x18 x19 x20 f0 f1 f2 f3 f4 f5 f6 f7 f8 f9 f10 f11 f12 f13 f14 f15 f16 f17 f18 f19 f20 f21 f22 f23 f24) H := hP
      have hD : va_D A (mX mm q jn cI x0 x1 x2 x3 x4 y5_11 y6_11 y7_11 y8_11 x9 x10 x11 x12 x13 x6 x15 x16 x17 x18 x19 x20 f0 f1 f2 f3 f4 f5 f6 f7 f8 f9 f10 f11 f12 f13 f14 f15 f16 f17 f18 f19 f20 f21 f22 f23 f24) := hD
      obtain ⟨ha_11, hp_11, hk_11, hT_11, hR_11⟩ : (y5_3.toInt ≤ y5_11.toInt ∧ y5_11.toInt ≤ x2.toInt) ∧ (0 ≤ y6_11.toInt ∧ y6_11.toInt ≤ 300) ∧ (y7_11.toInt = 0 ∨ y5_3.toInt < y5_11.toInt) ∧ (TokOK y7_11 y8_11) ∧ (∃ v9 : Int, TkR (sE f2 x2.toInt) y5_3.toInt y7_11.toInt v9 y6_11.toInt y5_11.toInt ∧ (y7_11.toInt = 1 ∨ y7_11.toInt = 2 → y8_11.toInt = v9)) := hw
      obtain ⟨v9_11, q1_11, q2_11⟩ := hR_11
      have hcu_11 : CU P ks vs (i + 2) y5_11 y7_11 y8_11 := CU_n hSM hcu_3.1 q1_11 q2_11
      have hcv_11 := hcu_11
      obtain ⟨u1_11, u2_11, u3_11⟩ := hcv_11
      refine lv_aload_n hx hb dX11_oneThrow_49 rfl (lv_at hl 2 rfl) ?_
      refine va_get (D := D) (ci := 11) (v := .int y7_11) (C := RX11) (T := TX11) (N := 47) hx hb hts (by decide +kernel) hown hK.1 hP 0 rfl rfl 11 (by decide) (hts (.fieldLink RX11 131 "JugglingHallModel" "token" "I") (by decide +kernel)) (fun _ h9 => h9) rfl dX11_oneThrow_50 ?_
      refine lv_iconst (v := 1) hx hb dX11_oneThrow_53 (by decide) ?_
      refine a_icmp_eq (u := y7_11.toInt) (v := 1) (tgt := 67) hx hb dX11_oneThrow_54 (by decide) (rfl) (by decide) (fun c_12 => ?_) (fun c_12 => ?_)
      · have hv13 := hT_11.2.1 (by omega)
        refine lv_aload_n hx hb dX11_oneThrow_67 rfl (lv_at hl 2 rfl) ?_
        refine va_get (D := D) (ci := 11) (v := .int y8_11) (C := RX11) (T := TX11) (N := 47) hx hb hts (by decide +kernel) hown hK.1 hP 0 rfl rfl 12 (by decide) (hts (.fieldLink RX11 138 "JugglingHallModel" "value" "I") (by decide +kernel)) (fun _ h9 => h9) rfl dX11_oneThrow_68 ?_
        refine lv_aload_n hx hb dX11_oneThrow_71 rfl (lv_at hl 2 rfl) ?_
        refine va_get (D := D) (ci := 11) (v := .int (nI jn)) (C := RX11) (T := TX11) (N := 47) hx hb hts (by decide +kernel) hown hK.1 hP 0 rfl rfl 0 (by decide) (hts (.fieldLink RX11 93 "JugglingHallModel" "jugglers" "I") (by decide +kernel)) (fun _ h9 => h9) rfl dX11_oneThrow_72 ?_
        refine a_icmp_lt (u := y8_11.toInt) (v := (jn : Int)) (tgt := 88) hx hb dX11_oneThrow_75 (by decide) (rfl) (nI_toInt (by omega)) (fun c_14 => ?_) (fun c_14 => ?_)
        · refine lv_aload_n hx hb dX11_oneThrow_88 rfl (lv_at hl 2 rfl) ?_
          refine va_get (D := D) (ci := 11) (v := .int y8_11) (C := RX11) (T := TX11) (N := 47) hx hb hts (by decide +kernel) hown hK.1 hP 0 rfl rfl 12 (by decide) (hts (.fieldLink RX11 138 "JugglingHallModel" "value" "I") (by decide +kernel)) (fun _ h9 => h9) rfl dX11_oneThrow_89 ?_
          refine lv_istore_n (lv' := [(3, .int y8_11), (2, .int x8), (0, .ref mm), (1, .int j)]) hx hb dX11_oneThrow_92 rfl hl (by decide) rfl (fun ls hl => ?_)
          refine lv_aload_n hx hb dX11_oneThrow_93 rfl (lv_at hl 2 rfl) ?_
          refine lv_aload_n hx hb dX11_oneThrow_94 rfl (lv_at hl 2 rfl) ?_
          refine va_get (D := D) (ci := 11) (v := .int y6_11) (C := RX11) (T := TX11) (N := 47) hx hb hts (by decide +kernel) hown hK.1 hP 0 rfl rfl 10 (by decide) (hts (.fieldLink RX11 120 "JugglingHallModel" "place" "I") (by decide +kernel)) (fun _ h9 => h9) rfl dX11_oneThrow_95 ?_
          refine mp_14 hx hb hts (by decide +kernel) hown hK hP hD hS (hts (.fieldLink RX11 160 "JugglingHallModel" "lastPlace" "I") (by decide +kernel)) dX11_oneThrow_98 (fun H locs hP hD hS => ?_)
          refine lv_aload_n hx hb dX11_oneThrow_101 rfl (lv_at hl 2 rfl) ?_
          refine call_g (wr := []) (va_runV (As := []) (rest := []) ⟨hx, hb, hml, hown, hts⟩ (k_next2 l D cI cR cM _  (by first | assumption | omega) (by first | assumption | omega)) (cwV 0 hts gX11_oneThrow_X11_nextToken rfl rfl rfl (by decide +kernel) ⟨Nat.le_of_ble_eq_true rfl, Nat.le_of_ble_eq_true rfl⟩) (pre_V hK hP hD 0 11 rfl rfl) rfl rfl hl.1 rfl (lv_room (Nat.le_of_ble_eq_true rfl)) dX11_oneThrow_102 ⟨Nat.le_of_ble_eq_true rfl, Nat.le_of_ble_eq_true rfl⟩) hP hD hS hA [0, 1, 2, 3, 4, 5, 6, 7, 8, 9, 10, 11, 12, 13, 14, 15, 16, 17, 18, 19, 20, 21, 22, 23, 24, 25] [] (by with_unfolding_all rfl) rfl (by decide) (by decide) (fun u_15 H locs hw hP hD hS => ?_)
          obtain ⟨y5_15, y6_15, y7_15, y8_15⟩ := u_15
          have hP : va_P D vwCl (mX mm q jn cI x0 x1 x2 x3 x4 y5_15 y6_15 y7_15 y8_15 x9 x10 x11 x12 x13 y6_11 x15 x16 x17 x18 x19 x20 f0 f1 f2 f3 f4 f5 f6 f7 f8 f9 f10 f11 f12 f13 f14 f15 f16 f17 f18 f19 f20 f21 f22 f23 f24) H := hP
          have hD : va_D A (mX mm q jn cI x0 x1 x2 x3 x4 y5_15 y6_15 y7_15 y8_15 x9 x10 x11 x12 x13 y6_11 x15 x16 x17 x18 x19 x20 f0 f1 f2 f3 f4 f5 f6 f7 f8 f9 f10 f11 f12 f13 f14 f15 f16 f17 f18 f19 f20 f21 f22 f23 f24) := hD
          obtain ⟨ha_15, hp_15, hk_15, hT_15, hR_15⟩ : (y5_11.toInt ≤ y5_15.toInt ∧ y5_15.toInt ≤ x2.toInt) ∧ (0 ≤ y6_15.toInt ∧ y6_15.toInt ≤ 300) ∧ (y7_15.toInt = 0 ∨ y5_11.toInt < y5_15.toInt) ∧ (TokOK y7_15 y8_15) ∧ (∃ v9 : Int, TkR (sE f2 x2.toInt) y5_11.toInt y7_15.toInt v9 y6_15.toInt y5_15.toInt ∧ (y7_15.toInt = 1 ∨ y7_15.toInt = 2 → y8_15.toInt = v9)) := hw
          obtain ⟨v9_15, q1_15, q2_15⟩ := hR_15
          have hcu_15 : CU P ks vs (i + 3) y5_15 y7_15 y8_15 := CU_n hSM hcu_11.1 q1_15 q2_15
          have hcv_15 := hcu_15
          obtain ⟨u1_15, u2_15, u3_15⟩ := hcv_15
          refine lv_aload_n hx hb dX11_oneThrow_105 rfl (lv_at hl 2 rfl) ?_
          refine lv_iload_n hx hb dX11_oneThrow_106 rfl (lv_at hl 1 rfl) ?_
          refine a_if_ne (u := x8.toInt) (tgt := 114) hx hb dX11_oneThrow_107 (by decide) (rfl) (fun c_16 => ?_) (fun c_16 => ?_)
          · refine lv_iconst (v := 4) hx hb dX11_oneThrow_114 (by decide) ?_
            refine lv_iload_n hx hb dX11_oneThrow_115 rfl (lv_at hl 1 rfl) ?_
            refine a_imul (u := 4) (v := x8.toInt) hx hb dX11_oneThrow_116 (by decide) (rfl) (by omega) (fun z_17 e_17 => ?_)
            refine lv_iload_n hx hb dX11_oneThrow_117 rfl (lv_at hl 0 rfl) ?_
            refine a_iadd (u := (4 * x8.toInt)) (v := y8_11.toInt) hx hb dX11_oneThrow_118 (e_17) (rfl) (by omega) (fun z_18 e_18 => ?_)
            refine mp_13 hx hb hts (by decide +kernel) hown hK hP hD hS (hts (.fieldLink RX11 166 "JugglingHallModel" "made" "I") (by decide +kernel)) dX11_oneThrow_119 (fun H locs hP hD hS => ?_)
            refine lv_iconst (v := 0) hx hb dX11_oneThrow_122 (by decide) ?_
            have hz_19 : (0 : Int32).toInt = 0 := by decide
            exact g_iret ((0 : Int32), y5_15, y6_15, y7_15, y8_15, x9, z_18, y6_11) hx hb hr hlocks hS rfl (⟨show x5.toInt ≤ y5_15.toInt ∧ y5_15.toInt ≤ x2.toInt from (by first | assumption | omega), show TokOK y7_15 y8_15 from (by first | assumption | omega), show (0 : Int32).toInt = 0 → x5.toInt < y5_15.toInt ∨ y7_15.toInt = 0 from (by first | assumption | omega), show (0 : Int32).toInt = 0 → CellX jn z_18 from (fun _ => ⟨by omega, by omega, by omega, by omega⟩), show (0 : Int32).toInt = 0 → x7.toInt = 1 from (by first | assumption | omega), show ((0 : Int32).toInt = 0 ∧ ThOk ks vs i ∧ z_18.toInt = 4 * vs i ∧ CU P ks vs (thN ks i) y5_15 y7_15 y8_15) ∨ ((0 : Int32).toInt ≠ 0 ∧ ¬ ThOk ks vs i) from (Or.inl ⟨by omega, ⟨by omega, fun q => ⟨by omega, by omega⟩⟩, by omega, by rw [show thN ks i = i + 3 from if_pos (by omega)]; exact hcu_15⟩)⟩) hP hD hQ (Nat.le_of_ble_eq_true rfl) (Nat.le_of_ble_eq_true rfl) dX11_oneThrow_123
          · refine lv_iconst (v := 0) hx hb dX11_oneThrow_110 (by decide) ?_
            refine lv_goto (tgt := 119) hx hb dX11_oneThrow_111 (by decide) ?_
            refine mp_13 hx hb hts (by decide +kernel) hown hK hP hD hS (hts (.fieldLink RX11 166 "JugglingHallModel" "made" "I") (by decide +kernel)) dX11_oneThrow_119 (fun H locs hP hD hS => ?_)
            refine lv_iconst (v := 0) hx hb dX11_oneThrow_122 (by decide) ?_
            have hz_20 : (0 : Int32).toInt = 0 := by decide
            have hz_21 : (0 : Int32).toInt = 0 := by decide
            exact g_iret ((0 : Int32), y5_15, y6_15, y7_15, y8_15, x9, (0 : Int32), y6_11) hx hb hr hlocks hS rfl (⟨show x5.toInt ≤ y5_15.toInt ∧ y5_15.toInt ≤ x2.toInt from (by first | assumption | omega), show TokOK y7_15 y8_15 from (by first | assumption | omega), show (0 : Int32).toInt = 0 → x5.toInt < y5_15.toInt ∨ y7_15.toInt = 0 from (by first | assumption | omega), show (0 : Int32).toInt = 0 → CellX jn (0 : Int32) from (fun _ => ⟨by omega, by omega, by omega, by omega⟩), show (0 : Int32).toInt = 0 → x7.toInt = 1 from (by first | assumption | omega), show ((0 : Int32).toInt = 0 ∧ ThOk ks vs i ∧ (0 : Int32).toInt = 4 * vs i ∧ CU P ks vs (thN ks i) y5_15 y7_15 y8_15) ∨ ((0 : Int32).toInt ≠ 0 ∧ ¬ ThOk ks vs i) from (Or.inl ⟨by omega, ⟨by omega, fun q => ⟨by omega, by omega⟩⟩, by omega, by rw [show thN ks i = i + 3 from if_pos (by omega)]; exact hcu_15⟩)⟩) hP hD hQ (Nat.le_of_ble_eq_true rfl) (Nat.le_of_ble_eq_true rfl) dX11_oneThrow_123
        · refine lv_aload_n hx hb dX11_oneThrow_78 rfl (lv_at hl 2 rfl) ?_
          refine lv_iconst (v := 2) hx hb dX11_oneThrow_79 (by decide) ?_
          refine lv_aload_n hx hb dX11_oneThrow_80 rfl (lv_at hl 2 rfl) ?_
          refine va_get (D := D) (ci := 11) (v := .int y6_11) (C := RX11) (T := TX11) (N := 47) hx hb hts (by decide +kernel) hown hK.1 hP 0 rfl rfl 10 (by decide) (hts (.fieldLink RX11 120 "JugglingHallModel" "place" "I") (by decide +kernel)) (fun _ h9 => h9) rfl dX11_oneThrow_81 ?_
          have hz_22 : (2 : Int32).toInt = 2 := by decide
          refine call_g (wr := []) (va_runV (As := [.int 2, .int y6_11]) (rest := []) ⟨hx, hb, hml, hown, hts⟩ (k_fails l D cI cR cM _  ) (cwV 2 hts gX11_oneThrow_X11_fails rfl rfl rfl (by decide +kernel) ⟨Nat.le_of_ble_eq_true rfl, Nat.le_of_ble_eq_true rfl⟩) (pre_V hK hP hD 0 11 rfl rfl) rfl rfl hl.1 rfl (lv_room (Nat.le_of_ble_eq_true rfl)) dX11_oneThrow_84 ⟨Nat.le_of_ble_eq_true rfl, Nat.le_of_ble_eq_true rfl⟩) hP hD hS hA [0, 1, 2, 3, 4, 5, 6, 7, 8, 9, 10, 11, 12, 13, 14, 15, 16, 17, 18, 19, 20, 21, 22, 23, 24, 25] [] (by with_unfolding_all rfl) rfl (by decide) (by decide) (fun u_23 H locs hw hP hD hS => ?_)
          obtain ⟨r_23, y9_23⟩ := u_23
          have hP : va_P D vwCl (mX mm q jn cI x0 x1 x2 x3 x4 y5_11 y6_11 y7_11 y8_11 y9_23 x10 x11 x12 x13 x6 x15 x16 x17 x18 x19 x20 f0 f1 f2 f3 f4 f5 f6 f7 f8 f9 f10 f11 f12 f13 f14 f15 f16 f17 f18 f19 f20 f21 f22 f23 f24) H := hP
          have hD : va_D A (mX mm q jn cI x0 x1 x2 x3 x4 y5_11 y6_11 y7_11 y8_11 y9_23 x10 x11 x12 x13 x6 x15 x16 x17 x18 x19 x20 f0 f1 f2 f3 f4 f5 f6 f7 f8 f9 f10 f11 f12 f13 f14 f15 f16 f17 f18 f19 f20 f21 f22 f23 f24) := hD
          have hr_23 : (r_23.toInt = (2 : Int32).toInt) := hw
          exact g_iret (r_23, y5_11, y6_11, y7_11, y8_11, y9_23, x13, x6) hx hb hr hlocks hS rfl (⟨show x5.toInt ≤ y5_11.toInt ∧ y5_11.toInt ≤ x2.toInt from (by first | assumption | omega), show TokOK y7_11 y8_11 from (by first | assumption | omega), show r_23.toInt = 0 → x5.toInt < y5_11.toInt ∨ y7_11.toInt = 0 from (by first | assumption | omega), show r_23.toInt = 0 → CellX jn x13 from (fun q => absurd q (by omega)), show r_23.toInt = 0 → x7.toInt = 1 from (by first | assumption | omega), show (r_23.toInt = 0 ∧ ThOk ks vs i ∧ x13.toInt = 4 * vs i ∧ CU P ks vs (thN ks i) y5_11 y7_11 y8_11) ∨ (r_23.toInt ≠ 0 ∧ ¬ ThOk ks vs i) from (Or.inr ⟨by omega, fun q => by have q9 := q.2 (by omega); omega⟩)⟩) hP hD hQ (Nat.le_of_ble_eq_true rfl) (Nat.le_of_ble_eq_true rfl) dX11_oneThrow_87
      · refine lv_aload_n hx hb dX11_oneThrow_57 rfl (lv_at hl 2 rfl) ?_
        refine lv_iconst (v := 1) hx hb dX11_oneThrow_58 (by decide) ?_
        refine lv_aload_n hx hb dX11_oneThrow_59 rfl (lv_at hl 2 rfl) ?_
        refine va_get (D := D) (ci := 11) (v := .int y6_11) (C := RX11) (T := TX11) (N := 47) hx hb hts (by decide +kernel) hown hK.1 hP 0 rfl rfl 10 (by decide) (hts (.fieldLink RX11 120 "JugglingHallModel" "place" "I") (by decide +kernel)) (fun _ h9 => h9) rfl dX11_oneThrow_60 ?_
        have hz_24 : (1 : Int32).toInt = 1 := by decide
        refine call_g (wr := []) (va_runV (As := [.int 1, .int y6_11]) (rest := []) ⟨hx, hb, hml, hown, hts⟩ (k_fails l D cI cR cM _  ) (cwV 2 hts gX11_oneThrow_X11_fails rfl rfl rfl (by decide +kernel) ⟨Nat.le_of_ble_eq_true rfl, Nat.le_of_ble_eq_true rfl⟩) (pre_V hK hP hD 0 11 rfl rfl) rfl rfl hl.1 rfl (lv_room (Nat.le_of_ble_eq_true rfl)) dX11_oneThrow_63 ⟨Nat.le_of_ble_eq_true rfl, Nat.le_of_ble_eq_true rfl⟩) hP hD hS hA [0, 1, 2, 3, 4, 5, 6, 7, 8, 9, 10, 11, 12, 13, 14, 15, 16, 17, 18, 19, 20, 21, 22, 23, 24, 25] [] (by with_unfolding_all rfl) rfl (by decide) (by decide) (fun u_25 H locs hw hP hD hS => ?_)
        obtain ⟨r_25, y9_25⟩ := u_25
        have hP : va_P D vwCl (mX mm q jn cI x0 x1 x2 x3 x4 y5_11 y6_11 y7_11 y8_11 y9_25 x10 x11 x12 x13 x6 x15 x16 x17 x18 x19 x20 f0 f1 f2 f3 f4 f5 f6 f7 f8 f9 f10 f11 f12 f13 f14 f15 f16 f17 f18 f19 f20 f21 f22 f23 f24) H := hP
        have hD : va_D A (mX mm q jn cI x0 x1 x2 x3 x4 y5_11 y6_11 y7_11 y8_11 y9_25 x10 x11 x12 x13 x6 x15 x16 x17 x18 x19 x20 f0 f1 f2 f3 f4 f5 f6 f7 f8 f9 f10 f11 f12 f13 f14 f15 f16 f17 f18 f19 f20 f21 f22 f23 f24) := hD
        have hr_25 : (r_25.toInt = (1 : Int32).toInt) := hw
        exact g_iret (r_25, y5_11, y6_11, y7_11, y8_11, y9_25, x13, x6) hx hb hr hlocks hS rfl (⟨show x5.toInt ≤ y5_11.toInt ∧ y5_11.toInt ≤ x2.toInt from (by first | assumption | omega), show TokOK y7_11 y8_11 from (by first | assumption | omega), show r_25.toInt = 0 → x5.toInt < y5_11.toInt ∨ y7_11.toInt = 0 from (by first | assumption | omega), show r_25.toInt = 0 → CellX jn x13 from (fun q => absurd q (by omega)), show r_25.toInt = 0 → x7.toInt = 1 from (by first | assumption | omega), show (r_25.toInt = 0 ∧ ThOk ks vs i ∧ x13.toInt = 4 * vs i ∧ CU P ks vs (thN ks i) y5_11 y7_11 y8_11) ∨ (r_25.toInt ≠ 0 ∧ ¬ ThOk ks vs i) from (Or.inr ⟨by omega, fun q => by have q9 := q.2 (by omega); omega⟩)⟩) hP hD hQ (Nat.le_of_ble_eq_true rfl) (Nat.le_of_ble_eq_true rfl) dX11_oneThrow_66
  · refine lv_aload_n hx hb dX11_oneThrow_8 rfl (lv_at hl 0 rfl) ?_
    refine lv_iconst (v := 1) hx hb dX11_oneThrow_9 (by decide) ?_
    refine lv_aload_n hx hb dX11_oneThrow_10 rfl (lv_at hl 0 rfl) ?_
    refine va_get (D := D) (ci := 11) (v := .int x6) (C := RX11) (T := TX11) (N := 47) hx hb hts (by decide +kernel) hown hK.1 hP 0 rfl rfl 10 (by decide) (hts (.fieldLink RX11 120 "JugglingHallModel" "place" "I") (by decide +kernel)) (fun _ h9 => h9) rfl dX11_oneThrow_11 ?_
    have hz_26 : (1 : Int32).toInt = 1 := by decide
    refine call_g (wr := []) (va_runV (As := [.int 1, .int x6]) (rest := []) ⟨hx, hb, hml, hown, hts⟩ (k_fails l D cI cR cM _  ) (cwV 2 hts gX11_oneThrow_X11_fails rfl rfl rfl (by decide +kernel) ⟨Nat.le_of_ble_eq_true rfl, Nat.le_of_ble_eq_true rfl⟩) (pre_V hK hP hD 0 11 rfl rfl) rfl rfl hl.1 rfl (lv_room (Nat.le_of_ble_eq_true rfl)) dX11_oneThrow_14 ⟨Nat.le_of_ble_eq_true rfl, Nat.le_of_ble_eq_true rfl⟩) hP hD hS hA [0, 1, 2, 3, 4, 5, 6, 7, 8, 9, 10, 11, 12, 13, 14, 15, 16, 17, 18, 19, 20, 21, 22, 23, 24, 25] [] (by with_unfolding_all rfl) rfl (by decide) (by decide) (fun u_27 H locs hw hP hD hS => ?_)
    obtain ⟨r_27, y9_27⟩ := u_27
    have hP : va_P D vwCl (mX mm q jn cI x0 x1 x2 x3 x4 x5 x6 x7 x8 y9_27 x10 x11 x12 x13 x14 x15 x16 x17 x18 x19 x20 f0 f1 f2 f3 f4 f5 f6 f7 f8 f9 f10 f11 f12 f13 f14 f15 f16 f17 f18 f19 f20 f21 f22 f23 f24) H := hP
    have hD : va_D A (mX mm q jn cI x0 x1 x2 x3 x4 x5 x6 x7 x8 y9_27 x10 x11 x12 x13 x14 x15 x16 x17 x18 x19 x20 f0 f1 f2 f3 f4 f5 f6 f7 f8 f9 f10 f11 f12 f13 f14 f15 f16 f17 f18 f19 f20 f21 f22 f23 f24) := hD
    have hr_27 : (r_27.toInt = (1 : Int32).toInt) := hw
    exact g_iret (r_27, x5, x6, x7, x8, y9_27, x13, x14) hx hb hr hlocks hS rfl (⟨show x5.toInt ≤ x5.toInt ∧ x5.toInt ≤ x2.toInt from (by first | assumption | omega), show TokOK x7 x8 from (by first | assumption | omega), show r_27.toInt = 0 → x5.toInt < x5.toInt ∨ x7.toInt = 0 from (by first | assumption | omega), show r_27.toInt = 0 → CellX jn x13 from (fun q => absurd q (by omega)), show r_27.toInt = 0 → x7.toInt = 1 from (by first | assumption | omega), show (r_27.toInt = 0 ∧ ThOk ks vs i ∧ x13.toInt = 4 * vs i ∧ CU P ks vs (thN ks i) x5 x7 x8) ∨ (r_27.toInt ≠ 0 ∧ ¬ ThOk ks vs i) from (Or.inr ⟨by omega, fun q => by have q9 := q.1; omega⟩)⟩) hP hD hQ (Nat.le_of_ble_eq_true rfl) (Nat.le_of_ble_eq_true rfl) dX11_oneThrow_17
set_option maxRecDepth 100000 in
set_option maxHeartbeats 4000000 in
theorem k_hands3 (l : Launch) (D : va_G) (cI cR cM : ClassId) (sz : Nat) {jn mm : Nat} {q : Nat → Nat} {x0 x1 x2 x3 x4 x5 x6 x7 x8 x9 x10 x11 x12 x13 x14 x15 x16 x17 x18 x19 x20 : Int32} {f0 f1 f2 f3 f4 f5 f6 f7 f8 f9 f10 f11 f12 f13 f14 f15 f16 f17 f18 f19 f20 f21 f22 f23 f24 : Nat → Int32} {j : Int32} {P ks vs : Nat → Int} {i : Nat} (ht : 0 ≤ x2.toInt ∧ x2.toInt ≤ 300) (h5 : 0 ≤ x5.toInt ∧ x5.toInt ≤ x2.toInt) (hT : TokOK x7 x8) (hj : 1 ≤ jn ∧ jn ≤ 3) (hjj : 0 ≤ j.toInt ∧ j.toInt < (jn : Int)) (h10 : 0 ≤ x10.toInt ∧ x10.toInt ≤ 200) (hC : CellsX jn f3 0 (6 * x10.toInt + 6)) (hj1 : jn = 1) (hSM : SM (sE f2 x2.toInt) P ks vs) (hCU : CU P ks vs i x5 x7 x8) : Met l yX11_hands wsX11_hands ({ frames := 5, cells := 0, slots := 0, locals := 111 }) (P0 D cI cR cM [.ref mm, .int j] sz (mX mm q jn cI x0 x1 x2 x3 x4 x5 x6 x7 x8 x9 x10 x11 x12 x13 x14 x15 x16 x17 x18 x19 x20 f0 f1 f2 f3 f4 f5 f6 f7 f8 f9 f10 f11 f12 f13 f14 f15 f16 f17 f18 f19 f20 f21 f22 f23 f24)) (QG (S := Int32 × Int32 × Int32 × Int32 × Int32 × Int32 × Int32 × Int32 × (Nat → Int32)) (fun u => some (.int u.1)) (fun u => mX mm q jn cI x0 x1 x2 x3 x4 (u.2.1) (u.2.2.1) (u.2.2.2.1) (u.2.2.2.2.1) (u.2.2.2.2.2.1) x10 x11 x12 (u.2.2.2.2.2.2.1) (u.2.2.2.2.2.2.2.1) x15 x16 x17 x18 x19 x20 f0 f1 f2 (u.2.2.2.2.2.2.2.2) f4 f5 f6 f7 f8 f9 f10 f11 f12 f13 f14 f15 f16 f17 f18 f19 f20 f21 f22 f23 f24) (fun u => (x5.toInt ≤ u.2.1.toInt ∧ u.2.1.toInt ≤ x2.toInt) ∧ (TokOK u.2.2.2.1 u.2.2.2.2.1) ∧ (u.1.toInt = 0 → x5.toInt < u.2.1.toInt ∨ u.2.2.2.1.toInt = 0) ∧ (u.1.toInt = 0 → CellsX jn u.2.2.2.2.2.2.2.2 0 (6 * x10.toInt + 6)) ∧ (u.1.toInt = 0 → x7.toInt ≠ 0) ∧ (u.1.toInt = 0 → ∀ i : Int, 0 ≤ i → i ≠ 6 * x10.toInt + 2 * j.toInt → i ≠ 6 * x10.toInt + 2 * j.toInt + 1 → u.2.2.2.2.2.2.2.2 i.toNat = f3 i.toNat) ∧ (Hd ((u.1.toInt = 0 ∧ ∃ (a9 b9 : Int) (j9 : Nat), BtR ks vs i a9 b9 j9 ∧ CU P ks vs j9 u.2.1 u.2.2.2.1 u.2.2.2.2.1 ∧ (u.2.2.2.2.2.2.2.2 (6 * x10.toInt + 2 * j.toInt).toNat).toInt = 4 * a9 ∧ (u.2.2.2.2.2.2.2.2 ((6 * x10.toInt + 2 * j.toInt) + 1).toNat).toInt = 4 * b9) ∨ (u.1.toInt ≠ 0 ∧ BtF ks vs i)))) D (va_A (mX mm q jn cI x0 x1 x2 x3 x4 x5 x6 x7 x8 x9 x10 x11 x12 x13 x14 x15 x16 x17 x18 x19 x20 f0 f1 f2 f3 f4 f5 f6 f7 f8 f9 f10 f11 f12 f13 f14 f15 f16 f17 f18 f19 f20 f21 f22 f23 f24) sz)) 0 0 (va_A (mX mm q jn cI x0 x1 x2 x3 x4 x5 x6 x7 x8 x9 x10 x11 x12 x13 x14 x15 x16 x17 x18 x19 x20 f0 f1 f2 f3 f4 f5 f6 f7 f8 f9 f10 f11 f12 f13 f14 f15 f16 f17 f18 f19 f20 f21 f22 f23 f24) sz) := by
  refine go (cc := cX11_hands) (maxL := 5) (ret := (some .int)) (by decide) rfl (Nat.le_of_ble_eq_true rfl) ?_
  intro p e s m below meth c ls args Q hQ hsz hx hb hr hml hts hown hlocks hnm hP hK hD hl
  subst hsz
  have hD := hD.self (sz := s.heap.size)
  generalize hAe : va_A (mX mm q jn cI x0 x1 x2 x3 x4 x5 x6 x7 x8 x9 x10 x11 x12 x13 x14 x15 x16 x17 x18 x19 x20 f0 f1 f2 f3 f4 f5 f6 f7 f8 f9 f10 f11 f12 f13 f14 f15 f16 f17 f18 f19 f20 f21 f22 f23 f24) s.heap.size = A at hD hQ
  have hA : ∀ q, s.heap.size ≤ q → A q := fun q h => by rw [← hAe]; exact Or.inr h
  have hS : va_S A s.heap s.heap [] := va_S.rf
  have hl : lv_has ls 5 [(0, .ref mm), (1, .int j)] := hl
  have hcu0 := hCU
  obtain ⟨u1_0, u2_0, u3_0⟩ := hcu0
  refine lv_aload_n hx hb dX11_hands_0 rfl (lv_at hl 0 rfl) ?_
  refine va_get (D := D) (ci := 11) (v := .int x7) (C := RX11) (T := TX11) (N := 47) hx hb hts (by decide +kernel) hown hK.1 hP 0 rfl rfl 11 (by decide) (hts (.fieldLink RX11 131 "JugglingHallModel" "token" "I") (by decide +kernel)) (fun _ h9 => h9) rfl dX11_hands_1 ?_
  refine lv_bipush (v := 91) hx hb dX11_hands_4 (by decide) ?_
  refine a_icmp_ne (u := x7.toInt) (v := 91) (tgt := 13) hx hb dX11_hands_6 (by decide) (rfl) (by decide) (fun c_1 => ?_) (fun c_1 => ?_)
  · refine lv_iconst (v := 0) hx hb dX11_hands_13 (by decide) ?_
    refine lv_istore_n (lv' := [(2, .int 0), (0, .ref mm), (1, .int j)]) hx hb dX11_hands_14 rfl hl (by decide) rfl (fun ls hl => ?_)
    refine lv_iload_n hx hb dX11_hands_15 rfl (lv_at hl 0 rfl) ?_
    refine a_if_eq (u := 0) (tgt := 23) hx hb dX11_hands_16 (by decide) (by decide) (fun c_2 => ?_) (fun c_2 => absurd c_2 (by omega))
    refine lv_bipush (v := 6) hx hb dX11_hands_23 (by decide) ?_
    refine lv_aload_n hx hb dX11_hands_25 rfl (lv_at hl 1 rfl) ?_
    refine va_get (D := D) (ci := 11) (v := .int x10) (C := RX11) (T := TX11) (N := 47) hx hb hts (by decide +kernel) hown hK.1 hP 0 rfl rfl 19 (by decide) (hts (.fieldLink RX11 151 "JugglingHallModel" "top" "I") (by decide +kernel)) (fun _ h9 => h9) rfl dX11_hands_26 ?_
    refine a_imul (u := 6) (v := x10.toInt) hx hb dX11_hands_29 (by decide) (rfl) (by omega) (fun z_3 e_3 => ?_)
    refine lv_iconst (v := 2) hx hb dX11_hands_30 (by decide) ?_
    refine lv_iload_n hx hb dX11_hands_31 rfl (lv_at hl 2 rfl) ?_
    refine a_imul (u := 2) (v := j.toInt) hx hb dX11_hands_32 (by decide) (rfl) (by omega) (fun z_4 e_4 => ?_)
    refine a_iadd (u := (6 * x10.toInt)) (v := (2 * j.toInt)) hx hb dX11_hands_33 (e_3) (e_4) (by omega) (fun z_5 e_5 => ?_)
    refine lv_istore_n (lv' := [(3, .int z_5), (2, .int 0), (0, .ref mm), (1, .int j)]) hx hb dX11_hands_34 rfl hl (by decide) rfl (fun ls hl => ?_)
    refine lv_aload_n hx hb dX11_hands_35 rfl (lv_at hl 2 rfl) ?_
    refine lv_iload_n hx hb dX11_hands_36 rfl (lv_at hl 3 rfl) ?_
    refine call_g (wr := []) (va_runV (As := [.int j]) (rest := []) ⟨hx, hb, hml, hown, hts⟩ (k_oneThrow3 l D cI cR cM _ (P := P) (ks := ks) (vs := vs) (i := i) (by first | assumption | omega) (by first | assumption | omega) (by first | assumption | omega) (by first | assumption | omega) (by first | assumption | omega) (by first | assumption | omega) (by first | assumption | omega) (hCU)) (cwV 1 hts gX11_hands_X11_oneThrow rfl rfl rfl (by decide +kernel) ⟨Nat.le_of_ble_eq_true rfl, Nat.le_of_ble_eq_true rfl⟩) (pre_V hK hP hD 0 11 rfl rfl) rfl rfl hl.1 rfl (lv_room (Nat.le_of_ble_eq_true rfl)) dX11_hands_37 ⟨Nat.le_of_ble_eq_true rfl, Nat.le_of_ble_eq_true rfl⟩) hP hD hS hA [0, 1, 2, 3, 4, 5, 6, 7, 8, 9, 10, 11, 12, 13, 14, 15, 16, 17, 18, 19, 20, 21, 22, 23, 24, 25] [] (by with_unfolding_all rfl) rfl (by decide) (by decide) (fun u_6 H locs hw hP hD hS => ?_)
    obtain ⟨r_6, y5_6, y6_6, y7_6, y8_6, y9_6, y13_6, y14_6⟩ := u_6
    have hP : va_P D vwCl (mX mm q jn cI x0 x1 x2 x3 x4 y5_6 y6_6 y7_6 y8_6 y9_6 x10 x11 x12 y13_6 y14_6 x15 x16 x17 x18 x19 x20 f0 f1 f2 f3 f4 f5 f6 f7 f8 f9 f10 f11 f12 f13 f14 f15 f16 f17 f18 f19 f20 f21 f22 f23 f24) H := hP
    have hD : va_D A (mX mm q jn cI x0 x1 x2 x3 x4 y5_6 y6_6 y7_6 y8_6 y9_6 x10 x11 x12 y13_6 y14_6 x15 x16 x17 x18 x19 x20 f0 f1 f2 f3 f4 f5 f6 f7 f8 f9 f10 f11 f12 f13 f14 f15 f16 f17 f18 f19 f20 f21 f22 f23 f24) := hD
    obtain ⟨ha_6, hT_6, hg_6, hc_6, h7_6, hF_6⟩ : (x5.toInt ≤ y5_6.toInt ∧ y5_6.toInt ≤ x2.toInt) ∧ (TokOK y7_6 y8_6) ∧ (r_6.toInt = 0 → x5.toInt < y5_6.toInt ∨ y7_6.toInt = 0) ∧ (r_6.toInt = 0 → CellX jn y13_6) ∧ (r_6.toInt = 0 → x7.toInt = 1) ∧ ((r_6.toInt = 0 ∧ ThOk ks vs (i) ∧ y13_6.toInt = 4 * vs (i) ∧ CU P ks vs (thN ks (i)) y5_6 y7_6 y8_6) ∨ (r_6.toInt ≠ 0 ∧ ¬ ThOk ks vs (i))) := hw
    refine lv_istore (lv' := [(4, .int r_6), (3, .int z_5), (2, .int 0), (0, .ref mm), (1, .int j)]) hx hb dX11_hands_40 hl (by decide) rfl (fun ls hl => ?_)
    refine lv_iload hx hb dX11_hands_42 (lv_at hl 0 rfl) ?_
    refine a_if_eq (u := r_6.toInt) (tgt := 50) hx hb dX11_hands_44 (by decide) (rfl) (fun c_7 => ?_) (fun c_7 => ?_)
    · have hcA := hc_6 (by omega)
      rcases hF_6 with ⟨_, ht_6, hv_6, hcw_6⟩ | ⟨q9, _⟩
      rotate_left
      · exact absurd (by omega) q9
      have hcx_6 := hcw_6
      obtain ⟨u1_6, u2_6, u3_6⟩ := hcx_6
      refine lv_aload_n hx hb dX11_hands_50 rfl (lv_at hl 3 rfl) ?_
      refine va_get (D := D) (ci := 11) (v := .ref (q 3)) (C := RX11) (T := TX11) (N := 47) hx hb hts (by decide +kernel) hown hK.1 hP 0 rfl rfl 14 (by decide) (hts (.fieldLink RX11 27 "JugglingHallModel" "work" "[I") (by decide +kernel)) (fun _ h9 => h9) rfl dX11_hands_51 ?_
      refine lv_iload_n hx hb dX11_hands_54 rfl (lv_at hl 1 rfl) ?_
      refine lv_aload_n hx hb dX11_hands_55 rfl (lv_at hl 3 rfl) ?_
      refine va_get (D := D) (ci := 11) (v := .int y13_6) (C := RX11) (T := TX11) (N := 47) hx hb hts (by decide +kernel) hown hK.1 hP 0 rfl rfl 25 (by decide) (hts (.fieldLink RX11 166 "JugglingHallModel" "made" "I") (by decide +kernel)) (fun _ h9 => h9) rfl dX11_hands_56 ?_
      refine ma_3 (u := ((6 * x10.toInt) + (2 * j.toInt))) hx hb hK hP hD hS dX11_hands_59 (e_5) (by omega) (fun g_8 H locs eg_8 hP hD hS => ?_)
      refine lv_aload_n hx hb dX11_hands_60 rfl (lv_at hl 3 rfl) ?_
      refine va_get (D := D) (ci := 11) (v := .ref (q 3)) (C := RX11) (T := TX11) (N := 47) hx hb hts (by decide +kernel) hown hK.1 hP 0 rfl rfl 14 (by decide) (hts (.fieldLink RX11 27 "JugglingHallModel" "work" "[I") (by decide +kernel)) (fun _ h9 => h9) rfl dX11_hands_61 ?_
      refine lv_iload_n hx hb dX11_hands_64 rfl (lv_at hl 1 rfl) ?_
      refine lv_iconst (v := 1) hx hb dX11_hands_65 (by decide) ?_
      refine a_iadd (u := ((6 * x10.toInt) + (2 * j.toInt))) (v := 1) hx hb dX11_hands_66 (e_5) (by decide) (by omega) (fun z_9 e_9 => ?_)
      refine lv_iconst (v := 0) hx hb dX11_hands_67 (by decide) ?_
      refine ma_3 (u := (((6 * x10.toInt) + (2 * j.toInt)) + 1)) hx hb hK hP hD hS dX11_hands_68 (e_9) (by omega) (fun g_10 H locs eg_10 hP hD hS => ?_)
      have hX : 6 * x10.toInt + 2 * j.toInt = (6 * x10.toInt + 2 * j.toInt) := by omega
      have hB0 : g_10 (6 * x10.toInt + 2 * j.toInt).toNat = y13_6 := by rw [eg_10, un_i (by omega) (by omega) (by omega), eg_8, ← hX, pk_us]
      have hB1 : g_10 ((6 * x10.toInt + 2 * j.toInt) + 1).toNat = 0 := by rw [eg_10, ← hX, pk_us]
      have hBu : ∀ i : Int, 0 ≤ i → i ≠ (6 * x10.toInt + 2 * j.toInt) → i ≠ (6 * x10.toInt + 2 * j.toInt) + 1 → g_10 i.toNat = f3 i.toNat := fun i i0 i1 i2 => by rw [eg_10, un_i i0 (by omega) (by omega), eg_8, un_i i0 (by omega) (by omega)]
      have hz0 : (0 : Int32).toInt = 0 := by decide
      have hCB : CellsX jn g_10 0 (6 * x10.toInt + 6) := cx_set2 (k := 3 * x10.toInt + j.toInt) hC (by omega) (by omega) hBu (by rw [hB0]; exact hcA) (by rw [hB1]; exact cx_0 (by omega) hz0) (by rw [hB1]; intro _; exact hz0)
      refine lv_iload_n hx hb dX11_hands_69 rfl (lv_at hl 2 rfl) ?_
      refine a_if_ne (u := 0) (tgt := 75) hx hb dX11_hands_70 (by decide) (by decide) (fun c_11 => absurd c_11 (by omega)) (fun c_11 => ?_)
      refine lv_iconst (v := 0) hx hb dX11_hands_73 (by decide) ?_
      have hz_12 : (0 : Int32).toInt = 0 := by decide
      exact g_iret ((0 : Int32), y5_6, y6_6, y7_6, y8_6, y9_6, y13_6, y14_6, g_10) hx hb hr hlocks hS rfl (⟨show x5.toInt ≤ y5_6.toInt ∧ y5_6.toInt ≤ x2.toInt from (by first | assumption | omega), show TokOK y7_6 y8_6 from (by first | assumption | omega), show (0 : Int32).toInt = 0 → x5.toInt < y5_6.toInt ∨ y7_6.toInt = 0 from (by first | assumption | omega), show (0 : Int32).toInt = 0 → CellsX jn g_10 0 (6 * x10.toInt + 6) from (fun _ => hCB), show (0 : Int32).toInt = 0 → x7.toInt ≠ 0 from (by first | assumption | omega), show (0 : Int32).toInt = 0 → ∀ i : Int, 0 ≤ i → i ≠ 6 * x10.toInt + 2 * j.toInt → i ≠ 6 * x10.toInt + 2 * j.toInt + 1 → g_10 i.toNat = f3 i.toNat from (fun _ => hBu), show Hd (((0 : Int32).toInt = 0 ∧ ∃ (a9 b9 : Int) (j9 : Nat), BtR ks vs i a9 b9 j9 ∧ CU P ks vs j9 y5_6 y7_6 y8_6 ∧ (g_10 (6 * x10.toInt + 2 * j.toInt).toNat).toInt = 4 * a9 ∧ (g_10 ((6 * x10.toInt + 2 * j.toInt) + 1).toNat).toInt = 4 * b9) ∨ ((0 : Int32).toInt ≠ 0 ∧ BtF ks vs i)) from (Or.inl ⟨by omega, vs i, 0, thN ks i, Or.inl ⟨by omega, ht_6, rfl, rfl, rfl⟩, hcw_6, by rw [hB0]; omega, by rw [hB1]; decide⟩)⟩) hP hD hQ (Nat.le_of_ble_eq_true rfl) (Nat.le_of_ble_eq_true rfl) dX11_hands_74
    · refine lv_iload hx hb dX11_hands_47 (lv_at hl 0 rfl) ?_
      exact g_iret (r_6, y5_6, y6_6, y7_6, y8_6, y9_6, y13_6, y14_6, f3) hx hb hr hlocks hS rfl (⟨show x5.toInt ≤ y5_6.toInt ∧ y5_6.toInt ≤ x2.toInt from (by first | assumption | omega), show TokOK y7_6 y8_6 from (by first | assumption | omega), show r_6.toInt = 0 → x5.toInt < y5_6.toInt ∨ y7_6.toInt = 0 from (by first | assumption | omega), show r_6.toInt = 0 → CellsX jn f3 0 (6 * x10.toInt + 6) from (fun q => absurd q (by omega)), show r_6.toInt = 0 → x7.toInt ≠ 0 from (by first | assumption | omega), show r_6.toInt = 0 → ∀ i : Int, 0 ≤ i → i ≠ 6 * x10.toInt + 2 * j.toInt → i ≠ 6 * x10.toInt + 2 * j.toInt + 1 → f3 i.toNat = f3 i.toNat from (fun q => absurd q (by omega)), show Hd ((r_6.toInt = 0 ∧ ∃ (a9 b9 : Int) (j9 : Nat), BtR ks vs i a9 b9 j9 ∧ CU P ks vs j9 y5_6 y7_6 y8_6 ∧ (f3 (6 * x10.toInt + 2 * j.toInt).toNat).toInt = 4 * a9 ∧ (f3 ((6 * x10.toInt + 2 * j.toInt) + 1).toNat).toInt = 4 * b9) ∨ (r_6.toInt ≠ 0 ∧ BtF ks vs i)) from (Or.inr ⟨by omega, Or.inl ⟨by omega, or_F hF_6 (by omega)⟩⟩)⟩) hP hD hQ (Nat.le_of_ble_eq_true rfl) (Nat.le_of_ble_eq_true rfl) dX11_hands_49
  · refine lv_iconst (v := 1) hx hb dX11_hands_9 (by decide) ?_
    refine lv_goto (tgt := 14) hx hb dX11_hands_10 (by decide) ?_
    refine lv_istore_n (lv' := [(2, .int 1), (0, .ref mm), (1, .int j)]) hx hb dX11_hands_14 rfl hl (by decide) rfl (fun ls hl => ?_)
    refine lv_iload_n hx hb dX11_hands_15 rfl (lv_at hl 0 rfl) ?_
    refine a_if_eq (u := 1) (tgt := 23) hx hb dX11_hands_16 (by decide) (by decide) (fun c_13 => absurd c_13 (by omega)) (fun c_13 => ?_)
    refine lv_aload_n hx hb dX11_hands_19 rfl (lv_at hl 1 rfl) ?_
    refine call_g (wr := []) (va_runV (As := []) (rest := []) ⟨hx, hb, hml, hown, hts⟩ (k_next2 l D cI cR cM _  (by first | assumption | omega) (by first | assumption | omega)) (cwV 0 hts gX11_hands_X11_nextToken rfl rfl rfl (by decide +kernel) ⟨Nat.le_of_ble_eq_true rfl, Nat.le_of_ble_eq_true rfl⟩) (pre_V hK hP hD 0 11 rfl rfl) rfl rfl hl.1 rfl (lv_room (Nat.le_of_ble_eq_true rfl)) dX11_hands_20 ⟨Nat.le_of_ble_eq_true rfl, Nat.le_of_ble_eq_true rfl⟩) hP hD hS hA [0, 1, 2, 3, 4, 5, 6, 7, 8, 9, 10, 11, 12, 13, 14, 15, 16, 17, 18, 19, 20, 21, 22, 23, 24, 25] [] (by with_unfolding_all rfl) rfl (by decide) (by decide) (fun u_14 H locs hw hP hD hS => ?_)
    obtain ⟨y5_14, y6_14, y7_14, y8_14⟩ := u_14
    have hP : va_P D vwCl (mX mm q jn cI x0 x1 x2 x3 x4 y5_14 y6_14 y7_14 y8_14 x9 x10 x11 x12 x13 x14 x15 x16 x17 x18 x19 x20 f0 f1 f2 f3 f4 f5 f6 f7 f8 f9 f10 f11 f12 f13 f14 f15 f16 f17 f18 f19 f20 f21 f22 f23 f24) H := hP
    have hD : va_D A (mX mm q jn cI x0 x1 x2 x3 x4 y5_14 y6_14 y7_14 y8_14 x9 x10 x11 x12 x13 x14 x15 x16 x17 x18 x19 x20 f0 f1 f2 f3 f4 f5 f6 f7 f8 f9 f10 f11 f12 f13 f14 f15 f16 f17 f18 f19 f20 f21 f22 f23 f24) := hD
    obtain ⟨ha_14, hp_14, hk_14, hT_14, hR_14⟩ : (x5.toInt ≤ y5_14.toInt ∧ y5_14.toInt ≤ x2.toInt) ∧ (0 ≤ y6_14.toInt ∧ y6_14.toInt ≤ 300) ∧ (y7_14.toInt = 0 ∨ x5.toInt < y5_14.toInt) ∧ (TokOK y7_14 y8_14) ∧ (∃ v9 : Int, TkR (sE f2 x2.toInt) x5.toInt y7_14.toInt v9 y6_14.toInt y5_14.toInt ∧ (y7_14.toInt = 1 ∨ y7_14.toInt = 2 → y8_14.toInt = v9)) := hw
    obtain ⟨v9_14, q1_14, q2_14⟩ := hR_14
    have hcu_14 : CU P ks vs (i + 1) y5_14 y7_14 y8_14 := CU_n hSM hCU.1 q1_14 q2_14
    have hcv_14 := hcu_14
    obtain ⟨u1_14, u2_14, u3_14⟩ := hcv_14
    refine lv_bipush (v := 6) hx hb dX11_hands_23 (by decide) ?_
    refine lv_aload_n hx hb dX11_hands_25 rfl (lv_at hl 1 rfl) ?_
    refine va_get (D := D) (ci := 11) (v := .int x10) (C := RX11) (T := TX11) (N := 47) hx hb hts (by decide +kernel) hown hK.1 hP 0 rfl rfl 19 (by decide) (hts (.fieldLink RX11 151 "JugglingHallModel" "top" "I") (by decide +kernel)) (fun _ h9 => h9) rfl dX11_hands_26 ?_
    refine a_imul (u := 6) (v := x10.toInt) hx hb dX11_hands_29 (by decide) (rfl) (by omega) (fun z_15 e_15 => ?_)
    refine lv_iconst (v := 2) hx hb dX11_hands_30 (by decide) ?_
    refine lv_iload_n hx hb dX11_hands_31 rfl (lv_at hl 2 rfl) ?_
    refine a_imul (u := 2) (v := j.toInt) hx hb dX11_hands_32 (by decide) (rfl) (by omega) (fun z_16 e_16 => ?_)
    refine a_iadd (u := (6 * x10.toInt)) (v := (2 * j.toInt)) hx hb dX11_hands_33 (e_15) (e_16) (by omega) (fun z_17 e_17 => ?_)
    refine lv_istore_n (lv' := [(3, .int z_17), (2, .int 1), (0, .ref mm), (1, .int j)]) hx hb dX11_hands_34 rfl hl (by decide) rfl (fun ls hl => ?_)
    refine lv_aload_n hx hb dX11_hands_35 rfl (lv_at hl 2 rfl) ?_
    refine lv_iload_n hx hb dX11_hands_36 rfl (lv_at hl 3 rfl) ?_
    refine call_g (wr := []) (va_runV (As := [.int j]) (rest := []) ⟨hx, hb, hml, hown, hts⟩ (k_oneThrow3 l D cI cR cM _ (P := P) (ks := ks) (vs := vs) (i := i + 1) (by first | assumption | omega) (by first | assumption | omega) (by first | assumption | omega) (by first | assumption | omega) (by first | assumption | omega) (by first | assumption | omega) (by first | assumption | omega) (hcu_14)) (cwV 1 hts gX11_hands_X11_oneThrow rfl rfl rfl (by decide +kernel) ⟨Nat.le_of_ble_eq_true rfl, Nat.le_of_ble_eq_true rfl⟩) (pre_V hK hP hD 0 11 rfl rfl) rfl rfl hl.1 rfl (lv_room (Nat.le_of_ble_eq_true rfl)) dX11_hands_37 ⟨Nat.le_of_ble_eq_true rfl, Nat.le_of_ble_eq_true rfl⟩) hP hD hS hA [0, 1, 2, 3, 4, 5, 6, 7, 8, 9, 10, 11, 12, 13, 14, 15, 16, 17, 18, 19, 20, 21, 22, 23, 24, 25] [] (by with_unfolding_all rfl) rfl (by decide) (by decide) (fun u_18 H locs hw hP hD hS => ?_)
    obtain ⟨r_18, y5_18, y6_18, y7_18, y8_18, y9_18, y13_18, y14_18⟩ := u_18
    have hP : va_P D vwCl (mX mm q jn cI x0 x1 x2 x3 x4 y5_18 y6_18 y7_18 y8_18 y9_18 x10 x11 x12 y13_18 y14_18 x15 x16 x17 x18 x19 x20 f0 f1 f2 f3 f4 f5 f6 f7 f8 f9 f10 f11 f12 f13 f14 f15 f16 f17 f18 f19 f20 f21 f22 f23 f24) H := hP
    have hD : va_D A (mX mm q jn cI x0 x1 x2 x3 x4 y5_18 y6_18 y7_18 y8_18 y9_18 x10 x11 x12 y13_18 y14_18 x15 x16 x17 x18 x19 x20 f0 f1 f2 f3 f4 f5 f6 f7 f8 f9 f10 f11 f12 f13 f14 f15 f16 f17 f18 f19 f20 f21 f22 f23 f24) := hD
    obtain ⟨ha_18, hT_18, hg_18, hc_18, h7_18, hF_18⟩ : (y5_14.toInt ≤ y5_18.toInt ∧ y5_18.toInt ≤ x2.toInt) ∧ (TokOK y7_18 y8_18) ∧ (r_18.toInt = 0 → y5_14.toInt < y5_18.toInt ∨ y7_18.toInt = 0) ∧ (r_18.toInt = 0 → CellX jn y13_18) ∧ (r_18.toInt = 0 → y7_14.toInt = 1) ∧ ((r_18.toInt = 0 ∧ ThOk ks vs (i + 1) ∧ y13_18.toInt = 4 * vs (i + 1) ∧ CU P ks vs (thN ks (i + 1)) y5_18 y7_18 y8_18) ∨ (r_18.toInt ≠ 0 ∧ ¬ ThOk ks vs (i + 1))) := hw
    refine lv_istore (lv' := [(4, .int r_18), (3, .int z_17), (2, .int 1), (0, .ref mm), (1, .int j)]) hx hb dX11_hands_40 hl (by decide) rfl (fun ls hl => ?_)
    refine lv_iload hx hb dX11_hands_42 (lv_at hl 0 rfl) ?_
    refine a_if_eq (u := r_18.toInt) (tgt := 50) hx hb dX11_hands_44 (by decide) (rfl) (fun c_19 => ?_) (fun c_19 => ?_)
    · have hcA := hc_18 (by omega)
      rcases hF_18 with ⟨_, ht_18, hv_18, hcw_18⟩ | ⟨q9, _⟩
      rotate_left
      · exact absurd (by omega) q9
      have hcx_18 := hcw_18
      obtain ⟨u1_18, u2_18, u3_18⟩ := hcx_18
      refine lv_aload_n hx hb dX11_hands_50 rfl (lv_at hl 3 rfl) ?_
      refine va_get (D := D) (ci := 11) (v := .ref (q 3)) (C := RX11) (T := TX11) (N := 47) hx hb hts (by decide +kernel) hown hK.1 hP 0 rfl rfl 14 (by decide) (hts (.fieldLink RX11 27 "JugglingHallModel" "work" "[I") (by decide +kernel)) (fun _ h9 => h9) rfl dX11_hands_51 ?_
      refine lv_iload_n hx hb dX11_hands_54 rfl (lv_at hl 1 rfl) ?_
      refine lv_aload_n hx hb dX11_hands_55 rfl (lv_at hl 3 rfl) ?_
      refine va_get (D := D) (ci := 11) (v := .int y13_18) (C := RX11) (T := TX11) (N := 47) hx hb hts (by decide +kernel) hown hK.1 hP 0 rfl rfl 25 (by decide) (hts (.fieldLink RX11 166 "JugglingHallModel" "made" "I") (by decide +kernel)) (fun _ h9 => h9) rfl dX11_hands_56 ?_
      refine ma_3 (u := ((6 * x10.toInt) + (2 * j.toInt))) hx hb hK hP hD hS dX11_hands_59 (e_17) (by omega) (fun g_20 H locs eg_20 hP hD hS => ?_)
      refine lv_aload_n hx hb dX11_hands_60 rfl (lv_at hl 3 rfl) ?_
      refine va_get (D := D) (ci := 11) (v := .ref (q 3)) (C := RX11) (T := TX11) (N := 47) hx hb hts (by decide +kernel) hown hK.1 hP 0 rfl rfl 14 (by decide) (hts (.fieldLink RX11 27 "JugglingHallModel" "work" "[I") (by decide +kernel)) (fun _ h9 => h9) rfl dX11_hands_61 ?_
      refine lv_iload_n hx hb dX11_hands_64 rfl (lv_at hl 1 rfl) ?_
      refine lv_iconst (v := 1) hx hb dX11_hands_65 (by decide) ?_
      refine a_iadd (u := ((6 * x10.toInt) + (2 * j.toInt))) (v := 1) hx hb dX11_hands_66 (e_17) (by decide) (by omega) (fun z_21 e_21 => ?_)
      refine lv_iconst (v := 0) hx hb dX11_hands_67 (by decide) ?_
      refine ma_3 (u := (((6 * x10.toInt) + (2 * j.toInt)) + 1)) hx hb hK hP hD hS dX11_hands_68 (e_21) (by omega) (fun g_22 H locs eg_22 hP hD hS => ?_)
      have hX : 6 * x10.toInt + 2 * j.toInt = (6 * x10.toInt + 2 * j.toInt) := by omega
      have hB0 : g_22 (6 * x10.toInt + 2 * j.toInt).toNat = y13_18 := by rw [eg_22, un_i (by omega) (by omega) (by omega), eg_20, ← hX, pk_us]
      have hB1 : g_22 ((6 * x10.toInt + 2 * j.toInt) + 1).toNat = 0 := by rw [eg_22, ← hX, pk_us]
      have hBu : ∀ i : Int, 0 ≤ i → i ≠ (6 * x10.toInt + 2 * j.toInt) → i ≠ (6 * x10.toInt + 2 * j.toInt) + 1 → g_22 i.toNat = f3 i.toNat := fun i i0 i1 i2 => by rw [eg_22, un_i i0 (by omega) (by omega), eg_20, un_i i0 (by omega) (by omega)]
      have hz0 : (0 : Int32).toInt = 0 := by decide
      have hCB : CellsX jn g_22 0 (6 * x10.toInt + 6) := cx_set2 (k := 3 * x10.toInt + j.toInt) hC (by omega) (by omega) hBu (by rw [hB0]; exact hcA) (by rw [hB1]; exact cx_0 (by omega) hz0) (by rw [hB1]; intro _; exact hz0)
      refine lv_iload_n hx hb dX11_hands_69 rfl (lv_at hl 2 rfl) ?_
      refine a_if_ne (u := 1) (tgt := 75) hx hb dX11_hands_70 (by decide) (by decide) (fun c_23 => ?_) (fun c_23 => absurd c_23 (by omega))
      refine lv_aload_n hx hb dX11_hands_75 rfl (lv_at hl 3 rfl) ?_
      refine lv_iload_n hx hb dX11_hands_76 rfl (lv_at hl 4 rfl) ?_
      refine call_g (wr := []) (va_runV (As := [.int j]) (rest := []) ⟨hx, hb, hml, hown, hts⟩ (k_oneThrow3 l D cI cR cM _ (P := P) (ks := ks) (vs := vs) (i := thN ks (i + 1)) (by first | assumption | omega) (by first | assumption | omega) (by first | assumption | omega) (by first | assumption | omega) (by first | assumption | omega) (by first | assumption | omega) (by first | assumption | omega) (hcw_18)) (cwV 1 hts gX11_hands_X11_oneThrow rfl rfl rfl (by decide +kernel) ⟨Nat.le_of_ble_eq_true rfl, Nat.le_of_ble_eq_true rfl⟩) (pre_V hK hP hD 0 11 rfl rfl) rfl rfl hl.1 rfl (lv_room (Nat.le_of_ble_eq_true rfl)) dX11_hands_77 ⟨Nat.le_of_ble_eq_true rfl, Nat.le_of_ble_eq_true rfl⟩) hP hD hS hA [0, 1, 2, 3, 4, 5, 6, 7, 8, 9, 10, 11, 12, 13, 14, 15, 16, 17, 18, 19, 20, 21, 22, 23, 24, 25] [] (by with_unfolding_all rfl) rfl (by decide) (by decide) (fun u_24 H locs hw hP hD hS => ?_)
      obtain ⟨r_24, y5_24, y6_24, y7_24, y8_24, y9_24, y13_24, y14_24⟩ := u_24
      have hP : va_P D vwCl (mX mm q jn cI x0 x1 x2 x3 x4 y5_24 y6_24 y7_24 y8_24 y9_24 x10 x11 x12 y13_24 y14_24 x15 x16 x17 x18 x19 x20 f0 f1 f2 g_22 f4 f5 f6 f7 f8 f9 f10 f11 f12 f13 f14 f15 f16 f17 f18 f19 f20 f21 f22 f23 f24) H := hP
      have hD : va_D A (mX mm q jn cI x0 x1 x2 x3 x4 y5_24 y6_24 y7_24 y8_24 y9_24 x10 x11 x12 y13_24 y14_24 x15 x16 x17 x18 x19 x20 f0 f1 f2 g_22 f4 f5 f6 f7 f8 f9 f10 f11 f12 f13 f14 f15 f16 f17 f18 f19 f20 f21 f22 f23 f24) := hD
      obtain ⟨ha_24, hT_24, hg_24, hc_24, h7_24, hF_24⟩ : (y5_18.toInt ≤ y5_24.toInt ∧ y5_24.toInt ≤ x2.toInt) ∧ (TokOK y7_24 y8_24) ∧ (r_24.toInt = 0 → y5_18.toInt < y5_24.toInt ∨ y7_24.toInt = 0) ∧ (r_24.toInt = 0 → CellX jn y13_24) ∧ (r_24.toInt = 0 → y7_18.toInt = 1) ∧ ((r_24.toInt = 0 ∧ ThOk ks vs (thN ks (i + 1)) ∧ y13_24.toInt = 4 * vs (thN ks (i + 1)) ∧ CU P ks vs (thN ks (thN ks (i + 1))) y5_24 y7_24 y8_24) ∨ (r_24.toInt ≠ 0 ∧ ¬ ThOk ks vs (thN ks (i + 1)))) := hw
      refine lv_istore (lv' := [(4, .int r_24), (3, .int z_17), (2, .int 1), (0, .ref mm), (1, .int j)]) hx hb dX11_hands_80 hl (by decide) rfl (fun ls hl => ?_)
      refine lv_iload hx hb dX11_hands_82 (lv_at hl 0 rfl) ?_
      refine a_if_eq (u := r_24.toInt) (tgt := 90) hx hb dX11_hands_84 (by decide) (rfl) (fun c_25 => ?_) (fun c_25 => ?_)
      · have hcB := hc_24 (by omega)
        rcases hF_24 with ⟨_, ht_24, hv_24, hcw_24⟩ | ⟨q9, _⟩
        rotate_left
        · exact absurd (by omega) q9
        have hcx_24 := hcw_24
        obtain ⟨u1_24, u2_24, u3_24⟩ := hcx_24
        refine lv_aload_n hx hb dX11_hands_90 rfl (lv_at hl 3 rfl) ?_
        refine va_get (D := D) (ci := 11) (v := .ref (q 3)) (C := RX11) (T := TX11) (N := 47) hx hb hts (by decide +kernel) hown hK.1 hP 0 rfl rfl 14 (by decide) (hts (.fieldLink RX11 27 "JugglingHallModel" "work" "[I") (by decide +kernel)) (fun _ h9 => h9) rfl dX11_hands_91 ?_
        refine lv_iload_n hx hb dX11_hands_94 rfl (lv_at hl 1 rfl) ?_
        refine lv_iconst (v := 1) hx hb dX11_hands_95 (by decide) ?_
        refine a_iadd (u := ((6 * x10.toInt) + (2 * j.toInt))) (v := 1) hx hb dX11_hands_96 (e_17) (by decide) (by omega) (fun z_26 e_26 => ?_)
        refine lv_aload_n hx hb dX11_hands_97 rfl (lv_at hl 3 rfl) ?_
        refine va_get (D := D) (ci := 11) (v := .int y13_24) (C := RX11) (T := TX11) (N := 47) hx hb hts (by decide +kernel) hown hK.1 hP 0 rfl rfl 25 (by decide) (hts (.fieldLink RX11 166 "JugglingHallModel" "made" "I") (by decide +kernel)) (fun _ h9 => h9) rfl dX11_hands_98 ?_
        refine ma_3 (u := (((6 * x10.toInt) + (2 * j.toInt)) + 1)) hx hb hK hP hD hS dX11_hands_101 (e_26) (by omega) (fun g_27 H locs eg_27 hP hD hS => ?_)
        have hC0 : g_27 (6 * x10.toInt + 2 * j.toInt).toNat = g_22 (6 * x10.toInt + 2 * j.toInt).toNat := by rw [eg_27, un_i (by omega) (by omega) (by omega)]
        have hC1 : g_27 ((6 * x10.toInt + 2 * j.toInt) + 1).toNat = y13_24 := by rw [eg_27, ← hX, pk_us]
        have hCu : ∀ i : Int, 0 ≤ i → i ≠ (6 * x10.toInt + 2 * j.toInt) → i ≠ (6 * x10.toInt + 2 * j.toInt) + 1 → g_27 i.toNat = f3 i.toNat := fun i i0 i1 i2 => by rw [eg_27, un_i i0 (by omega) (by omega)]; exact hBu i i0 i1 i2
        refine lv_aload_n hx hb dX11_hands_102 rfl (lv_at hl 3 rfl) ?_
        refine va_get (D := D) (ci := 11) (v := .ref (q 3)) (C := RX11) (T := TX11) (N := 47) hx hb hts (by decide +kernel) hown hK.1 hP 0 rfl rfl 14 (by decide) (hts (.fieldLink RX11 27 "JugglingHallModel" "work" "[I") (by decide +kernel)) (fun _ h9 => h9) rfl dX11_hands_103 ?_
        refine lv_iload_n hx hb dX11_hands_106 rfl (lv_at hl 1 rfl) ?_
        have hxe0 : z_17.toInt = (6 * x10.toInt + 2 * j.toInt) := by omega
        have hPc := hP.sub (ws' := [(q 3, .inl (cI, 2400, .inl g_27))]) [4] (by with_unfolding_all rfl)
        have hDc := hD.sub (ws' := [(q 3, .inl (cI, 2400, .inl g_27))]) [4] (by decide) (by with_unfolding_all rfl)
        refine call_g (wr := [(mm, .inr (11, mXF q jn x0 x1 x2 x3 x4 y5_24 y6_24 y7_24 y8_24 y9_24 x10 x11 x12 y13_24 y14_24 x15 x16 x17 x18 x19 x20)), (q 0, .inl (cI, 73200, .inl f0)), (q 1, .inl (cI, 488, .inl f1)), (q 2, .inl (cI, 300, .inl f2)), (q 4, .inl (cI, 6, .inl f4)), (q 5, .inl (cI, 6, .inl f5)), (q 6, .inl (cI, 7, .inl f6)), (q 7, .inl (cI, 144, .inl f7)), (q 8, .inl (cI, 8, .inl f8)), (q 9, .inl (cI, 1152, .inl f9)), (q 10, .inl (cI, 8, .inl f10)), (q 11, .inl (cI, 8, .inl f11)), (q 12, .inl (cI, 72, .inl f12)), (q 13, .inl (cI, 144, .inl f13)), (q 14, .inl (cI, 144, .inl f14)), (q 15, .inl (cI, 144, .inl f15)), (q 16, .inl (cI, 6, .inl f16)), (q 17, .inl (cI, 512, .inl f17)), (q 18, .inl (cI, 512, .inl f18)), (q 19, .inl (cI, 11, .inl f19)), (q 20, .inl (cI, 11, .inl f20)), (q 21, .inl (cI, 300, .inl f21)), (q 22, .inl (cI, 300, .inl f22)), (q 23, .inl (cI, 8, .inl f23)), (q 24, .inl (cI, 8, .inl f24))]) (va_runS (As := [.ref (q 3), .int z_17]) (rest := []) ⟨hx, hb, hml, hown, hts⟩ (k_order2 l D cI cR cM _  (by first | assumption | omega) (by rw [hxe0, hC0, hB0]; exact ⟨hcA.1, hcA.2.2.2⟩) (by rw [hxe0, hC1]; exact ⟨hcB.1, hcB.2.2.2⟩) (by decide)) (va_cwS 2 hts gX11_hands_X11_order rfl rfl rfl (by decide +kernel) ⟨Nat.le_of_ble_eq_true rfl, Nat.le_of_ble_eq_true rfl⟩) (pre_S hK hPc hDc) rfl rfl hl.1 rfl (lv_room (Nat.le_of_ble_eq_true rfl)) dX11_hands_107 ⟨Nat.le_of_ble_eq_true rfl, Nat.le_of_ble_eq_true rfl⟩) hP hD hS hA [4] [0, 1, 2, 3, 5, 6, 7, 8, 9, 10, 11, 12, 13, 14, 15, 16, 17, 18, 19, 20, 21, 22, 23, 24, 25] (by with_unfolding_all rfl) (by with_unfolding_all rfl) (by decide) (by decide) (fun g_28 H locs hw hP hD hS => ?_)
        have hP : va_P D vwCl (mX mm q jn cI x0 x1 x2 x3 x4 y5_24 y6_24 y7_24 y8_24 y9_24 x10 x11 x12 y13_24 y14_24 x15 x16 x17 x18 x19 x20 f0 f1 f2 g_28 f4 f5 f6 f7 f8 f9 f10 f11 f12 f13 f14 f15 f16 f17 f18 f19 f20 f21 f22 f23 f24) H := hP.sub [0, 1, 2, 3, 25, 4, 5, 6, 7, 8, 9, 10, 11, 12, 13, 14, 15, 16, 17, 18, 19, 20, 21, 22, 23, 24] (by with_unfolding_all rfl)
        have hD : va_D A (mX mm q jn cI x0 x1 x2 x3 x4 y5_24 y6_24 y7_24 y8_24 y9_24 x10 x11 x12 y13_24 y14_24 x15 x16 x17 x18 x19 x20 f0 f1 f2 g_28 f4 f5 f6 f7 f8 f9 f10 f11 f12 f13 f14 f15 f16 f17 f18 f19 f20 f21 f22 f23 f24) := hD.sub [0, 1, 2, 3, 25, 4, 5, 6, 7, 8, 9, 10, 11, 12, 13, 14, 15, 16, 17, 18, 19, 20, 21, 22, 23, 24] (by decide) (by with_unfolding_all rfl)
        obtain ⟨hu_28, hs_28, hz_28, hw_28⟩ : (∀ i : Int, 0 ≤ i → i ≠ z_17.toInt → i ≠ z_17.toInt + 1 → g_28 i.toNat = g_27 i.toNat) ∧ ((g_28 z_17.toInt.toNat = g_27 z_17.toInt.toNat ∧ g_28 (z_17.toInt + 1).toNat = g_27 (z_17.toInt + 1).toNat) ∨ (g_28 z_17.toInt.toNat = g_27 (z_17.toInt + 1).toNat ∧ g_28 (z_17.toInt + 1).toNat = g_27 z_17.toInt.toNat)) ∧ ((g_28 z_17.toInt.toNat).toInt = 0 → (g_28 (z_17.toInt + 1).toNat).toInt = 0) ∧ ((¬ ((g_27 (z_17.toInt + 1).toNat).toInt / 4 > (g_27 z_17.toInt.toNat).toInt / 4 ∨ ((g_27 (z_17.toInt + 1).toNat).toInt / 4 = (g_27 z_17.toInt.toNat).toInt / 4 ∧ (g_27 (z_17.toInt + 1).toNat).toInt % 4 < (g_27 z_17.toInt.toNat).toInt % 4)) ∧ g_28 z_17.toInt.toNat = g_27 z_17.toInt.toNat ∧ g_28 (z_17.toInt + 1).toNat = g_27 (z_17.toInt + 1).toNat) ∨ (((g_27 (z_17.toInt + 1).toNat).toInt / 4 > (g_27 z_17.toInt.toNat).toInt / 4 ∨ ((g_27 (z_17.toInt + 1).toNat).toInt / 4 = (g_27 z_17.toInt.toNat).toInt / 4 ∧ (g_27 (z_17.toInt + 1).toNat).toInt % 4 < (g_27 z_17.toInt.toNat).toInt % 4)) ∧ g_28 z_17.toInt.toNat = g_27 (z_17.toInt + 1).toNat ∧ g_28 (z_17.toInt + 1).toNat = g_27 z_17.toInt.toNat)) := hw
        have hxe : z_17.toInt = (6 * x10.toInt + 2 * j.toInt) := by omega
        rw [hxe] at hu_28 hs_28 hz_28
        have hp1 : CellX jn (g_28 (6 * x10.toInt + 2 * j.toInt).toNat) := by
          rcases hs_28 with q | q
          · rw [q.1, hC0, hB0]; exact hcA
          · rw [q.1, hC1]; exact hcB
        have hp2 : CellX jn (g_28 ((6 * x10.toInt + 2 * j.toInt) + 1).toNat) := by
          rcases hs_28 with q | q
          · rw [q.2, hC1]; exact hcB
          · rw [q.2, hC0, hB0]; exact hcA
        have hCC : CellsX jn g_28 0 (6 * x10.toInt + 6) := cx_set2 (k := 3 * x10.toInt + j.toInt) hC (by omega) (by omega) (fun i i0 i1 i2 => by rw [hu_28 i i0 i1 i2]; exact hCu i i0 i1 i2) hp1 hp2 hz_28
        rw [hxe, hC0, hB0, hC1] at hw_28
        refine lv_aload_n hx hb dX11_hands_110 rfl (lv_at hl 3 rfl) ?_
        refine va_get (D := D) (ci := 11) (v := .int y7_24) (C := RX11) (T := TX11) (N := 47) hx hb hts (by decide +kernel) hown hK.1 hP 0 rfl rfl 11 (by decide) (hts (.fieldLink RX11 131 "JugglingHallModel" "token" "I") (by decide +kernel)) (fun _ h9 => h9) rfl dX11_hands_111 ?_
        refine lv_bipush (v := 93) hx hb dX11_hands_114 (by decide) ?_
        refine a_icmp_eq (u := y7_24.toInt) (v := 93) (tgt := 129) hx hb dX11_hands_116 (by decide) (rfl) (by decide) (fun c_29 => ?_) (fun c_29 => ?_)
        · refine lv_aload_n hx hb dX11_hands_129 rfl (lv_at hl 3 rfl) ?_
          refine lv_aload_n hx hb dX11_hands_130 rfl (lv_at hl 3 rfl) ?_
          refine va_get (D := D) (ci := 11) (v := .int y6_24) (C := RX11) (T := TX11) (N := 47) hx hb hts (by decide +kernel) hown hK.1 hP 0 rfl rfl 10 (by decide) (hts (.fieldLink RX11 120 "JugglingHallModel" "place" "I") (by decide +kernel)) (fun _ h9 => h9) rfl dX11_hands_131 ?_
          refine mp_14 hx hb hts (by decide +kernel) hown hK hP hD hS (hts (.fieldLink RX11 160 "JugglingHallModel" "lastPlace" "I") (by decide +kernel)) dX11_hands_134 (fun H locs hP hD hS => ?_)
          refine lv_aload_n hx hb dX11_hands_137 rfl (lv_at hl 3 rfl) ?_
          refine call_g (wr := []) (va_runV (As := []) (rest := []) ⟨hx, hb, hml, hown, hts⟩ (k_next2 l D cI cR cM _  (by first | assumption | omega) (by first | assumption | omega)) (cwV 0 hts gX11_hands_X11_nextToken rfl rfl rfl (by decide +kernel) ⟨Nat.le_of_ble_eq_true rfl, Nat.le_of_ble_eq_true rfl⟩) (pre_V hK hP hD 0 11 rfl rfl) rfl rfl hl.1 rfl (lv_room (Nat.le_of_ble_eq_true rfl)) dX11_hands_138 ⟨Nat.le_of_ble_eq_true rfl, Nat.le_of_ble_eq_true rfl⟩) hP hD hS hA [0, 1, 2, 3, 4, 5, 6, 7, 8, 9, 10, 11, 12, 13, 14, 15, 16, 17, 18, 19, 20, 21, 22, 23, 24, 25] [] (by with_unfolding_all rfl) rfl (by decide) (by decide) (fun u_30 H locs hw hP hD hS => ?_)
          obtain ⟨y5_30, y6_30, y7_30, y8_30⟩ := u_30
          have hP : va_P D vwCl (mX mm q jn cI x0 x1 x2 x3 x4 y5_30 y6_30 y7_30 y8_30 y9_24 x10 x11 x12 y13_24 y6_24 x15 x16 x17 x18 x19 x20 f0 f1 f2 g_28 f4 f5 f6 f7 f8 f9 f10 f11 f12 f13 f14 f15 f16 f17 f18 f19 f20 f21 f22 f23 f24) H := hP
          have hD : va_D A (mX mm q jn cI x0 x1 x2 x3 x4 y5_30 y6_30 y7_30 y8_30 y9_24 x10 x11 x12 y13_24 y6_24 x15 x16 x17 x18 x19 x20 f0 f1 f2 g_28 f4 f5 f6 f7 f8 f9 f10 f11 f12 f13 f14 f15 f16 f17 f18 f19 f20 f21 f22 f23 f24) := hD
          obtain ⟨ha_30, hp_30, hk_30, hT_30, hR_30⟩ : (y5_24.toInt ≤ y5_30.toInt ∧ y5_30.toInt ≤ x2.toInt) ∧ (0 ≤ y6_30.toInt ∧ y6_30.toInt ≤ 300) ∧ (y7_30.toInt = 0 ∨ y5_24.toInt < y5_30.toInt) ∧ (TokOK y7_30 y8_30) ∧ (∃ v9 : Int, TkR (sE f2 x2.toInt) y5_24.toInt y7_30.toInt v9 y6_30.toInt y5_30.toInt ∧ (y7_30.toInt = 1 ∨ y7_30.toInt = 2 → y8_30.toInt = v9)) := hw
          obtain ⟨v9_30, q1_30, q2_30⟩ := hR_30
          have hcu_30 : CU P ks vs (thN ks (thN ks (i + 1)) + 1) y5_30 y7_30 y8_30 := CU_n hSM hcw_24.1 q1_30 q2_30
          have hcv_30 := hcu_30
          obtain ⟨u1_30, u2_30, u3_30⟩ := hcv_30
          refine lv_iconst (v := 0) hx hb dX11_hands_141 (by decide) ?_
          have hz_31 : (0 : Int32).toInt = 0 := by decide
          exact g_iret ((0 : Int32), y5_30, y6_30, y7_30, y8_30, y9_24, y13_24, y6_24, g_28) hx hb hr hlocks hS rfl (⟨show x5.toInt ≤ y5_30.toInt ∧ y5_30.toInt ≤ x2.toInt from (by first | assumption | omega), show TokOK y7_30 y8_30 from (by first | assumption | omega), show (0 : Int32).toInt = 0 → x5.toInt < y5_30.toInt ∨ y7_30.toInt = 0 from (by first | assumption | omega), show (0 : Int32).toInt = 0 → CellsX jn g_28 0 (6 * x10.toInt + 6) from (fun _ => hCC), show (0 : Int32).toInt = 0 → x7.toInt ≠ 0 from (by first | assumption | omega), show (0 : Int32).toInt = 0 → ∀ i : Int, 0 ≤ i → i ≠ 6 * x10.toInt + 2 * j.toInt → i ≠ 6 * x10.toInt + 2 * j.toInt + 1 → g_28 i.toNat = f3 i.toNat from (fun _ i i0 i1 i2 => by rw [hu_28 i i0 i1 i2]; exact hCu i i0 i1 i2), show Hd (((0 : Int32).toInt = 0 ∧ ∃ (a9 b9 : Int) (j9 : Nat), BtR ks vs i a9 b9 j9 ∧ CU P ks vs j9 y5_30 y7_30 y8_30 ∧ (g_28 (6 * x10.toInt + 2 * j.toInt).toNat).toInt = 4 * a9 ∧ (g_28 ((6 * x10.toInt + 2 * j.toInt) + 1).toNat).toInt = 4 * b9) ∨ ((0 : Int32).toInt ≠ 0 ∧ BtF ks vs i)) from (Or.inl ⟨by omega, by
            rcases hw_28 with ⟨s1, s2, s3⟩ | ⟨s1, s2, s3⟩
            · exact ⟨vs (i + 1), vs (thN ks (i + 1)), _, Or.inr ⟨by omega, ht_18, ht_24, by omega, rfl, Or.inl ⟨by omega, rfl, rfl⟩⟩, hcu_30, by rw [s2]; omega, by rw [s3]; omega⟩
            · exact ⟨vs (thN ks (i + 1)), vs (i + 1), _, Or.inr ⟨by omega, ht_18, ht_24, by omega, rfl, Or.inr ⟨by omega, rfl, rfl⟩⟩, hcu_30, by rw [s2]; omega, by rw [s3]; omega⟩⟩)⟩) hP hD hQ (Nat.le_of_ble_eq_true rfl) (Nat.le_of_ble_eq_true rfl) dX11_hands_142
        · refine lv_aload_n hx hb dX11_hands_119 rfl (lv_at hl 3 rfl) ?_
          refine lv_iconst (v := 1) hx hb dX11_hands_120 (by decide) ?_
          refine lv_aload_n hx hb dX11_hands_121 rfl (lv_at hl 3 rfl) ?_
          refine va_get (D := D) (ci := 11) (v := .int y6_24) (C := RX11) (T := TX11) (N := 47) hx hb hts (by decide +kernel) hown hK.1 hP 0 rfl rfl 10 (by decide) (hts (.fieldLink RX11 120 "JugglingHallModel" "place" "I") (by decide +kernel)) (fun _ h9 => h9) rfl dX11_hands_122 ?_
          have hz_32 : (1 : Int32).toInt = 1 := by decide
          refine call_g (wr := []) (va_runV (As := [.int 1, .int y6_24]) (rest := []) ⟨hx, hb, hml, hown, hts⟩ (k_fails l D cI cR cM _  ) (cwV 2 hts gX11_hands_X11_fails rfl rfl rfl (by decide +kernel) ⟨Nat.le_of_ble_eq_true rfl, Nat.le_of_ble_eq_true rfl⟩) (pre_V hK hP hD 0 11 rfl rfl) rfl rfl hl.1 rfl (lv_room (Nat.le_of_ble_eq_true rfl)) dX11_hands_125 ⟨Nat.le_of_ble_eq_true rfl, Nat.le_of_ble_eq_true rfl⟩) hP hD hS hA [0, 1, 2, 3, 4, 5, 6, 7, 8, 9, 10, 11, 12, 13, 14, 15, 16, 17, 18, 19, 20, 21, 22, 23, 24, 25] [] (by with_unfolding_all rfl) rfl (by decide) (by decide) (fun u_33 H locs hw hP hD hS => ?_)
          obtain ⟨r_33, y9_33⟩ := u_33
          have hP : va_P D vwCl (mX mm q jn cI x0 x1 x2 x3 x4 y5_24 y6_24 y7_24 y8_24 y9_33 x10 x11 x12 y13_24 y14_24 x15 x16 x17 x18 x19 x20 f0 f1 f2 g_28 f4 f5 f6 f7 f8 f9 f10 f11 f12 f13 f14 f15 f16 f17 f18 f19 f20 f21 f22 f23 f24) H := hP
          have hD : va_D A (mX mm q jn cI x0 x1 x2 x3 x4 y5_24 y6_24 y7_24 y8_24 y9_33 x10 x11 x12 y13_24 y14_24 x15 x16 x17 x18 x19 x20 f0 f1 f2 g_28 f4 f5 f6 f7 f8 f9 f10 f11 f12 f13 f14 f15 f16 f17 f18 f19 f20 f21 f22 f23 f24) := hD
          have hr_33 : (r_33.toInt = (1 : Int32).toInt) := hw
          exact g_iret (r_33, y5_24, y6_24, y7_24, y8_24, y9_33, y13_24, y14_24, g_28) hx hb hr hlocks hS rfl (⟨show x5.toInt ≤ y5_24.toInt ∧ y5_24.toInt ≤ x2.toInt from (by first | assumption | omega), show TokOK y7_24 y8_24 from (by first | assumption | omega), show r_33.toInt = 0 → x5.toInt < y5_24.toInt ∨ y7_24.toInt = 0 from (by first | assumption | omega), show r_33.toInt = 0 → CellsX jn g_28 0 (6 * x10.toInt + 6) from (fun q => absurd q (by omega)), show r_33.toInt = 0 → x7.toInt ≠ 0 from (by first | assumption | omega), show r_33.toInt = 0 → ∀ i : Int, 0 ≤ i → i ≠ 6 * x10.toInt + 2 * j.toInt → i ≠ 6 * x10.toInt + 2 * j.toInt + 1 → g_28 i.toNat = f3 i.toNat from (fun q => absurd q (by omega)), show Hd ((r_33.toInt = 0 ∧ ∃ (a9 b9 : Int) (j9 : Nat), BtR ks vs i a9 b9 j9 ∧ CU P ks vs j9 y5_24 y7_24 y8_24 ∧ (g_28 (6 * x10.toInt + 2 * j.toInt).toNat).toInt = 4 * a9 ∧ (g_28 ((6 * x10.toInt + 2 * j.toInt) + 1).toNat).toInt = 4 * b9) ∨ (r_33.toInt ≠ 0 ∧ BtF ks vs i)) from (Or.inr ⟨by omega, Or.inr ⟨by omega, fun q8 => by have q9 := q8.2.2; omega⟩⟩)⟩) hP hD hQ (Nat.le_of_ble_eq_true rfl) (Nat.le_of_ble_eq_true rfl) dX11_hands_128
      · refine lv_iload hx hb dX11_hands_87 (lv_at hl 0 rfl) ?_
        exact g_iret (r_24, y5_24, y6_24, y7_24, y8_24, y9_24, y13_24, y14_24, g_22) hx hb hr hlocks hS rfl (⟨show x5.toInt ≤ y5_24.toInt ∧ y5_24.toInt ≤ x2.toInt from (by first | assumption | omega), show TokOK y7_24 y8_24 from (by first | assumption | omega), show r_24.toInt = 0 → x5.toInt < y5_24.toInt ∨ y7_24.toInt = 0 from (by first | assumption | omega), show r_24.toInt = 0 → CellsX jn g_22 0 (6 * x10.toInt + 6) from (fun q => absurd q (by omega)), show r_24.toInt = 0 → x7.toInt ≠ 0 from (by first | assumption | omega), show r_24.toInt = 0 → ∀ i : Int, 0 ≤ i → i ≠ 6 * x10.toInt + 2 * j.toInt → i ≠ 6 * x10.toInt + 2 * j.toInt + 1 → g_22 i.toNat = f3 i.toNat from (fun q => absurd q (by omega)), show Hd ((r_24.toInt = 0 ∧ ∃ (a9 b9 : Int) (j9 : Nat), BtR ks vs i a9 b9 j9 ∧ CU P ks vs j9 y5_24 y7_24 y8_24 ∧ (g_22 (6 * x10.toInt + 2 * j.toInt).toNat).toInt = 4 * a9 ∧ (g_22 ((6 * x10.toInt + 2 * j.toInt) + 1).toNat).toInt = 4 * b9) ∨ (r_24.toInt ≠ 0 ∧ BtF ks vs i)) from (Or.inr ⟨by omega, Or.inr ⟨by omega, fun q8 => or_F hF_24 (by omega) q8.2.1⟩⟩)⟩) hP hD hQ (Nat.le_of_ble_eq_true rfl) (Nat.le_of_ble_eq_true rfl) dX11_hands_89
    · refine lv_iload hx hb dX11_hands_47 (lv_at hl 0 rfl) ?_
      exact g_iret (r_18, y5_18, y6_18, y7_18, y8_18, y9_18, y13_18, y14_18, f3) hx hb hr hlocks hS rfl (⟨show x5.toInt ≤ y5_18.toInt ∧ y5_18.toInt ≤ x2.toInt from (by first | assumption | omega), show TokOK y7_18 y8_18 from (by first | assumption | omega), show r_18.toInt = 0 → x5.toInt < y5_18.toInt ∨ y7_18.toInt = 0 from (by first | assumption | omega), show r_18.toInt = 0 → CellsX jn f3 0 (6 * x10.toInt + 6) from (fun q => absurd q (by omega)), show r_18.toInt = 0 → x7.toInt ≠ 0 from (by first | assumption | omega), show r_18.toInt = 0 → ∀ i : Int, 0 ≤ i → i ≠ 6 * x10.toInt + 2 * j.toInt → i ≠ 6 * x10.toInt + 2 * j.toInt + 1 → f3 i.toNat = f3 i.toNat from (fun q => absurd q (by omega)), show Hd ((r_18.toInt = 0 ∧ ∃ (a9 b9 : Int) (j9 : Nat), BtR ks vs i a9 b9 j9 ∧ CU P ks vs j9 y5_18 y7_18 y8_18 ∧ (f3 (6 * x10.toInt + 2 * j.toInt).toNat).toInt = 4 * a9 ∧ (f3 ((6 * x10.toInt + 2 * j.toInt) + 1).toNat).toInt = 4 * b9) ∨ (r_18.toInt ≠ 0 ∧ BtF ks vs i)) from (Or.inr ⟨by omega, Or.inr ⟨by omega, fun q8 => or_F hF_18 (by omega) q8.1⟩⟩)⟩) hP hD hQ (Nat.le_of_ble_eq_true rfl) (Nat.le_of_ble_eq_true rfl) dX11_hands_49
