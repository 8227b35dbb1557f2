set_option maxRecDepth 100000 in
set_option maxHeartbeats 4000000 in
theorem k_drop3 (l : Launch) (D : va_G) (cI cR cM : ClassId) (sz : Nat) {jn mm : Nat} {q : Nat → Nat} {x0 x1 x2 x3 x4 x5 x6 x7 x8 x9 x10 x11 x12 x13 x14 x15 x16 x17 x18 x19 x20 : Int32} {f0 f1 f2 f3 f4 f5 f6 f7 f8 f9 f10 f11 f12 f13 f14 f15 f16 f17 f18 f19 f20 f21 f22 f23 f24 : Nat → Int32} {k c9 d9 : Int32} {Ev : Int → Env1} (hj : 1 ≤ jn ∧ jn ≤ 3) (h0 : 0 ≤ x0.toInt ∧ x0.toInt ≤ 60) (h1 : 0 ≤ x1.toInt ∧ x1.toInt ≤ 60) (hR : RowsX jn f0) (hRZ : RowsZ jn f0) (h10 : x1.toInt ≤ x0.toInt) (hj1 : jn = 1) (hEv : RefR f0 x0.toInt Ev) (hEO : ∀ t9 : Int, 0 ≤ t9 → t9 ≤ x0.toInt → EOk (Ev t9)) (hRf : RefZ f0 x0.toInt) : Met l yX11_drop wsX11_drop ({ frames := 5, cells := 0, slots := 0, locals := 124 }) (P0 D cI cR cM [.ref mm, .int k, .int c9, .int d9] sz (mX mm q jn cI x0 x1 x2 x3 x4 x5 x6 x7 x8 x9 x10 x11 x12 x13 x14 x15 x16 x17 x18 x19 x20 f0 f1 f2 f3 f4 f5 f6 f7 f8 f9 f10 f11 f12 f13 f14 f15 f16 f17 f18 f19 f20 f21 f22 f23 f24)) (QG (S := Int32 × Int32 × Int32 × Int32 × Int32 × Int32 × (Nat → Int32) × (Nat → Int32) × (Nat → Int32) × (Nat → Int32) × (Nat → Int32) × (Nat → Int32)) (fun u => some (.int u.1)) (fun u => mX mm q jn cI (u.2.1) (u.2.2.1) x2 x3 x4 x5 x6 x7 x8 x9 x10 x11 x12 x13 x14 (u.2.2.2.1) (u.2.2.2.2.1) (u.2.2.2.2.2.1) x18 x19 x20 (u.2.2.2.2.2.2.1) f1 f2 f3 f4 f5 f6 f7 f8 f9 f10 f11 (u.2.2.2.2.2.2.2.1) (u.2.2.2.2.2.2.2.2.1) (u.2.2.2.2.2.2.2.2.2.1) (u.2.2.2.2.2.2.2.2.2.2.1) (u.2.2.2.2.2.2.2.2.2.2.2) f17 f18 f19 f20 f21 f22 f23 f24) (fun u => (0 ≤ u.2.1.toInt ∧ u.2.1.toInt ≤ 60) ∧ (0 ≤ u.2.2.1.toInt ∧ u.2.2.1.toInt ≤ u.2.1.toInt) ∧ (RowsX jn u.2.2.2.2.2.2.1) ∧ (RowsZ jn u.2.2.2.2.2.2.1) ∧ (Hd ((u.1.toInt = -1 ∧ u.2.1 = x0 ∧ u.2.2.1 = x1 ∧ u.2.2.2.2.2.2.1 = f0 ∧ (¬ DrK Ev x0.toInt x1.toInt k.toInt d9.toInt ∨ (DrK Ev x0.toInt x1.toInt k.toInt d9.toInt ∧ ∃ (La : Int → Int) (kq : Int), DrL (Ev x1.toInt k.toInt).2 (Ev x1.toInt k.toInt).1 La kq ∧ ¬ BtM kq c9))) ∨ (u.1.toInt = x0.toInt + 1 ∧ u.2.1.toInt = x0.toInt + 1 ∧ u.2.2.1 = u.2.1 ∧ DrK Ev x0.toInt x1.toInt k.toInt d9.toInt ∧ ∃ (La : Int → Int) (kq : Int), DrL (Ev x1.toInt k.toInt).2 (Ev x1.toInt k.toInt).1 La kq ∧ BtM kq c9 ∧ RefR u.2.2.2.2.2.2.1 (x0.toInt + 1) (evp Ev (x0.toInt + 1) (eup (Ev x0.toInt) d9.toInt ((Ev x1.toInt k.toInt).1, drW (Ev x1.toInt k.toInt).2 (Dr La c9)))) ∧ RefZ u.2.2.2.2.2.2.1 (x0.toInt + 1))))) D (va_A (mX mm q jn cI x0 x1 x2 x3 x4 x5 x6 x7 x8 x9 x10 x11 x12 x13 x14 x15 x16 x17 x18 x19 x20 f0 f1 f2 f3 f4 f5 f6 f7 f8 f9 f10 f11 f12 f13 f14 f15 f16 f17 f18 f19 f20 f21 f22 f23 f24) sz)) 0 0 (va_A (mX mm q jn cI x0 x1 x2 x3 x4 x5 x6 x7 x8 x9 x10 x11 x12 x13 x14 x15 x16 x17 x18 x19 x20 f0 f1 f2 f3 f4 f5 f6 f7 f8 f9 f10 f11 f12 f13 f14 f15 f16 f17 f18 f19 f20 f21 f22 f23 f24) sz) := by
  refine go (cc := cX11_drop) (maxL := 8) (ret := (some .int)) (by decide) rfl (Nat.le_of_ble_eq_true rfl) ?_
  intro p e s m below meth c ls args Q hQ hsz hx hb hr hml hts hown hlocks hnm hP hK hD hl
  subst hsz
  have hD := hD.self (sz := s.heap.size)
  generalize hAe : va_A (mX mm q jn cI x0 x1 x2 x3 x4 x5 x6 x7 x8 x9 x10 x11 x12 x13 x14 x15 x16 x17 x18 x19 x20 f0 f1 f2 f3 f4 f5 f6 f7 f8 f9 f10 f11 f12 f13 f14 f15 f16 f17 f18 f19 f20 f21 f22 f23 f24) s.heap.size = A at hD hQ
  have hA : ∀ q, s.heap.size ≤ q → A q := fun q h => by rw [← hAe]; exact Or.inr h
  have hS : va_S A s.heap s.heap [] := va_S.rf
  have hl : lv_has ls 8 [(0, .ref mm), (1, .int k), (2, .int c9), (3, .int d9)] := hl
  refine lv_aload_n hx hb dX11_drop_0 rfl (lv_at hl 0 rfl) ?_
  refine lv_iload_n hx hb dX11_drop_1 rfl (lv_at hl 1 rfl) ?_
  refine call_g (wr := []) (va_runV (As := [.int k]) (rest := []) ⟨hx, hb, hml, hown, hts⟩ (k_tied3 l D cI cR cM _ (Ev := Ev) (by first | assumption | omega) (by first | assumption | omega) (by first | assumption | omega) (by first | assumption | omega) (by first | assumption | omega) (by first | assumption | omega) (by first | assumption | omega) (by first | assumption | omega) (by first | assumption | omega)) (cwV 1 hts gX11_drop_X11_tied rfl rfl rfl (by decide +kernel) ⟨Nat.le_of_ble_eq_true rfl, Nat.le_of_ble_eq_true rfl⟩) (pre_V hK hP hD 0 11 rfl rfl) rfl rfl hl.1 rfl (lv_room (Nat.le_of_ble_eq_true rfl)) dX11_drop_2 ⟨Nat.le_of_ble_eq_true rfl, Nat.le_of_ble_eq_true rfl⟩) hP hD hS hA [0, 1, 2, 3, 4, 5, 6, 7, 8, 9, 10, 11, 12, 13, 14, 15, 16, 17, 18, 19, 20, 21, 22, 23, 24, 25] [] (by with_unfolding_all rfl) rfl (by decide) (by decide) (fun u_1 H locs hw hP hD hS => ?_)
  obtain ⟨r_1, y15_1, y16_1, y17_1, g12_1, g13_1, g14_1, g15_1, g16_1⟩ := u_1
  have hP : va_P D vwCl (mX mm q jn cI x0 x1 x2 x3 x4 x5 x6 x7 x8 x9 x10 x11 x12 x13 x14 y15_1 y16_1 y17_1 x18 x19 x20 f0 f1 f2 f3 f4 f5 f6 f7 f8 f9 f10 f11 g12_1 g13_1 g14_1 g15_1 g16_1 f17 f18 f19 f20 f21 f22 f23 f24) H := hP
  have hD : va_D A (mX mm q jn cI x0 x1 x2 x3 x4 x5 x6 x7 x8 x9 x10 x11 x12 x13 x14 y15_1 y16_1 y17_1 x18 x19 x20 f0 f1 f2 f3 f4 f5 f6 f7 f8 f9 f10 f11 g12_1 g13_1 g14_1 g15_1 g16_1 f17 f18 f19 f20 f21 f22 f23 f24) := hD
  obtain ⟨h_1, hle_1, hT_1⟩ : (r_1.toInt = -1 ∨ (IsRow jn f0 r_1.toInt ∧ ZX jn f0 (r_1.toInt + 1) (f0 r_1.toInt.toNat).toInt ∧ 0 ≤ y17_1.toInt ∧ y17_1.toInt ≤ 144)) ∧ (r_1.toInt ≤ 150 * (8 * x1.toInt + 7)) ∧ (Hd ((r_1.toInt = -1 ∧ ¬ ((0 ≤ k.toInt ∧ k.toInt < 8) ∧ 0 < (Ev x1.toInt k.toInt).1 ∧ GdW (Ev x1.toInt k.toInt).2 (Ev x1.toInt k.toInt).1)) ∨ (0 ≤ r_1.toInt ∧ (0 ≤ k.toInt ∧ k.toInt < 8) ∧ 0 < (Ev x1.toInt k.toInt).1 ∧ (Ev x1.toInt k.toInt).1 = (f0 r_1.toInt.toNat).toInt ∧ RSo f0 (r_1.toInt + 1) (Ev x1.toInt k.toInt).2 (f0 r_1.toInt.toNat).toInt ∧ GdW (Ev x1.toInt k.toInt).2 (Ev x1.toInt k.toInt).1 ∧ ∃ La : Int → Int, (∀ t9 : Int, 0 ≤ t9 → t9 < 2 * (f0 r_1.toInt.toNat).toInt → (g15_1 (6 * (t9 / 2) + t9 % 2).toNat).toInt = La t9) ∧ DrL (Ev x1.toInt k.toInt).2 (Ev x1.toInt k.toInt).1 La y17_1.toInt))) := hw
  refine lv_istore (lv' := [(4, .int r_1), (0, .ref mm), (1, .int k), (2, .int c9), (3, .int d9)]) hx hb dX11_drop_5 hl (by decide) rfl (fun ls hl => ?_)
  refine lv_iload hx hb dX11_drop_7 (lv_at hl 0 rfl) ?_
  refine a_if_lt (u := r_1.toInt) (tgt := 53) hx hb dX11_drop_9 (by decide) (rfl) (fun c_2 => ?_) (fun c_2 => ?_)
  · refine lv_iconst (v := (-1)) hx hb dX11_drop_53 (by decide) ?_
    have hz_3 : (-1 : Int32).toInt = (-1) := by decide
    exact g_iret ((-1 : Int32), x0, x1, y15_1, y16_1, y17_1, f0, g12_1, g13_1, g14_1, g15_1, g16_1) hx hb hr hlocks hS rfl (⟨show 0 ≤ x0.toInt ∧ x0.toInt ≤ 60 from (by first | assumption | omega), show 0 ≤ x1.toInt ∧ x1.toInt ≤ x0.toInt from (by first | assumption | omega), show RowsX jn f0 from (hR), show RowsZ jn f0 from (hRZ), show Hd (((-1 : Int32).toInt = -1 ∧ x0 = x0 ∧ x1 = x1 ∧ f0 = f0 ∧ (¬ DrK Ev x0.toInt x1.toInt k.toInt d9.toInt ∨ (DrK Ev x0.toInt x1.toInt k.toInt d9.toInt ∧ ∃ (La : Int → Int) (kq : Int), DrL (Ev x1.toInt k.toInt).2 (Ev x1.toInt k.toInt).1 La kq ∧ ¬ BtM kq c9))) ∨ ((-1 : Int32).toInt = x0.toInt + 1 ∧ x0.toInt = x0.toInt + 1 ∧ x1 = x0 ∧ DrK Ev x0.toInt x1.toInt k.toInt d9.toInt ∧ ∃ (La : Int → Int) (kq : Int), DrL (Ev x1.toInt k.toInt).2 (Ev x1.toInt k.toInt).1 La kq ∧ BtM kq c9 ∧ RefR f0 (x0.toInt + 1) (evp Ev (x0.toInt + 1) (eup (Ev x0.toInt) d9.toInt ((Ev x1.toInt k.toInt).1, drW (Ev x1.toInt k.toInt).2 (Dr La c9)))) ∧ RefZ f0 (x0.toInt + 1))) from (Or.inl ⟨by decide, rfl, rfl, rfl, Or.inl (fun q9 => (hT_1.resolve_right (fun q8 => by have h8 := q8.1; omega)).2 ⟨q9.1, q9.2.2.2⟩)⟩)⟩) hP hD hQ (Nat.le_of_ble_eq_true rfl) (Nat.le_of_ble_eq_true rfl) dX11_drop_54
  · obtain ⟨hr0, hZ9, hcc⟩ := h_1.resolve_left (by omega)
    have hrow9 := hr0
    obtain ⟨hr1, hr2, hr3, hr4, hr5, hr6⟩ := hrow9
    obtain ⟨t0_, t1_, t2_, t3_, t4_, t5_, La, yL, hDL⟩ := hT_1.resolve_left (fun q9 => by have h8 := q9.1; omega)
    have hsr : ∀ b9 : Int, 0 ≤ b9 → b9 < (f0 r_1.toInt.toNat).toInt → Srt (Ev x1.toInt k.toInt).2 b9 := fun b9 h8 h9 => (hEO x1.toInt (by omega) (by omega) k.toInt t1_.1 t1_.2).2.2 b9 h8 (by omega)
    refine lv_iload_n hx hb dX11_drop_12 rfl (lv_at hl 4 rfl) ?_
    refine lv_iconst (v := 0) hx hb dX11_drop_13 (by decide) ?_
    refine lv_bipush (v := 7) hx hb dX11_drop_14 (by decide) ?_
    have hz_4 : (0 : Int32).toInt = 0 := by decide
    have hz_5 : (7 : Int32).toInt = 7 := by decide
    refine roP (va_runS (As := [.int d9, .int 0, .int 7]) (rest := []) ⟨hx, hb, hml, hown, hts⟩ (k_isIn l D cI cR cM _  ) (va_cwS 3 hts gX11_drop_X11_isIn rfl rfl rfl (by decide +kernel) ⟨Nat.le_of_ble_eq_true rfl, Nat.le_of_ble_eq_true rfl⟩) (pre_S hK va_P_nil (va_D_nil (A := fun _ => True))) rfl rfl hl.1 rfl (lv_room (Nat.le_of_ble_eq_true rfl)) dX11_drop_16 ⟨Nat.le_of_ble_eq_true rfl, Nat.le_of_ble_eq_true rfl⟩) hS hA hP (fun r_6 H locs hw hP hS => ?_)
    have h_6 : ((r_6.toInt = 1 ∧ (0 : Int32).toInt ≤ d9.toInt ∧ d9.toInt ≤ (7 : Int32).toInt) ∨ (r_6.toInt = 0 ∧ (d9.toInt < (0 : Int32).toInt ∨ (7 : Int32).toInt < d9.toInt))) := hw
    refine a_if_eq (u := r_6.toInt) (tgt := 53) hx hb dX11_drop_19 (by decide) (rfl) (fun c_7 => ?_) (fun c_7 => ?_)
    · refine lv_iconst (v := (-1)) hx hb dX11_drop_53 (by decide) ?_
      have hz_8 : (-1 : Int32).toInt = (-1) := by decide
      exact g_iret ((-1 : Int32), x0, x1, y15_1, y16_1, y17_1, f0, g12_1, g13_1, g14_1, g15_1, g16_1) hx hb hr hlocks hS rfl (⟨show 0 ≤ x0.toInt ∧ x0.toInt ≤ 60 from (by first | assumption | omega), show 0 ≤ x1.toInt ∧ x1.toInt ≤ x0.toInt from (by first | assumption | omega), show RowsX jn f0 from (hR), show RowsZ jn f0 from (hRZ), show Hd (((-1 : Int32).toInt = -1 ∧ x0 = x0 ∧ x1 = x1 ∧ f0 = f0 ∧ (¬ DrK Ev x0.toInt x1.toInt k.toInt d9.toInt ∨ (DrK Ev x0.toInt x1.toInt k.toInt d9.toInt ∧ ∃ (La : Int → Int) (kq : Int), DrL (Ev x1.toInt k.toInt).2 (Ev x1.toInt k.toInt).1 La kq ∧ ¬ BtM kq c9))) ∨ ((-1 : Int32).toInt = x0.toInt + 1 ∧ x0.toInt = x0.toInt + 1 ∧ x1 = x0 ∧ DrK Ev x0.toInt x1.toInt k.toInt d9.toInt ∧ ∃ (La : Int → Int) (kq : Int), DrL (Ev x1.toInt k.toInt).2 (Ev x1.toInt k.toInt).1 La kq ∧ BtM kq c9 ∧ RefR f0 (x0.toInt + 1) (evp Ev (x0.toInt + 1) (eup (Ev x0.toInt) d9.toInt ((Ev x1.toInt k.toInt).1, drW (Ev x1.toInt k.toInt).2 (Dr La c9)))) ∧ RefZ f0 (x0.toInt + 1))) from (Or.inl ⟨by decide, rfl, rfl, rfl, Or.inl (fun q9 => by have h8 := q9.2.1; omega)⟩)⟩) hP hD hQ (Nat.le_of_ble_eq_true rfl) (Nat.le_of_ble_eq_true rfl) dX11_drop_54
    · refine lv_aload_n hx hb dX11_drop_22 rfl (lv_at hl 1 rfl) ?_
      refine va_get (D := D) (ci := 11) (v := .int x0) (C := RX11) (T := TX11) (N := 47) hx hb hts (by decide +kernel) hown hK.1 hP 0 rfl rfl 3 (by decide) (hts (.fieldLink RX11 185 "JugglingHallModel" "time" "I") (by decide +kernel)) (fun _ h9 => h9) rfl dX11_drop_23 ?_
      refine lv_bipush (v := 60) hx hb dX11_drop_26 (by decide) ?_
      refine a_icmp_eq (u := x0.toInt) (v := 60) (tgt := 53) hx hb dX11_drop_28 (by decide) (rfl) (by decide) (fun c_9 => ?_) (fun c_9 => ?_)
      · refine lv_iconst (v := (-1)) hx hb dX11_drop_53 (by decide) ?_
        have hz_10 : (-1 : Int32).toInt = (-1) := by decide
        exact g_iret ((-1 : Int32), x0, x1, y15_1, y16_1, y17_1, f0, g12_1, g13_1, g14_1, g15_1, g16_1) hx hb hr hlocks hS rfl (⟨show 0 ≤ x0.toInt ∧ x0.toInt ≤ 60 from (by first | assumption | omega), show 0 ≤ x1.toInt ∧ x1.toInt ≤ x0.toInt from (by first | assumption | omega), show RowsX jn f0 from (hR), show RowsZ jn f0 from (hRZ), show Hd (((-1 : Int32).toInt = -1 ∧ x0 = x0 ∧ x1 = x1 ∧ f0 = f0 ∧ (¬ DrK Ev x0.toInt x1.toInt k.toInt d9.toInt ∨ (DrK Ev x0.toInt x1.toInt k.toInt d9.toInt ∧ ∃ (La : Int → Int) (kq : Int), DrL (Ev x1.toInt k.toInt).2 (Ev x1.toInt k.toInt).1 La kq ∧ ¬ BtM kq c9))) ∨ ((-1 : Int32).toInt = x0.toInt + 1 ∧ x0.toInt = x0.toInt + 1 ∧ x1 = x0 ∧ DrK Ev x0.toInt x1.toInt k.toInt d9.toInt ∧ ∃ (La : Int → Int) (kq : Int), DrL (Ev x1.toInt k.toInt).2 (Ev x1.toInt k.toInt).1 La kq ∧ BtM kq c9 ∧ RefR f0 (x0.toInt + 1) (evp Ev (x0.toInt + 1) (eup (Ev x0.toInt) d9.toInt ((Ev x1.toInt k.toInt).1, drW (Ev x1.toInt k.toInt).2 (Dr La c9)))) ∧ RefZ f0 (x0.toInt + 1))) from (Or.inl ⟨by decide, rfl, rfl, rfl, Or.inl (fun q9 => by have h8 := q9.2.2.1; omega)⟩)⟩) hP hD hQ (Nat.le_of_ble_eq_true rfl) (Nat.le_of_ble_eq_true rfl) dX11_drop_54
      · refine lv_iload_n hx hb dX11_drop_31 rfl (lv_at hl 3 rfl) ?_
        refine a_if_lt (u := c9.toInt) (tgt := 53) hx hb dX11_drop_32 (by decide) (rfl) (fun c_11 => ?_) (fun c_11 => ?_)
        · refine lv_iconst (v := (-1)) hx hb dX11_drop_53 (by decide) ?_
          have hz_12 : (-1 : Int32).toInt = (-1) := by decide
          exact g_iret ((-1 : Int32), x0, x1, y15_1, y16_1, y17_1, f0, g12_1, g13_1, g14_1, g15_1, g16_1) hx hb hr hlocks hS rfl (⟨show 0 ≤ x0.toInt ∧ x0.toInt ≤ 60 from (by first | assumption | omega), show 0 ≤ x1.toInt ∧ x1.toInt ≤ x0.toInt from (by first | assumption | omega), show RowsX jn f0 from (hR), show RowsZ jn f0 from (hRZ), show Hd (((-1 : Int32).toInt = -1 ∧ x0 = x0 ∧ x1 = x1 ∧ f0 = f0 ∧ (¬ DrK Ev x0.toInt x1.toInt k.toInt d9.toInt ∨ (DrK Ev x0.toInt x1.toInt k.toInt d9.toInt ∧ ∃ (La : Int → Int) (kq : Int), DrL (Ev x1.toInt k.toInt).2 (Ev x1.toInt k.toInt).1 La kq ∧ ¬ BtM kq c9))) ∨ ((-1 : Int32).toInt = x0.toInt + 1 ∧ x0.toInt = x0.toInt + 1 ∧ x1 = x0 ∧ DrK Ev x0.toInt x1.toInt k.toInt d9.toInt ∧ ∃ (La : Int → Int) (kq : Int), DrL (Ev x1.toInt k.toInt).2 (Ev x1.toInt k.toInt).1 La kq ∧ BtM kq c9 ∧ RefR f0 (x0.toInt + 1) (evp Ev (x0.toInt + 1) (eup (Ev x0.toInt) d9.toInt ((Ev x1.toInt k.toInt).1, drW (Ev x1.toInt k.toInt).2 (Dr La c9)))) ∧ RefZ f0 (x0.toInt + 1))) from (Or.inl ⟨by decide, rfl, rfl, rfl, Or.inr ⟨⟨t1_, by omega, by omega, t2_, t5_⟩, La, _, hDL, fun q9 => by have h8 := q9.1; omega⟩⟩)⟩) hP hD hQ (Nat.le_of_ble_eq_true rfl) (Nat.le_of_ble_eq_true rfl) dX11_drop_54
        · have join13 : ∀  (H : Heap) (locs : List Loc) (ls : Array Slot), (BtM y17_1.toInt c9) → va_P D vwCl (mX mm q jn cI x0 x1 x2 x3 x4 x5 x6 x7 x8 x9 x10 x11 x12 x13 x14 y15_1 y16_1 y17_1 x18 x19 x20 f0 f1 f2 f3 f4 f5 f6 f7 f8 f9 f10 f11 g12_1 g13_1 g14_1 g15_1 g16_1 f17 f18 f19 f20 f21 f22 f23 f24) H → va_D A (mX mm q jn cI x0 x1 x2 x3 x4 x5 x6 x7 x8 x9 x10 x11 x12 x13 x14 y15_1 y16_1 y17_1 x18 x19 x20 f0 f1 f2 f3 f4 f5 f6 f7 f8 f9 f10 f11 g12_1 g13_1 g14_1 g15_1 g16_1 f17 f18 f19 f20 f21 f22 f23 f24) → va_S A s.heap H locs → lv_has ls 8 [(0, .ref mm), (1, .int k), (2, .int c9), (3, .int d9), (4, .int r_1)] → W p l e ({ frames := 5, cells := 0, slots := 0, locals := 124 }) s m args below meth c H locs 0 0 Q (F0 m 55 ls []) := by
            intro  H locs ls hBt hP hD hS hl
            refine lv_aload_n hx hb dX11_drop_55 rfl (lv_at hl 0 rfl) ?_
            refine lv_dup hx hb dX11_drop_56 rfl ?_
            refine va_get (D := D) (ci := 11) (v := .int x0) (C := RX11) (T := TX11) (N := 47) hx hb hts (by decide +kernel) hown hK.1 hP 0 rfl rfl 3 (by decide) (hts (.fieldLink RX11 185 "JugglingHallModel" "time" "I") (by decide +kernel)) (fun _ h9 => h9) rfl dX11_drop_57 ?_
            refine lv_iconst (v := 1) hx hb dX11_drop_60 (by decide) ?_
            refine a_iadd (u := x0.toInt) (v := 1) hx hb dX11_drop_61 (rfl) (by decide) (by omega) (fun z_14 e_14 => ?_)
            refine mp_0 hx hb hts (by decide +kernel) hown hK hP hD hS (hts (.fieldLink RX11 185 "JugglingHallModel" "time" "I") (by decide +kernel)) dX11_drop_62 (fun H locs hP hD hS => ?_)
            refine lv_aload_n hx hb dX11_drop_65 rfl (lv_at hl 0 rfl) ?_
            refine va_get (D := D) (ci := 11) (v := .int z_14) (C := RX11) (T := TX11) (N := 47) hx hb hts (by decide +kernel) hown hK.1 hP 0 rfl rfl 3 (by decide) (hts (.fieldLink RX11 185 "JugglingHallModel" "time" "I") (by decide +kernel)) (fun _ h9 => h9) rfl dX11_drop_66 ?_
            refine lv_iload_n hx hb dX11_drop_69 rfl (lv_at hl 3 rfl) ?_
            refine roP (va_runS (As := [.int z_14, .int d9]) (rest := []) ⟨hx, hb, hml, hown, hts⟩ (k_rowAt l D cI cR cM _  (by first | assumption | omega) (by first | assumption | omega)) (va_cwS 2 hts gX11_drop_X11_rowAt rfl rfl rfl (by decide +kernel) ⟨Nat.le_of_ble_eq_true rfl, Nat.le_of_ble_eq_true rfl⟩) (pre_S hK va_P_nil (va_D_nil (A := fun _ => True))) rfl rfl hl.1 rfl (lv_room (Nat.le_of_ble_eq_true rfl)) dX11_drop_70 ⟨Nat.le_of_ble_eq_true rfl, Nat.le_of_ble_eq_true rfl⟩) hS hA hP (fun r_15 H locs hw hP hS => ?_)
            have h_15 : (r_15.toInt = 150 * (8 * z_14.toInt + d9.toInt)) := hw
            refine lv_istore (lv' := [(5, .int r_15), (0, .ref mm), (1, .int k), (2, .int c9), (3, .int d9), (4, .int r_1)]) hx hb dX11_drop_73 hl (by decide) rfl (fun ls hl => ?_)
            refine lv_aload_n hx hb dX11_drop_75 rfl (lv_at hl 1 rfl) ?_
            refine va_get (D := D) (ci := 11) (v := .ref (q 0)) (C := RX11) (T := TX11) (N := 47) hx hb hts (by decide +kernel) hown hK.1 hP 0 rfl rfl 1 (by decide) (hts (.fieldLink RX11 8 "JugglingHallModel" "rows" "[I") (by decide +kernel)) (fun _ h9 => h9) rfl dX11_drop_76 ?_
            refine lv_iload hx hb dX11_drop_79 (lv_at hl 0 rfl) ?_
            refine lv_aload_n hx hb dX11_drop_81 rfl (lv_at hl 1 rfl) ?_
            refine va_get (D := D) (ci := 11) (v := .ref (q 0)) (C := RX11) (T := TX11) (N := 47) hx hb hts (by decide +kernel) hown hK.1 hP 0 rfl rfl 1 (by decide) (hts (.fieldLink RX11 8 "JugglingHallModel" "rows" "[I") (by decide +kernel)) (fun _ h9 => h9) rfl dX11_drop_82 ?_
            refine lv_iload hx hb dX11_drop_85 (lv_at hl 5 rfl) ?_
            refine a_iald (f := f0) (u := r_1.toInt) hx hb hK.1 hP 1 0 rfl rfl dX11_drop_87 (rfl) (by omega) (fun z_16 q_16 e_16 => ?_)
            refine ma_0 (u := r_15.toInt) hx hb hK hP hD hS dX11_drop_88 (rfl) (by omega) (fun g_17 H locs eg_17 hP hD hS => ?_)
            have hu0 : ∀ i9 : Int, 0 ≤ i9 → (i9 < r_15.toInt ∨ r_15.toInt + 150 ≤ i9) → g_17 i9.toNat = f0 i9.toNat := fun i9 h8 h9 => by rw [eg_17, un_i h8 (by omega) (by omega)]
            have hn0 : (g_17 r_15.toInt.toNat).toInt = (f0 r_1.toInt.toNat).toInt := by rw [eg_17, show r_15.toInt = r_15.toInt by omega, pk_us]; omega
            refine lv_iconst (v := 0) hx hb dX11_drop_89 (by decide) ?_
            refine lv_istore (lv' := [(6, .int 0), (5, .int r_15), (0, .ref mm), (1, .int k), (2, .int c9), (3, .int d9), (4, .int r_1)]) hx hb dX11_drop_90 hl (by decide) rfl (fun ls hl => ?_)
            have loop92 : ∀ (ddloop92 : Nat) (t : Int32) (ga : (Nat → Int32)) (H : Heap) (locs : List Loc) (ls : Array Slot), (6 * (f0 r_1.toInt.toNat).toInt - t.toInt).toNat < ddloop92 → (0 ≤ t.toInt ∧ t.toInt ≤ 6 * (f0 r_1.toInt.toNat).toInt) → (∀ i9 : Int, 0 ≤ i9 → (i9 < r_15.toInt ∨ r_15.toInt + 150 ≤ i9) → ga i9.toNat = f0 i9.toNat) → ((ga r_15.toInt.toNat).toInt = (f0 r_1.toInt.toNat).toInt) → (∀ i9 : Int, 0 ≤ i9 → i9 < t.toInt → CellX jn (ga (r_15.toInt + 1 + i9).toNat)) → (∀ i9 : Int, 0 ≤ i9 → i9 < t.toInt → 2 * (jn : Int) ≤ i9 % 6 → (ga (r_15.toInt + 1 + i9).toNat).toInt = 0) → (∀ c8 : Int, 0 ≤ c8 → c8 < 2 * (f0 r_1.toInt.toNat).toInt → (6 * (c8 / 2) + c8 % 2) < t.toInt → (ga (r_15.toInt + 1 + (6 * (c8 / 2) + c8 % 2)).toNat).toInt = 4 * drV (Ev x1.toInt k.toInt).2 (Dr La c9) c8) → va_P D vwCl (mX mm q jn cI z_14 x1 x2 x3 x4 x5 x6 x7 x8 x9 x10 x11 x12 x13 x14 y15_1 y16_1 y17_1 x18 x19 x20 ga f1 f2 f3 f4 f5 f6 f7 f8 f9 f10 f11 g12_1 g13_1 g14_1 g15_1 g16_1 f17 f18 f19 f20 f21 f22 f23 f24) H → va_D A (mX mm q jn cI z_14 x1 x2 x3 x4 x5 x6 x7 x8 x9 x10 x11 x12 x13 x14 y15_1 y16_1 y17_1 x18 x19 x20 ga f1 f2 f3 f4 f5 f6 f7 f8 f9 f10 f11 g12_1 g13_1 g14_1 g15_1 g16_1 f17 f18 f19 f20 f21 f22 f23 f24) → va_S A s.heap H locs → lv_has ls 8 [(0, .ref mm), (1, .int k), (2, .int c9), (3, .int d9), (4, .int r_1), (5, .int r_15), (6, .int t)] → W p l e ({ frames := 5, cells := 0, slots := 0, locals := 124 }) s m args below meth c H locs 0 0 Q (F0 m 92 ls []) := by
              intro ddloop92
              induction ddloop92 with
              | zero =>
                intro t ga H locs ls hdd
                exact absurd hdd (Nat.not_lt_zero _)
              | succ ddloop92 ih92 =>
                intro t ga H locs ls hdd ht hu hn hcx hzz hV hP hD hS hl
                have hgr : ga r_1.toInt.toNat = f0 r_1.toInt.toNat := hu _ (by omega) (by omega)
                refine lv_iload hx hb dX11_drop_92 (lv_at hl 6 rfl) ?_
                refine lv_bipush (v := 6) hx hb dX11_drop_94 (by decide) ?_
                refine lv_aload_n hx hb dX11_drop_96 rfl (lv_at hl 0 rfl) ?_
                refine va_get (D := D) (ci := 11) (v := .ref (q 0)) (C := RX11) (T := TX11) (N := 47) hx hb hts (by decide +kernel) hown hK.1 hP 0 rfl rfl 1 (by decide) (hts (.fieldLink RX11 8 "JugglingHallModel" "rows" "[I") (by decide +kernel)) (fun _ h9 => h9) rfl dX11_drop_97 ?_
                refine lv_iload hx hb dX11_drop_100 (lv_at hl 4 rfl) ?_
                refine a_iald (f := ga) (u := r_1.toInt) hx hb hK.1 hP 1 0 rfl rfl dX11_drop_102 (rfl) (by omega) (fun z_18 q_18 e_18 => ?_)
                rw [hgr] at e_18
                refine a_imul (u := 6) (v := z_18.toInt) hx hb dX11_drop_103 (by decide) (rfl) (by omega) (fun z_19 e_19 => ?_)
                refine a_icmp_ge (u := t.toInt) (v := (6 * z_18.toInt)) (tgt := 190) hx hb dX11_drop_104 (by decide) (rfl) (e_19) (fun c_20 => ?_) (fun c_20 => ?_)
                · refine lv_iconst (v := 0) hx hb dX11_drop_190 (by decide) ?_
                  refine lv_istore (lv' := [(6, .int 0), (0, .ref mm), (1, .int k), (2, .int c9), (3, .int d9), (4, .int r_1), (5, .int r_15)]) hx hb dX11_drop_191 hl (by decide) rfl (fun ls hl => ?_)
                  have loop193 : ∀ (ddloop193 : Nat) (kk : Int32) (gb : (Nat → Int32)) (H : Heap) (locs : List Loc) (ls : Array Slot), (3 * (f0 r_1.toInt.toNat).toInt - kk.toInt).toNat < ddloop193 → (0 ≤ kk.toInt ∧ kk.toInt ≤ 3 * (f0 r_1.toInt.toNat).toInt) → (∀ i9 : Int, 0 ≤ i9 → (i9 < r_15.toInt ∨ r_15.toInt + 150 ≤ i9) → gb i9.toNat = f0 i9.toNat) → ((gb r_15.toInt.toNat).toInt = (f0 r_1.toInt.toNat).toInt) → (∀ i9 : Int, 0 ≤ i9 → i9 < 6 * (f0 r_1.toInt.toNat).toInt → CellX jn (gb (r_15.toInt + 1 + i9).toNat)) → (∀ i9 : Int, 0 ≤ i9 → i9 < 6 * (f0 r_1.toInt.toNat).toInt → 2 * (jn : Int) ≤ i9 % 6 → (gb (r_15.toInt + 1 + i9).toNat).toInt = 0) → (∀ k9 : Int, 0 ≤ k9 → k9 < kk.toInt → (gb (r_15.toInt + 1 + 2 * k9).toNat).toInt = 0 → (gb (r_15.toInt + 1 + 2 * k9 + 1).toNat).toInt = 0) → (∀ b8 : Int, 0 ≤ b8 → b8 < (f0 r_1.toInt.toNat).toInt → (3 * b8 < kk.toInt → (gb (r_15.toInt + 1 + 6 * b8).toNat).toInt = 4 * drW (Ev x1.toInt k.toInt).2 (Dr La c9) (2 * b8) ∧ (gb (r_15.toInt + 1 + 6 * b8 + 1).toNat).toInt = 4 * drW (Ev x1.toInt k.toInt).2 (Dr La c9) (2 * b8 + 1)) ∧ (kk.toInt ≤ 3 * b8 → (gb (r_15.toInt + 1 + 6 * b8).toNat).toInt = 4 * drV (Ev x1.toInt k.toInt).2 (Dr La c9) (2 * b8) ∧ (gb (r_15.toInt + 1 + 6 * b8 + 1).toNat).toInt = 4 * drV (Ev x1.toInt k.toInt).2 (Dr La c9) (2 * b8 + 1))) → va_P D vwCl (mX mm q jn cI z_14 x1 x2 x3 x4 x5 x6 x7 x8 x9 x10 x11 x12 x13 x14 y15_1 y16_1 y17_1 x18 x19 x20 gb f1 f2 f3 f4 f5 f6 f7 f8 f9 f10 f11 g12_1 g13_1 g14_1 g15_1 g16_1 f17 f18 f19 f20 f21 f22 f23 f24) H → va_D A (mX mm q jn cI z_14 x1 x2 x3 x4 x5 x6 x7 x8 x9 x10 x11 x12 x13 x14 y15_1 y16_1 y17_1 x18 x19 x20 gb f1 f2 f3 f4 f5 f6 f7 f8 f9 f10 f11 g12_1 g13_1 g14_1 g15_1 g16_1 f17 f18 f19 f20 f21 f22 f23 f24) → va_S A s.heap H locs → lv_has ls 8 [(0, .ref mm), (1, .int k), (2, .int c9), (3, .int d9), (4, .int r_1), (5, .int r_15), (6, .int kk)] → W p l e ({ frames := 5, cells := 0, slots := 0, locals := 124 }) s m args below meth c H locs 0 0 Q (F0 m 193 ls []) := by
                    intro ddloop193
                    induction ddloop193 with
                    | zero =>
                      intro kk gb H locs ls hdd
                      exact absurd hdd (Nat.not_lt_zero _)
                    | succ ddloop193 ih193 =>
                      intro kk gb H locs ls hdd hkk hu2 hn2 hcx2 hzz2 hpr2 hV2 hP hD hS hl
                      have hgr : gb r_1.toInt.toNat = f0 r_1.toInt.toNat := hu2 _ (by omega) (by omega)
                      refine lv_iload hx hb dX11_drop_193 (lv_at hl 6 rfl) ?_
                      refine lv_iconst (v := 3) hx hb dX11_drop_195 (by decide) ?_
                      refine lv_aload_n hx hb dX11_drop_196 rfl (lv_at hl 0 rfl) ?_
                      refine va_get (D := D) (ci := 11) (v := .ref (q 0)) (C := RX11) (T := TX11) (N := 47) hx hb hts (by decide +kernel) hown hK.1 hP 0 rfl rfl 1 (by decide) (hts (.fieldLink RX11 8 "JugglingHallModel" "rows" "[I") (by decide +kernel)) (fun _ h9 => h9) rfl dX11_drop_197 ?_
                      refine lv_iload hx hb dX11_drop_200 (lv_at hl 4 rfl) ?_
                      refine a_iald (f := gb) (u := r_1.toInt) hx hb hK.1 hP 1 0 rfl rfl dX11_drop_202 (rfl) (by omega) (fun z_21 q_21 e_21 => ?_)
                      rw [hgr] at e_21
                      refine a_imul (u := 3) (v := z_21.toInt) hx hb dX11_drop_203 (by decide) (rfl) (by omega) (fun z_22 e_22 => ?_)
                      refine a_icmp_ge (u := kk.toInt) (v := (3 * z_21.toInt)) (tgt := 229) hx hb dX11_drop_204 (by decide) (rfl) (e_22) (fun c_23 => ?_) (fun c_23 => ?_)
                      · have hMe : r_15.toInt = 150 * (8 * (x0.toInt + 1) + d9.toInt) := by omega
                        refine lv_aload_n hx hb dX11_drop_229 rfl (lv_at hl 0 rfl) ?_
                        refine lv_aload_n hx hb dX11_drop_230 rfl (lv_at hl 0 rfl) ?_
                        refine va_get (D := D) (ci := 11) (v := .int z_14) (C := RX11) (T := TX11) (N := 47) hx hb hts (by decide +kernel) hown hK.1 hP 0 rfl rfl 3 (by decide) (hts (.fieldLink RX11 185 "JugglingHallModel" "time" "I") (by decide +kernel)) (fun _ h9 => h9) rfl dX11_drop_231 ?_
                        refine mp_1 hx hb hts (by decide +kernel) hown hK hP hD hS (hts (.fieldLink RX11 104 "JugglingHallModel" "looked" "I") (by decide +kernel)) dX11_drop_234 (fun H locs hP hD hS => ?_)
                        refine lv_aload_n hx hb dX11_drop_237 rfl (lv_at hl 0 rfl) ?_
                        refine va_get (D := D) (ci := 11) (v := .int z_14) (C := RX11) (T := TX11) (N := 47) hx hb hts (by decide +kernel) hown hK.1 hP 0 rfl rfl 3 (by decide) (hts (.fieldLink RX11 185 "JugglingHallModel" "time" "I") (by decide +kernel)) (fun _ h9 => h9) rfl dX11_drop_238 ?_
                        exact g_iret (z_14, z_14, z_14, y15_1, y16_1, y17_1, gb, g12_1, g13_1, g14_1, g15_1, g16_1) hx hb hr hlocks hS rfl (⟨show 0 ≤ z_14.toInt ∧ z_14.toInt ≤ 60 from (by first | assumption | omega), show 0 ≤ z_14.toInt ∧ z_14.toInt ≤ z_14.toInt from (by first | assumption | omega), show RowsX jn gb from (rows_put (t := (x0.toInt + 1)) (k := d9.toInt) (n := (f0 r_1.toInt.toNat).toInt) hR (by omega) (by omega) (by rw [← hMe]; exact hu2) (by rw [← hMe]; exact hn2) (by omega) (by rw [← hMe]; exact ⟨fun i9 h8 h9 => by have h6 := hcx2 (i9 - (r_15.toInt + 1)) (by omega) (by omega); rw [show r_15.toInt + 1 + (i9 - (r_15.toInt + 1)) = i9 by omega] at h6; exact h6, fun k9 h8 h9 => hpr2 k9 h8 (by omega)⟩)), show RowsZ jn gb from (rowz_put (t := (x0.toInt + 1)) (k := d9.toInt) (n := (f0 r_1.toInt.toNat).toInt) hR hRZ (by omega) (by omega) (by rw [← hMe]; exact hu2) (by rw [← hMe]; exact hn2) (by rw [← hMe]; exact zx_flat hzz2 (by omega))), show Hd ((z_14.toInt = -1 ∧ z_14 = x0 ∧ z_14 = x1 ∧ gb = f0 ∧ (¬ DrK Ev x0.toInt x1.toInt k.toInt d9.toInt ∨ (DrK Ev x0.toInt x1.toInt k.toInt d9.toInt ∧ ∃ (La : Int → Int) (kq : Int), DrL (Ev x1.toInt k.toInt).2 (Ev x1.toInt k.toInt).1 La kq ∧ ¬ BtM kq c9))) ∨ (z_14.toInt = x0.toInt + 1 ∧ z_14.toInt = x0.toInt + 1 ∧ z_14 = z_14 ∧ DrK Ev x0.toInt x1.toInt k.toInt d9.toInt ∧ ∃ (La : Int → Int) (kq : Int), DrL (Ev x1.toInt k.toInt).2 (Ev x1.toInt k.toInt).1 La kq ∧ BtM kq c9 ∧ RefR gb (x0.toInt + 1) (evp Ev (x0.toInt + 1) (eup (Ev x0.toInt) d9.toInt ((Ev x1.toInt k.toInt).1, drW (Ev x1.toInt k.toInt).2 (Dr La c9)))) ∧ RefZ gb (x0.toInt + 1))) from (Or.inr ⟨by omega, by omega, rfl, ⟨t1_, by omega, by omega, t2_, t5_⟩, La, _, hDL, hBt, by
                          have hMe2 : r_15.toInt = 150 * (8 * (x0.toInt + 1) + d9.toInt) := by omega
                          rw [hMe2] at hu2 hn2
                          rw [t3_]
                          refine ref_drop hEv (by omega) hEO hRf (by omega) hu2 hn2 (by omega) (fun c8 h7 h8 => ?_)
                          rw [← hMe2]
                          have e9 := (hV2 (c8 / 2) (by omega) (by omega)).1 (by omega)
                          rcases (show c8 % 2 = 0 ∨ c8 % 2 = 1 by omega) with q9 | q9
                          · rw [show 2 * (c8 / 2) = c8 by omega] at e9
                            rw [show r_15.toInt + 1 + (6 * (c8 / 2) + c8 % 2) = r_15.toInt + 1 + 6 * (c8 / 2) by omega]; exact e9.1
                          · rw [show 2 * (c8 / 2) + 1 = c8 by omega] at e9
                            rw [show r_15.toInt + 1 + (6 * (c8 / 2) + c8 % 2) = r_15.toInt + 1 + 6 * (c8 / 2) + 1 by omega]; exact e9.2, refz_drop (z := d9.toInt) hRf (by omega) (by omega) (by rw [show 150 * (8 * (x0.toInt + 1) + d9.toInt) = r_15.toInt by omega]; exact hu2)⟩)⟩) hP hD hQ (Nat.le_of_ble_eq_true rfl) (Nat.le_of_ble_eq_true rfl) dX11_drop_241
                      · refine lv_aload_n hx hb dX11_drop_207 rfl (lv_at hl 0 rfl) ?_
                        refine va_get (D := D) (ci := 11) (v := .ref (q 0)) (C := RX11) (T := TX11) (N := 47) hx hb hts (by decide +kernel) hown hK.1 hP 0 rfl rfl 1 (by decide) (hts (.fieldLink RX11 8 "JugglingHallModel" "rows" "[I") (by decide +kernel)) (fun _ h9 => h9) rfl dX11_drop_208 ?_
                        refine lv_iload hx hb dX11_drop_211 (lv_at hl 5 rfl) ?_
                        refine lv_iconst (v := 1) hx hb dX11_drop_213 (by decide) ?_
                        refine a_iadd (u := r_15.toInt) (v := 1) hx hb dX11_drop_214 (rfl) (by decide) (by omega) (fun z_24 e_24 => ?_)
                        refine lv_iconst (v := 2) hx hb dX11_drop_215 (by decide) ?_
                        refine lv_iload hx hb dX11_drop_216 (lv_at hl 6 rfl) ?_
                        refine a_imul (u := 2) (v := kk.toInt) hx hb dX11_drop_218 (by decide) (rfl) (by omega) (fun z_25 e_25 => ?_)
                        refine a_iadd (u := (r_15.toInt + 1)) (v := (2 * kk.toInt)) hx hb dX11_drop_219 (e_24) (e_25) (by omega) (fun z_26 e_26 => ?_)
                        have hxe0 : ((r_15.toInt + 1) + (2 * kk.toInt)) = r_15.toInt + 1 + 2 * kk.toInt := by omega
                        have hxe1 : z_26.toInt = r_15.toInt + 1 + 2 * kk.toInt := by omega
                        have hc0 := hcx2 (2 * kk.toInt) (by omega) (by omega)
                        have hc1 := hcx2 (2 * kk.toInt + 1) (by omega) (by omega)
                        rw [show r_15.toInt + 1 + (2 * kk.toInt + 1) = r_15.toInt + 1 + 2 * kk.toInt + 1 by omega] at hc1
                        have hPc := hP.sub (ws' := [(q 0, .inl (cI, 73200, .inl gb))]) [1] (by with_unfolding_all rfl)
                        have hDc := hD.sub (ws' := [(q 0, .inl (cI, 73200, .inl gb))]) [1] (by decide) (by with_unfolding_all rfl)
                        refine call_g (wr := [(mm, .inr (11, mXF q jn z_14 x1 x2 x3 x4 x5 x6 x7 x8 x9 x10 x11 x12 x13 x14 y15_1 y16_1 y17_1 x18 x19 x20)), (q 1, .inl (cI, 488, .inl f1)), (q 2, .inl (cI, 300, .inl f2)), (q 3, .inl (cI, 2400, .inl f3)), (q 4, .inl (cI, 6, .inl f4)), (q 5, .inl (cI, 6, .inl f5)), (q 6, .inl (cI, 7, .inl f6)), (q 7, .inl (cI, 144, .inl f7)), (q 8, .inl (cI, 8, .inl f8)), (q 9, .inl (cI, 1152, .inl f9)), (q 10, .inl (cI, 8, .inl f10)), (q 11, .inl (cI, 8, .inl f11)), (q 12, .inl (cI, 72, .inl g12_1)), (q 13, .inl (cI, 144, .inl g13_1)), (q 14, .inl (cI, 144, .inl g14_1)), (q 15, .inl (cI, 144, .inl g15_1)), (q 16, .inl (cI, 6, .inl g16_1)), (q 17, .inl (cI, 512, .inl f17)), (q 18, .inl (cI, 512, .inl f18)), (q 19, .inl (cI, 11, .inl f19)), (q 20, .inl (cI, 11, .inl f20)), (q 21, .inl (cI, 300, .inl f21)), (q 22, .inl (cI, 300, .inl f22)), (q 23, .inl (cI, 8, .inl f23)), (q 24, .inl (cI, 8, .inl f24))]) (va_runS (As := [.ref (q 0), .int z_26]) (rest := []) ⟨hx, hb, hml, hown, hts⟩ (k_order2 l D cI cR cM _  (by first | assumption | omega) (by rw [hxe1]; exact ⟨hc0.1, hc0.2.2.2⟩) (by rw [hxe1]; exact ⟨hc1.1, hc1.2.2.2⟩) (by decide)) (va_cwS 2 hts gX11_drop_X11_order rfl rfl rfl (by decide +kernel) ⟨Nat.le_of_ble_eq_true rfl, Nat.le_of_ble_eq_true rfl⟩) (pre_S hK hPc hDc) rfl rfl hl.1 rfl (lv_room (Nat.le_of_ble_eq_true rfl)) dX11_drop_220 ⟨Nat.le_of_ble_eq_true rfl, Nat.le_of_ble_eq_true rfl⟩) hP hD hS hA [1] [0, 2, 3, 4, 5, 6, 7, 8, 9, 10, 11, 12, 13, 14, 15, 16, 17, 18, 19, 20, 21, 22, 23, 24, 25] (by with_unfolding_all rfl) (by with_unfolding_all rfl) (by decide) (by decide) (fun g_27 H locs hw hP hD hS => ?_)
                        have hP : va_P D vwCl (mX mm q jn cI z_14 x1 x2 x3 x4 x5 x6 x7 x8 x9 x10 x11 x12 x13 x14 y15_1 y16_1 y17_1 x18 x19 x20 g_27 f1 f2 f3 f4 f5 f6 f7 f8 f9 f10 f11 g12_1 g13_1 g14_1 g15_1 g16_1 f17 f18 f19 f20 f21 f22 f23 f24) H := hP.sub [0, 25, 1, 2, 3, 4, 5, 6, 7, 8, 9, 10, 11, 12, 13, 14, 15, 16, 17, 18, 19, 20, 21, 22, 23, 24] (by with_unfolding_all rfl)
                        have hD : va_D A (mX mm q jn cI z_14 x1 x2 x3 x4 x5 x6 x7 x8 x9 x10 x11 x12 x13 x14 y15_1 y16_1 y17_1 x18 x19 x20 g_27 f1 f2 f3 f4 f5 f6 f7 f8 f9 f10 f11 g12_1 g13_1 g14_1 g15_1 g16_1 f17 f18 f19 f20 f21 f22 f23 f24) := hD.sub [0, 25, 1, 2, 3, 4, 5, 6, 7, 8, 9, 10, 11, 12, 13, 14, 15, 16, 17, 18, 19, 20, 21, 22, 23, 24] (by decide) (by with_unfolding_all rfl)
                        obtain ⟨hu_27, hs_27, hz_27, hw_27⟩ : (∀ i : Int, 0 ≤ i → i ≠ z_26.toInt → i ≠ z_26.toInt + 1 → g_27 i.toNat = gb i.toNat) ∧ ((g_27 z_26.toInt.toNat = gb z_26.toInt.toNat ∧ g_27 (z_26.toInt + 1).toNat = gb (z_26.toInt + 1).toNat) ∨ (g_27 z_26.toInt.toNat = gb (z_26.toInt + 1).toNat ∧ g_27 (z_26.toInt + 1).toNat = gb z_26.toInt.toNat)) ∧ ((g_27 z_26.toInt.toNat).toInt = 0 → (g_27 (z_26.toInt + 1).toNat).toInt = 0) ∧ ((¬ ((gb (z_26.toInt + 1).toNat).toInt / 4 > (gb z_26.toInt.toNat).toInt / 4 ∨ ((gb (z_26.toInt + 1).toNat).toInt / 4 = (gb z_26.toInt.toNat).toInt / 4 ∧ (gb (z_26.toInt + 1).toNat).toInt % 4 < (gb z_26.toInt.toNat).toInt % 4)) ∧ g_27 z_26.toInt.toNat = gb z_26.toInt.toNat ∧ g_27 (z_26.toInt + 1).toNat = gb (z_26.toInt + 1).toNat) ∨ (((gb (z_26.toInt + 1).toNat).toInt / 4 > (gb z_26.toInt.toNat).toInt / 4 ∨ ((gb (z_26.toInt + 1).toNat).toInt / 4 = (gb z_26.toInt.toNat).toInt / 4 ∧ (gb (z_26.toInt + 1).toNat).toInt % 4 < (gb z_26.toInt.toNat).toInt % 4)) ∧ g_27 z_26.toInt.toNat = gb (z_26.toInt + 1).toNat ∧ g_27 (z_26.toInt + 1).toNat = gb z_26.toInt.toNat)) := hw
                        rw [hxe1] at hw_27
                        rw [hxe1] at hu_27 hs_27 hz_27
                        have hp1 : CellX jn (g_27 (r_15.toInt + 1 + 2 * kk.toInt).toNat) := by
                          rcases hs_27 with q | q
                          · rw [q.1]; exact hc0
                          · rw [q.1]; exact hc1
                        have hp2 : CellX jn (g_27 (r_15.toInt + 1 + 2 * kk.toInt + 1).toNat) := by
                          rcases hs_27 with q | q
                          · rw [q.2]; exact hc1
                          · rw [q.2]; exact hc0
                        have hcx3 : ∀ i9 : Int, 0 ≤ i9 → i9 < 6 * (f0 r_1.toInt.toNat).toInt → CellX jn (g_27 (r_15.toInt + 1 + i9).toNat) := fun i9 h8 h9 => by
                          by_cases q1 : i9 = 2 * kk.toInt
                          · rw [q1]; exact hp1
                          · by_cases q2 : i9 = 2 * kk.toInt + 1
                            · rw [q2, show r_15.toInt + 1 + (2 * kk.toInt + 1) = r_15.toInt + 1 + 2 * kk.toInt + 1 by omega]; exact hp2
                            · rw [hu_27 _ (by omega) (by omega) (by omega)]; exact hcx2 i9 h8 h9
                        have hzz3 : ∀ i9 : Int, 0 ≤ i9 → i9 < 6 * (f0 r_1.toInt.toNat).toInt → 2 * (jn : Int) ≤ i9 % 6 → (g_27 (r_15.toInt + 1 + i9).toNat).toInt = 0 := fun i9 h7 h8 h9 => by
                          by_cases q1 : i9 = 2 * kk.toInt
                          · have e1 := hzz2 (2 * kk.toInt) (by omega) (by omega) (by omega)
                            have e2 := hzz2 (2 * kk.toInt + 1) (by omega) (by omega) (by omega)
                            rw [show r_15.toInt + 1 + (2 * kk.toInt + 1) = r_15.toInt + 1 + 2 * kk.toInt + 1 by omega] at e2
                            rw [q1]
                            rcases hs_27 with q | q
                            · rw [q.1]; exact e1
                            · rw [q.1]; exact e2
                          · by_cases q2 : i9 = 2 * kk.toInt + 1
                            · have e1 := hzz2 (2 * kk.toInt) (by omega) (by omega) (by omega)
                              have e2 := hzz2 (2 * kk.toInt + 1) (by omega) (by omega) (by omega)
                              rw [show r_15.toInt + 1 + (2 * kk.toInt + 1) = r_15.toInt + 1 + 2 * kk.toInt + 1 by omega] at e2
                              rw [q2, show r_15.toInt + 1 + (2 * kk.toInt + 1) = r_15.toInt + 1 + 2 * kk.toInt + 1 by omega]
                              rcases hs_27 with q | q
                              · rw [q.2]; exact e2
                              · rw [q.2]; exact e1
                            · rw [hu_27 _ (by omega) (by omega) (by omega)]; exact hzz2 i9 h7 h8 h9
                        have hpr3 : ∀ k9 : Int, 0 ≤ k9 → k9 < (kk.toInt + 1) → (g_27 (r_15.toInt + 1 + 2 * k9).toNat).toInt = 0 → (g_27 (r_15.toInt + 1 + 2 * k9 + 1).toNat).toInt = 0 := fun k9 h7 h8 h9 => by
                          by_cases q1 : k9 = kk.toInt
                          · rw [q1] at h9 ⊢; exact hz_27 h9
                          · rw [hu_27 _ (by omega) (by omega) (by omega)] at h9 ⊢; exact hpr2 k9 h7 (by omega) h9
                        have hV3 : ∀ b8 : Int, 0 ≤ b8 → b8 < (f0 r_1.toInt.toNat).toInt → (3 * b8 < (kk.toInt + 1) → (g_27 (r_15.toInt + 1 + 6 * b8).toNat).toInt = 4 * drW (Ev x1.toInt k.toInt).2 (Dr La c9) (2 * b8) ∧ (g_27 (r_15.toInt + 1 + 6 * b8 + 1).toNat).toInt = 4 * drW (Ev x1.toInt k.toInt).2 (Dr La c9) (2 * b8 + 1)) ∧ ((kk.toInt + 1) ≤ 3 * b8 → (g_27 (r_15.toInt + 1 + 6 * b8).toNat).toInt = 4 * drV (Ev x1.toInt k.toInt).2 (Dr La c9) (2 * b8) ∧ (g_27 (r_15.toInt + 1 + 6 * b8 + 1).toNat).toInt = 4 * drV (Ev x1.toInt k.toInt).2 (Dr La c9) (2 * b8 + 1)) := fun b8 h7 h8 => by
                          by_cases q1 : 3 * b8 = kk.toInt
                          · refine ⟨fun _ => ?_, fun h9 => absurd h9 (by omega)⟩
                            obtain ⟨e0, e1⟩ := (hV2 b8 h7 h8).2 (by omega)
                            have pp := dr_p (D := Dr La c9) (hsr b8 h7 h8)
                            rw [show r_15.toInt + 1 + 2 * kk.toInt = r_15.toInt + 1 + 6 * b8 by omega] at hw_27
                            rw [e0, e1] at hw_27
                            rcases hw_27 with ⟨s1, s2, s3⟩ | ⟨s1, s2, s3⟩
                            · rw [s2, s3, e0, e1, (pp.2 (by omega)).1, (pp.2 (by omega)).2]; exact ⟨rfl, rfl⟩
                            · rw [s2, s3, e0, e1, (pp.1 (by omega)).1, (pp.1 (by omega)).2]; exact ⟨rfl, rfl⟩
                          · rw [hu_27 _ (by omega) (by omega) (by omega), hu_27 _ (by omega) (by omega) (by omega)]
                            exact ⟨fun h9 => (hV2 b8 h7 h8).1 (by omega), fun h9 => (hV2 b8 h7 h8).2 (by omega)⟩
                        obtain ⟨z_28, q_28, e_28⟩ := i_inc (a := kk.toInt) (1) (rfl) (by decide) (by omega) (by omega)
                        refine lv_iinc (v := z_28) (lv' := [(6, .int z_28), (0, .ref mm), (1, .int k), (2, .int c9), (3, .int d9), (4, .int r_1), (5, .int r_15)]) hx hb dX11_drop_223 hl (k := 6) rfl q_28 (by decide) rfl (fun ls hl => ?_)
                        refine lv_goto (tgt := 193) hx hb dX11_drop_226 (by decide) ?_
                        exact ih193 z_28 g_27 _ _ _ (by omega) (by first | assumption | omega) (fun i9 h8 h9 => by rw [hu_27 i9 h8 (by omega) (by omega)]; exact hu2 i9 h8 h9) (by rw [hu_27 _ (by omega) (by omega) (by omega)]; exact hn2) (hcx3) (hzz3) (fun k9 h7 h8 h9 => hpr3 k9 h7 (by omega) h9) (fun b8 h7 h8 => by rw [show z_28.toInt = kk.toInt + 1 by omega]; exact hV3 b8 h7 h8) hP hD hS (lv_sub hl [1, 2, 3, 4, 5, 6, 0] rfl)
                  have hz_29 : (0 : Int32).toInt = 0 := by decide
                  exact loop193 ((3 * (f0 r_1.toInt.toNat).toInt - (0 : Int32).toInt).toNat + 1) (0 : Int32) ga _ _ _ (by omega) (by first | assumption | omega) (hu) (hn) (fun i9 h8 h9 => hcx i9 h8 (by omega)) (fun i9 h7 h8 h9 => hzz i9 h7 (by omega) h9) (fun k9 h7 h8 h9 => absurd h8 (by omega)) (fun b8 h7 h8 => ⟨fun h9 => absurd h9 (by omega), fun _ => by
                    have e0 := hV (2 * b8) (by omega) (by omega) (by omega)
                    have e1 := hV (2 * b8 + 1) (by omega) (by omega) (by omega)
                    rw [show r_15.toInt + 1 + (6 * ((2 * b8) / 2) + (2 * b8) % 2) = r_15.toInt + 1 + 6 * b8 by omega] at e0
                    rw [show r_15.toInt + 1 + (6 * ((2 * b8 + 1) / 2) + (2 * b8 + 1) % 2) = r_15.toInt + 1 + 6 * b8 + 1 by omega] at e1
                    exact ⟨e0, e1⟩⟩) hP hD hS (lv_sub hl [1, 2, 3, 4, 5, 6, 0] rfl)
                · have join30 : ∀ (dq : Int32) (H : Heap) (locs : List Loc) (ls : Array Slot), (Hd ((dq.toInt = 1 ∧ DqR g15_1 c9 t.toInt) ∨ (dq.toInt = 0 ∧ ¬ DqR g15_1 c9 t.toInt))) → va_P D vwCl (mX mm q jn cI z_14 x1 x2 x3 x4 x5 x6 x7 x8 x9 x10 x11 x12 x13 x14 y15_1 y16_1 y17_1 x18 x19 x20 ga f1 f2 f3 f4 f5 f6 f7 f8 f9 f10 f11 g12_1 g13_1 g14_1 g15_1 g16_1 f17 f18 f19 f20 f21 f22 f23 f24) H → va_D A (mX mm q jn cI z_14 x1 x2 x3 x4 x5 x6 x7 x8 x9 x10 x11 x12 x13 x14 y15_1 y16_1 y17_1 x18 x19 x20 ga f1 f2 f3 f4 f5 f6 f7 f8 f9 f10 f11 g12_1 g13_1 g14_1 g15_1 g16_1 f17 f18 f19 f20 f21 f22 f23 f24) → va_S A s.heap H locs → lv_has ls 8 [(0, .ref mm), (1, .int k), (2, .int c9), (3, .int d9), (4, .int r_1), (5, .int r_15), (6, .int t), (7, .int dq)] → W p l e ({ frames := 5, cells := 0, slots := 0, locals := 124 }) s m args below meth c H locs 0 0 Q (F0 m 151 ls []) := by
                    intro dq H locs ls hdq hP hD hS hl
                    refine lv_aload_n hx hb dX11_drop_151 rfl (lv_at hl 0 rfl) ?_
                    refine va_get (D := D) (ci := 11) (v := .ref (q 0)) (C := RX11) (T := TX11) (N := 47) hx hb hts (by decide +kernel) hown hK.1 hP 0 rfl rfl 1 (by decide) (hts (.fieldLink RX11 8 "JugglingHallModel" "rows" "[I") (by decide +kernel)) (fun _ h9 => h9) rfl dX11_drop_152 ?_
                    refine lv_iload hx hb dX11_drop_155 (lv_at hl 5 rfl) ?_
                    refine lv_iconst (v := 1) hx hb dX11_drop_157 (by decide) ?_
                    refine a_iadd (u := r_15.toInt) (v := 1) hx hb dX11_drop_158 (rfl) (by decide) (by omega) (fun z_31 e_31 => ?_)
                    refine lv_iload hx hb dX11_drop_159 (lv_at hl 6 rfl) ?_
                    refine a_iadd (u := (r_15.toInt + 1)) (v := t.toInt) hx hb dX11_drop_161 (e_31) (rfl) (by omega) (fun z_32 e_32 => ?_)
                    refine lv_iload hx hb dX11_drop_162 (lv_at hl 7 rfl) ?_
                    refine a_if_eq (u := dq.toInt) (tgt := 171) hx hb dX11_drop_164 (by decide) (rfl) (fun c_33 => ?_) (fun c_33 => ?_)
                    · refine lv_aload_n hx hb dX11_drop_171 rfl (lv_at hl 0 rfl) ?_
                      refine va_get (D := D) (ci := 11) (v := .ref (q 0)) (C := RX11) (T := TX11) (N := 47) hx hb hts (by decide +kernel) hown hK.1 hP 0 rfl rfl 1 (by decide) (hts (.fieldLink RX11 8 "JugglingHallModel" "rows" "[I") (by decide +kernel)) (fun _ h9 => h9) rfl dX11_drop_172 ?_
                      refine lv_iload hx hb dX11_drop_175 (lv_at hl 4 rfl) ?_
                      refine lv_iconst (v := 1) hx hb dX11_drop_177 (by decide) ?_
                      refine a_iadd (u := r_1.toInt) (v := 1) hx hb dX11_drop_178 (rfl) (by decide) (by omega) (fun z_34 e_34 => ?_)
                      refine lv_iload hx hb dX11_drop_179 (lv_at hl 6 rfl) ?_
                      refine a_iadd (u := (r_1.toInt + 1)) (v := t.toInt) hx hb dX11_drop_181 (e_34) (rfl) (by omega) (fun z_35 e_35 => ?_)
                      refine a_iald (f := ga) (u := ((r_1.toInt + 1) + t.toInt)) hx hb hK.1 hP 1 0 rfl rfl dX11_drop_182 (e_35) (by omega) (fun z_36 q_36 e_36 => ?_)
                      have hcq : z_36 = f0 (r_1.toInt + 1 + t.toInt).toNat := by rw [q_36, show ((r_1.toInt + 1) + t.toInt) = r_1.toInt + 1 + t.toInt by omega]; exact hu _ (by omega) (by omega)
                      have hcell : CellX jn z_36 := by rw [hcq]; exact hr6.1 _ (by omega) (by omega)
                      have hcellz : 2 * (jn : Int) ≤ t.toInt % 6 → z_36.toInt = 0 := fun q => by
                        have h9 := hZ9 (t.toInt / 6) (t.toInt % 6) (by omega) (by omega) q (by omega)
                        rw [show r_1.toInt + 1 + 6 * (t.toInt / 6) + t.toInt % 6 = r_1.toInt + 1 + t.toInt by omega] at h9
                        rw [hcq]; exact h9
                      refine ma_0 (u := ((r_15.toInt + 1) + t.toInt)) hx hb hK hP hD hS dX11_drop_183 (e_32) (by omega) (fun g_37 H locs eg_37 hP hD hS => ?_)
                      obtain ⟨z_38, q_38, e_38⟩ := i_inc (a := t.toInt) (1) (rfl) (by decide) (by omega) (by omega)
                      refine lv_iinc (v := z_38) (lv' := [(6, .int z_38), (0, .ref mm), (1, .int k), (2, .int c9), (3, .int d9), (4, .int r_1), (5, .int r_15), (7, .int dq)]) hx hb dX11_drop_184 hl (k := 6) rfl q_38 (by decide) rfl (fun ls hl => ?_)
                      refine lv_goto (tgt := 92) hx hb dX11_drop_187 (by decide) ?_
                      exact ih92 z_38 g_37 _ _ _ (by omega) (by first | assumption | omega) (fun i9 h8 h9 => by rw [eg_37, un_i h8 (by omega) (by omega)]; exact hu i9 h8 h9) (by rw [eg_37, un_i (by omega) (by omega) (by omega)]; exact hn) (fun i9 h8 h9 => by
                        by_cases q : i9 = t.toInt
                        · rw [eg_37, q, show r_15.toInt + 1 + t.toInt = ((r_15.toInt + 1) + t.toInt) by omega, pk_us]; exact hcell
                        · rw [eg_37, un_i (by omega) (by omega) (by omega)]; exact hcx i9 h8 (by omega)) (fun i9 h7 h8 h9 => by
                        by_cases q : i9 = t.toInt
                        · rw [eg_37, q, show r_15.toInt + 1 + t.toInt = ((r_15.toInt + 1) + t.toInt) by omega, pk_us]; exact hcellz (by omega)
                        · rw [eg_37, un_i (by omega) (by omega) (by omega)]; exact hzz i9 h7 (by omega) h9) (fun c8 h7 h8 h9 => by
                        by_cases q9 : (6 * (c8 / 2) + c8 % 2) = t.toInt
                        · rw [eg_37, show r_15.toInt + 1 + (6 * (c8 / 2) + c8 % 2) = ((r_15.toInt + 1) + t.toInt) by omega, pk_us]
                          have hD := (DqR_D (y := c9) q9.symm (yL c8 h7 h8))
                          rw [drV_n (fun h6 => (hdq.resolve_left (fun h5 => by have h4 := h5.1; omega)).2 (hD.mpr h6)), hcq, ← q9]; exact t4_ c8 h7 h8
                        · rw [eg_37, un_i (by omega) (by omega) (by omega)]; exact hV c8 h7 h8 (by omega)) hP hD hS (lv_sub hl [1, 2, 3, 4, 5, 6, 0] rfl)
                    · refine lv_iconst (v := 0) hx hb dX11_drop_167 (by decide) ?_
                      refine lv_goto (tgt := 183) hx hb dX11_drop_168 (by decide) ?_
                      refine ma_0 (u := ((r_15.toInt + 1) + t.toInt)) hx hb hK hP hD hS dX11_drop_183 (e_32) (by omega) (fun g_39 H locs eg_39 hP hD hS => ?_)
                      obtain ⟨z_40, q_40, e_40⟩ := i_inc (a := t.toInt) (1) (rfl) (by decide) (by omega) (by omega)
                      refine lv_iinc (v := z_40) (lv' := [(6, .int z_40), (0, .ref mm), (1, .int k), (2, .int c9), (3, .int d9), (4, .int r_1), (5, .int r_15), (7, .int dq)]) hx hb dX11_drop_184 hl (k := 6) rfl q_40 (by decide) rfl (fun ls hl => ?_)
                      refine lv_goto (tgt := 92) hx hb dX11_drop_187 (by decide) ?_
                      exact ih92 z_40 g_39 _ _ _ (by omega) (by first | assumption | omega) (fun i9 h8 h9 => by rw [eg_39, un_i h8 (by omega) (by omega)]; exact hu i9 h8 h9) (by rw [eg_39, un_i (by omega) (by omega) (by omega)]; exact hn) (fun i9 h8 h9 => by
                        by_cases q : i9 = t.toInt
                        · rw [eg_39, q, show r_15.toInt + 1 + t.toInt = ((r_15.toInt + 1) + t.toInt) by omega, pk_us]; exact cx_0 hj.1 (by decide)
                        · rw [eg_39, un_i (by omega) (by omega) (by omega)]; exact hcx i9 h8 (by omega)) (fun i9 h7 h8 h9 => by
                        by_cases q : i9 = t.toInt
                        · rw [eg_39, q, show r_15.toInt + 1 + t.toInt = ((r_15.toInt + 1) + t.toInt) by omega, pk_us]; decide
                        · rw [eg_39, un_i (by omega) (by omega) (by omega)]; exact hzz i9 h7 (by omega) h9) (fun c8 h7 h8 h9 => by
                        by_cases q9 : (6 * (c8 / 2) + c8 % 2) = t.toInt
                        · rw [eg_39, show r_15.toInt + 1 + (6 * (c8 / 2) + c8 % 2) = ((r_15.toInt + 1) + t.toInt) by omega, pk_us]
                          have hD := (DqR_D (y := c9) q9.symm (yL c8 h7 h8))
                          rw [drV_y (hD.mp (hdq.resolve_right (fun h6 => by have h5 := h6.1; omega)).2)]; decide
                        · rw [eg_39, un_i (by omega) (by omega) (by omega)]; exact hV c8 h7 h8 (by omega)) hP hD hS (lv_sub hl [1, 2, 3, 4, 5, 6, 0] rfl)
                  refine lv_aload_n hx hb dX11_drop_107 rfl (lv_at hl 0 rfl) ?_
                  refine va_get (D := D) (ci := 11) (v := .ref (q 15)) (C := RX11) (T := TX11) (N := 47) hx hb hts (by decide +kernel) hown hK.1 hP 0 rfl rfl 33 (by decide) (hts (.fieldLink RX11 63 "JugglingHallModel" "cycleAt" "[I") (by decide +kernel)) (fun _ h9 => h9) rfl dX11_drop_108 ?_
                  refine lv_iload hx hb dX11_drop_111 (lv_at hl 6 rfl) ?_
                  refine a_iald (f := g15_1) (u := t.toInt) hx hb hK.1 hP 16 0 rfl rfl dX11_drop_113 (rfl) (by omega) (fun z_41 q_41 e_41 => ?_)
                  refine a_if_lt (u := z_41.toInt) (tgt := 148) hx hb dX11_drop_114 (by decide) (rfl) (fun c_42 => ?_) (fun c_42 => ?_)
                  · refine lv_iconst (v := 0) hx hb dX11_drop_148 (by decide) ?_
                    refine lv_istore (lv' := [(7, .int 0), (0, .ref mm), (1, .int k), (2, .int c9), (3, .int d9), (4, .int r_1), (5, .int r_15), (6, .int t)]) hx hb dX11_drop_149 hl (by decide) rfl (fun ls hl => ?_)
                    have hz_43 : (0 : Int32).toInt = 0 := by decide
                    exact join30 (0 : Int32) _ _ _ (Or.inr ⟨by decide, fun h6 => by have h5 := h6.1; rw [← q_41] at h5; omega⟩) hP hD hS (lv_sub hl [1, 2, 3, 4, 5, 6, 7, 0] rfl)
                  · refine lv_aload_n hx hb dX11_drop_117 rfl (lv_at hl 0 rfl) ?_
                    refine va_get (D := D) (ci := 11) (v := .ref (q 15)) (C := RX11) (T := TX11) (N := 47) hx hb hts (by decide +kernel) hown hK.1 hP 0 rfl rfl 33 (by decide) (hts (.fieldLink RX11 63 "JugglingHallModel" "cycleAt" "[I") (by decide +kernel)) (fun _ h9 => h9) rfl dX11_drop_118 ?_
                    refine lv_iload hx hb dX11_drop_121 (lv_at hl 6 rfl) ?_
                    refine a_iald (f := g15_1) (u := t.toInt) hx hb hK.1 hP 16 0 rfl rfl dX11_drop_123 (rfl) (by omega) (fun z_44 q_44 e_44 => ?_)
                    refine lv_bipush (v := 31) hx hb dX11_drop_124 (by decide) ?_
                    refine a_icmp_ge (u := z_44.toInt) (v := 31) (tgt := 148) hx hb dX11_drop_126 (by decide) (rfl) (by decide) (fun c_45 => ?_) (fun c_45 => ?_)
                    · refine lv_iconst (v := 0) hx hb dX11_drop_148 (by decide) ?_
                      refine lv_istore (lv' := [(7, .int 0), (0, .ref mm), (1, .int k), (2, .int c9), (3, .int d9), (4, .int r_1), (5, .int r_15), (6, .int t)]) hx hb dX11_drop_149 hl (by decide) rfl (fun ls hl => ?_)
                      have hz_46 : (0 : Int32).toInt = 0 := by decide
                      exact join30 (0 : Int32) _ _ _ (Or.inr ⟨by decide, fun h6 => by have h5 := h6.2.1; rw [← q_44] at h5; omega⟩) hP hD hS (lv_sub hl [1, 2, 3, 4, 5, 6, 7, 0] rfl)
                    · refine lv_iload_n hx hb dX11_drop_129 rfl (lv_at hl 2 rfl) ?_
                      refine lv_aload_n hx hb dX11_drop_130 rfl (lv_at hl 0 rfl) ?_
                      refine va_get (D := D) (ci := 11) (v := .ref (q 15)) (C := RX11) (T := TX11) (N := 47) hx hb hts (by decide +kernel) hown hK.1 hP 0 rfl rfl 33 (by decide) (hts (.fieldLink RX11 63 "JugglingHallModel" "cycleAt" "[I") (by decide +kernel)) (fun _ h9 => h9) rfl dX11_drop_131 ?_
                      refine lv_iload hx hb dX11_drop_134 (lv_at hl 6 rfl) ?_
                      refine a_iald (f := g15_1) (u := t.toInt) hx hb hK.1 hP 16 0 rfl rfl dX11_drop_136 (rfl) (by omega) (fun z_47 q_47 e_47 => ?_)
                      refine lv_ishr hx hb dX11_drop_137 ?_
                      refine lv_topi (fun z_48 q_48 => ?_)
                      refine lv_iconst (v := 1) hx hb dX11_drop_138 (by decide) ?_
                      refine lv_iand hx hb dX11_drop_139 ?_
                      refine lv_topi (fun z_49 q_49 => ?_)
                      refine lv_iconst (v := 1) hx hb dX11_drop_140 (by decide) ?_
                      refine a_icmp_ne (u := z_49.toInt) (v := 1) (tgt := 148) hx hb dX11_drop_141 (by decide) (rfl) (by decide) (fun c_50 => ?_) (fun c_50 => ?_)
                      · refine lv_iconst (v := 0) hx hb dX11_drop_148 (by decide) ?_
                        refine lv_istore (lv' := [(7, .int 0), (0, .ref mm), (1, .int k), (2, .int c9), (3, .int d9), (4, .int r_1), (5, .int r_15), (6, .int t)]) hx hb dX11_drop_149 hl (by decide) rfl (fun ls hl => ?_)
                        have hz_51 : (0 : Int32).toInt = 0 := by decide
                        exact join30 (0 : Int32) _ _ _ (Or.inr ⟨by decide, fun h6 => by have h5 := h6.2.2; rw [← q_47, ← q_48, ← q_49] at h5; omega⟩) hP hD hS (lv_sub hl [1, 2, 3, 4, 5, 6, 7, 0] rfl)
                      · refine lv_iconst (v := 1) hx hb dX11_drop_144 (by decide) ?_
                        refine lv_goto (tgt := 149) hx hb dX11_drop_145 (by decide) ?_
                        refine lv_istore (lv' := [(7, .int 1), (0, .ref mm), (1, .int k), (2, .int c9), (3, .int d9), (4, .int r_1), (5, .int r_15), (6, .int t)]) hx hb dX11_drop_149 hl (by decide) rfl (fun ls hl => ?_)
                        have hz_52 : (1 : Int32).toInt = 1 := by decide
                        exact join30 (1 : Int32) _ _ _ (Or.inl ⟨by decide, by rw [← q_41]; omega, by rw [← q_44]; omega, by rw [← q_47, ← q_48, ← q_49]; omega⟩) hP hD hS (lv_sub hl [1, 2, 3, 4, 5, 6, 7, 0] rfl)
            have hz_53 : (0 : Int32).toInt = 0 := by decide
            exact loop92 ((6 * (f0 r_1.toInt.toNat).toInt - (0 : Int32).toInt).toNat + 1) (0 : Int32) g_17 _ _ _ (by omega) (by first | assumption | omega) (hu0) (hn0) (fun i9 h8 h9 => absurd h9 (by omega)) (fun i9 h8 h9 => absurd h9 (by omega)) (fun c8 h7 h8 h9 => absurd h9 (by omega)) hP hD hS (lv_sub hl [2, 3, 4, 5, 6, 1, 0] rfl)
          refine lv_aload_n hx hb dX11_drop_35 rfl (lv_at hl 1 rfl) ?_
          refine va_get (D := D) (ci := 11) (v := .int y17_1) (C := RX11) (T := TX11) (N := 47) hx hb hts (by decide +kernel) hown hK.1 hP 0 rfl rfl 35 (by decide) (hts (.fieldLink RX11 268 "JugglingHallModel" "cycleCount" "I") (by decide +kernel)) (fun _ h9 => h9) rfl dX11_drop_36 ?_
          refine lv_bipush (v := 31) hx hb dX11_drop_39 (by decide) ?_
          refine a_icmp_ge (u := y17_1.toInt) (v := 31) (tgt := 55) hx hb dX11_drop_41 (by decide) (rfl) (by decide) (fun c_54 => ?_) (fun c_54 => ?_)
          · exact join13  _ _ _ (⟨by omega, fun s9 h8 h9 => absurd h9 (by omega)⟩) hP hD hS (lv_sub hl [1, 2, 3, 4, 0] rfl)
          · refine lv_iload_n hx hb dX11_drop_44 rfl (lv_at hl 3 rfl) ?_
            refine lv_aload_n hx hb dX11_drop_45 rfl (lv_at hl 1 rfl) ?_
            refine va_get (D := D) (ci := 11) (v := .int y17_1) (C := RX11) (T := TX11) (N := 47) hx hb hts (by decide +kernel) hown hK.1 hP 0 rfl rfl 35 (by decide) (hts (.fieldLink RX11 268 "JugglingHallModel" "cycleCount" "I") (by decide +kernel)) (fun _ h9 => h9) rfl dX11_drop_46 ?_
            refine lv_ishr hx hb dX11_drop_49 ?_
            refine lv_topi (fun z_55 q_55 => ?_)
            refine a_if_eq (u := z_55.toInt) (tgt := 55) hx hb dX11_drop_50 (by decide) (rfl) (fun c_56 => ?_) (fun c_56 => ?_)
            · exact join13  _ _ _ (⟨by omega, fun s9 h8 h9 => by rw [show s9 = y17_1 from Int32.toInt_inj.mp h8, ← q_55]; omega⟩) hP hD hS (lv_sub hl [1, 2, 3, 4, 0] rfl)
            · refine lv_iconst (v := (-1)) hx hb dX11_drop_53 (by decide) ?_
              have hz_57 : (-1 : Int32).toInt = (-1) := by decide
              exact g_iret ((-1 : Int32), x0, x1, y15_1, y16_1, y17_1, f0, g12_1, g13_1, g14_1, g15_1, g16_1) hx hb hr hlocks hS rfl (⟨show 0 ≤ x0.toInt ∧ x0.toInt ≤ 60 from (by first | assumption | omega), show 0 ≤ x1.toInt ∧ x1.toInt ≤ x0.toInt from (by first | assumption | omega), show RowsX jn f0 from (hR), show RowsZ jn f0 from (hRZ), show Hd (((-1 : Int32).toInt = -1 ∧ x0 = x0 ∧ x1 = x1 ∧ f0 = f0 ∧ (¬ DrK Ev x0.toInt x1.toInt k.toInt d9.toInt ∨ (DrK Ev x0.toInt x1.toInt k.toInt d9.toInt ∧ ∃ (La : Int → Int) (kq : Int), DrL (Ev x1.toInt k.toInt).2 (Ev x1.toInt k.toInt).1 La kq ∧ ¬ BtM kq c9))) ∨ ((-1 : Int32).toInt = x0.toInt + 1 ∧ x0.toInt = x0.toInt + 1 ∧ x1 = x0 ∧ DrK Ev x0.toInt x1.toInt k.toInt d9.toInt ∧ ∃ (La : Int → Int) (kq : Int), DrL (Ev x1.toInt k.toInt).2 (Ev x1.toInt k.toInt).1 La kq ∧ BtM kq c9 ∧ RefR f0 (x0.toInt + 1) (evp Ev (x0.toInt + 1) (eup (Ev x0.toInt) d9.toInt ((Ev x1.toInt k.toInt).1, drW (Ev x1.toInt k.toInt).2 (Dr La c9)))) ∧ RefZ f0 (x0.toInt + 1))) from (Or.inl ⟨by decide, rfl, rfl, rfl, Or.inr ⟨⟨t1_, by omega, by omega, t2_, t5_⟩, La, _, hDL, fun q9 => by have h8 := q9.2 y17_1 rfl (by omega); rw [← q_55] at h8; omega⟩⟩)⟩) hP hD hQ (Nat.le_of_ble_eq_true rfl) (Nat.le_of_ble_eq_true rfl) dX11_drop_54
