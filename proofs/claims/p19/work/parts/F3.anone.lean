set_option maxRecDepth 100000 in
set_option maxHeartbeats 4000000 in
theorem t_X10_addN (l : Launch) (D : va_G) (cI cR cM : ClassId) (sz : Nat) {jn : Nat} {g : Nat → Nat} {L : List Nat} {S : Sg} {f : Nat → va_E} {x y : Int32}  (hj : 1 ≤ jn ∧ jn ≤ 3) (hG : SG g L S) (hI : IN jn cI cR cM g L S f) (hj2 : jn ≠ 1) : Met l yX10_add wsX10_add ({ frames := 2, cells := 0, slots := 0, locals := 43 }) (P0 D cI cR cM [.ref (g 10), .int x, .int y] sz (va_pl L f)) (QG (S := Int32 × (Nat → va_E)) (fun u => some (.int u.1)) (fun u => va_pl L u.2) (fun u => IN jn cI cR cM g L S u.2 ∧ FR S [35] f u.2 ∧ (u.1.toInt = -1)) D (va_A (va_pl L f) sz)) 0 0 (va_A (va_pl L f) sz) := by
  refine go (cc := cX10_add) (maxL := 7) (ret := (some .int)) (by decide +kernel) rfl (Nat.le_of_ble_eq_true rfl) ?_
  intro p e s m below meth c ls args Q hQ hsz hx hb hr hml hts hown hlocks hnm hP hK hD hl
  subst hsz
  have hD := hD.self (sz := s.heap.size)
  generalize hAe : va_A (va_pl L f) s.heap.size = A at hD hQ
  have hA : ∀ q, s.heap.size ≤ q → A q := fun q h => by rw [← hAe]; exact Or.inr h
  have hS : va_S A s.heap s.heap [] := va_S.rf
  have hF : FR S [35] f f := FR_rf
  have hl : lv_has ls 7 [(0, .ref (g 10)), (1, .int x), (2, .int y)] := hl
  refine lv_aload_n hx hb dX10_add_0 rfl (lv_at hl 0 rfl) ?_
  have fg_1 := op_10 hI (gm_10 hG) (gs_10 hG)
  refine t_get (D := D) (L := L) (f := f) (ci := 10) (v := .ref (g 12)) (C := RX10) (T := TX10) (N := 8) hx hb hts (by decide +kernel) hown hK.1 hP (gm_10 hG) fg_1 rfl 2 (by decide) (hts (.fieldLink RX10 32 "JugglingHall" "book" "LJugglingHall$Book;") (by decide +kernel)) (fun _ h9 => h9) rfl dX10_add_1 ?_
  refine lv_iload_n hx hb dX10_add_4 rfl (lv_at hl 1 rfl) ?_
  obtain ⟨tm_2, lk_2, fg_2, iv0_2, iv1_2, iv2_2⟩ := op_12 hI (gm_12 hG) (gs_12 hG)
  refine roR (va_runV (As := [.int x]) (rest := []) ⟨hx, hb, hml, hown, hts⟩ (t_X0_rowSeen l D cI cR cM _   hj hG hI  ) (cwV 1 hts gX10_add_X0_rowSeen rfl rfl rfl (by decide +kernel) ⟨Nat.le_of_ble_eq_true rfl, Nat.le_of_ble_eq_true rfl⟩) (pre_T hK hP hD (gm_12 hG) fg_2 rfl) rfl rfl hl.1 rfl (lv_room (Nat.le_of_ble_eq_true rfl)) dX10_add_5 ⟨Nat.le_of_ble_eq_true rfl, Nat.le_of_ble_eq_true rfl⟩) hS hA hP (fun w_3 H locs hw hP hS => ?_)
  have ho_3 : (∀ z, w_3 = some z → ∃ p n, isRow L S z p n) := hw
  rcases x_opt w_3 with e_4 | ⟨r_4, e_4⟩
  · subst e_4
    refine W.eq (g2 := F0 m 8 ls [.null]) rfl ?_
    have hl : lv_has ls 7 [(0, .ref (g 10)), (1, .int x), (2, .int y)] := hl
    refine lv_astore_nN (lv' := [(3, .null), (0, .ref (g 10)), (1, .int x), (2, .int y)]) hx hb dX10_add_8 rfl hl (by decide) rfl (fun ls hl => ?_)
    refine lv_aload_n hx hb dX10_add_9 rfl (lv_at hl 1 rfl) ?_
    refine lv_aload_nN hx hb dX10_add_10 rfl (lv_at hl 0 rfl) ?_
    refine roP (va_runV (As := [.null]) (rest := []) ⟨hx, hb, hml, hown, hts⟩ (t_X10_isPlainAndGood_null l D cI cR cM _   hj hG hI  ) (cwV 1 hts gX10_add_X10_isPlainAndGood rfl rfl rfl (by decide +kernel) ⟨Nat.le_of_ble_eq_true rfl, Nat.le_of_ble_eq_true rfl⟩) (pre_T hK hP hD (gm_10 hG) fg_1 rfl) rfl rfl hl.1 rfl (lv_room (Nat.le_of_ble_eq_true rfl)) dX10_add_11 ⟨Nat.le_of_ble_eq_true rfl, Nat.le_of_ble_eq_true rfl⟩) hS hA hP (fun r_5 H locs hw hP hS => ?_)
    obtain ⟨h0_5, h01_5⟩ : (r_5.toInt = 0) ∧ (r_5.toInt = 0 ∨ r_5.toInt = 1) := hw
    refine a_if_eq (u := r_5.toInt) (tgt := 28) hx hb dX10_add_14 (by decide) (rfl) (fun c_6 => ?_) (fun c_6 => absurd c_6 (by omega))
    refine lv_iconst (v := (-1)) hx hb dX10_add_28 (by decide) ?_
    have hz_7 : (-1 : Int32).toInt = (-1) := by decide
    exact g_iret ((-1 : Int32), f) hx hb hr hlocks hS rfl (⟨hI, hF, show (-1 : Int32).toInt = -1 from (by first | assumption | omega)⟩) hP hD hQ (Nat.le_of_ble_eq_true rfl) (Nat.le_of_ble_eq_true rfl) dX10_add_29
  · subst e_4
    refine W.eq (g2 := F0 m 8 ls [.ref r_4]) rfl ?_
    have hl : lv_has ls 7 [(0, .ref (g 10)), (1, .int x), (2, .int y)] := hl
    obtain ⟨p_8, n_8, m_8, s_8⟩ := ho_3 _ rfl
    refine lv_astore_n (lv' := [(3, .ref r_4), (0, .ref (g 10)), (1, .int x), (2, .int y)]) hx hb dX10_add_8 rfl hl (by decide) rfl (fun ls hl => ?_)
    refine lv_aload_n hx hb dX10_add_9 rfl (lv_at hl 1 rfl) ?_
    refine lv_aload_n hx hb dX10_add_10 rfl (lv_at hl 0 rfl) ?_
    obtain ⟨len_9, fg_9, v1_9, v2_9, v3_9, mp_9, sp_9⟩ := op_0 hI m_8 s_8
    obtain ⟨w1_9, w2_9, w3_9, w4_9, w5_9⟩ := lenw hj v1_9 v2_9 v3_9
    obtain ⟨c_10, fg_10, iv0_10⟩ := op_1 hI mp_9 sp_9
    refine call_p (va_runV (As := [.ref r_4]) (rest := []) ⟨hx, hb, hml, hown, hts⟩ (t_X10_isPlainAndGoodN l D cI cR cM _   hj hG hI m_8 s_8 fg_9 fg_10 (by first | assumption | omega)) (cwV 1 hts gX10_add_X10_isPlainAndGood rfl rfl rfl (by decide +kernel) ⟨Nat.le_of_ble_eq_true rfl, Nat.le_of_ble_eq_true rfl⟩) (pre_T hK hP hD (gm_10 hG) fg_1 rfl) rfl rfl hl.1 rfl (lv_room (Nat.le_of_ble_eq_true rfl)) dX10_add_11 ⟨Nat.le_of_ble_eq_true rfl, Nat.le_of_ble_eq_true rfl⟩) hD hS hA (fun u_11 H locs hw hP hD hS => ?_)
    obtain ⟨r_11, f_11⟩ := u_11
    obtain ⟨hI, hF_11, h0_11, h01_11⟩ : IN jn cI cR cM g L S f_11 ∧ FR S [35] f f_11 ∧ (r_11.toInt = 0) ∧ (r_11.toInt = 0 ∨ r_11.toInt = 1) := hw
    have hP : va_P D vwCl (va_pl L f_11) H := hP
    have hD : va_D A (va_pl L f_11) := hD
    have hF := FR_tr hF hF_11 (by decide)
    have fb_12 : f_11 (g 10) = .inr (10, [.int (nI jn), .ref (g 11), .ref (g 12), .ref (g 13), .ref (g 15), .ref (g 16), .ref (g 17), .ref (g 18)]) := FR_at hF_11 (gs_10 hG) (show (10 : Nat) ∉ ([35] : List Nat) by decide) fg_1
    have fb_13 : f_11 (g 12) = .inr (0, [.ref (g 20), .ref (g 21), .int tm_2, .int lk_2]) := FR_at hF_11 (gs_12 hG) (show (12 : Nat) ∉ ([35] : List Nat) by decide) fg_2
    have fb_14 : f_11 r_4 = .inr (5, [.int (nI jn), .int (nI (2 * jn)), .ref p_8, .int len_9]) := FR_at hF_11 s_8 (show (0 : Nat) ∉ ([35] : List Nat) by decide) fg_9
    have fb_15 : f_11 p_8 = .inl (cI, n_8, .inl c_10) := FR_at hF_11 sp_9 (show (1 : Nat) ∉ ([35] : List Nat) by decide) fg_10
    refine a_if_eq (u := r_11.toInt) (tgt := 28) hx hb dX10_add_14 (by decide) (rfl) (fun c_16 => ?_) (fun c_16 => absurd c_16 (by omega))
    refine lv_iconst (v := (-1)) hx hb dX10_add_28 (by decide) ?_
    have hz_17 : (-1 : Int32).toInt = (-1) := by decide
    exact g_iret ((-1 : Int32), f_11) hx hb hr hlocks hS rfl (⟨hI, hF, show (-1 : Int32).toInt = -1 from (by first | assumption | omega)⟩) hP hD hQ (Nat.le_of_ble_eq_true rfl) (Nat.le_of_ble_eq_true rfl) dX10_add_29
set_option maxRecDepth 100000 in
set_option maxHeartbeats 4000000 in
theorem k_addN (l : Launch) (D : va_G) (cI cR cM : ClassId) (sz : Nat) {jn mm : Nat} {q : Nat → Nat} {x0 x1 x2 x3 x4 x5 x6 x7 x8 x9 x10 x11 x12 x13 x14 x15 x16 x17 x18 x19 x20 : Int32} {f0 f1 f2 f3 f4 f5 f6 f7 f8 f9 f10 f11 f12 f13 f14 f15 f16 f17 f18 f19 f20 f21 f22 f23 f24 : Nat → Int32} {a9 b : Int32}  (hj : 1 ≤ jn ∧ jn ≤ 3) (h0 : 0 ≤ x0.toInt ∧ x0.toInt ≤ 60) (h1 : 0 ≤ x1.toInt ∧ x1.toInt ≤ 60) (hR : RowsX jn f0) (hRZ : RowsZ jn f0) (h10 : x1.toInt ≤ x0.toInt) (hj2 : jn ≠ 1) : Met l yX11_add wsX11_add ({ frames := 4, cells := 0, slots := 0, locals := 91 }) (P0 D cI cR cM [.ref mm, .int a9, .int b] sz (mX mm q jn cI x0 x1 x2 x3 x4 x5 x6 x7 x8 x9 x10 x11 x12 x13 x14 x15 x16 x17 x18 x19 x20 f0 f1 f2 f3 f4 f5 f6 f7 f8 f9 f10 f11 f12 f13 f14 f15 f16 f17 f18 f19 f20 f21 f22 f23 f24)) (QG (S := Int32 × Int32 × Int32 × (Nat → Int32)) (fun u => some (.int u.1)) (fun u => mX mm q jn cI x0 x1 x2 x3 x4 x5 x6 x7 x8 x9 x10 x11 x12 x13 x14 (u.2.1) (u.2.2.1) x17 x18 x19 x20 f0 f1 f2 f3 f4 f5 f6 f7 f8 f9 f10 f11 (u.2.2.2) f13 f14 f15 f16 f17 f18 f19 f20 f21 f22 f23 f24) (fun u => (u.1.toInt = -1)) D (va_A (mX mm q jn cI x0 x1 x2 x3 x4 x5 x6 x7 x8 x9 x10 x11 x12 x13 x14 x15 x16 x17 x18 x19 x20 f0 f1 f2 f3 f4 f5 f6 f7 f8 f9 f10 f11 f12 f13 f14 f15 f16 f17 f18 f19 f20 f21 f22 f23 f24) sz)) 0 0 (va_A (mX mm q jn cI x0 x1 x2 x3 x4 x5 x6 x7 x8 x9 x10 x11 x12 x13 x14 x15 x16 x17 x18 x19 x20 f0 f1 f2 f3 f4 f5 f6 f7 f8 f9 f10 f11 f12 f13 f14 f15 f16 f17 f18 f19 f20 f21 f22 f23 f24) sz) := by
  refine go (cc := cX11_add) (maxL := 10) (ret := (some .int)) (by decide) rfl (Nat.le_of_ble_eq_true rfl) ?_
  intro p e s m below meth c ls args Q hQ hsz hx hb hr hml hts hown hlocks hnm hP hK hD hl
  subst hsz
  have hD := hD.self (sz := s.heap.size)
  generalize hAe : va_A (mX mm q jn cI x0 x1 x2 x3 x4 x5 x6 x7 x8 x9 x10 x11 x12 x13 x14 x15 x16 x17 x18 x19 x20 f0 f1 f2 f3 f4 f5 f6 f7 f8 f9 f10 f11 f12 f13 f14 f15 f16 f17 f18 f19 f20 f21 f22 f23 f24) s.heap.size = A at hD hQ
  have hA : ∀ q, s.heap.size ≤ q → A q := fun q h => by rw [← hAe]; exact Or.inr h
  have hS : va_S A s.heap s.heap [] := va_S.rf
  have hl : lv_has ls 10 [(0, .ref mm), (1, .int a9), (2, .int b)] := hl
  refine lv_aload_n hx hb dX11_add_0 rfl (lv_at hl 0 rfl) ?_
  refine lv_iload_n hx hb dX11_add_1 rfl (lv_at hl 1 rfl) ?_
  refine roP (va_runV (As := [.int a9]) (rest := []) ⟨hx, hb, hml, hown, hts⟩ (k_rowOf3 l D cI cR cM _  (by first | assumption | omega) (by first | assumption | omega) (by first | assumption | omega)) (cwV 1 hts gX11_add_X11_rowOf rfl rfl rfl (by decide +kernel) ⟨Nat.le_of_ble_eq_true rfl, Nat.le_of_ble_eq_true rfl⟩) (pre_V hK hP hD 0 11 rfl rfl) rfl rfl hl.1 rfl (lv_room (Nat.le_of_ble_eq_true rfl)) dX11_add_2 ⟨Nat.le_of_ble_eq_true rfl, Nat.le_of_ble_eq_true rfl⟩) hS hA hP (fun r_1 H locs hw hP hS => ?_)
  obtain ⟨h_1, hle_1, hv_1⟩ : (r_1.toInt = -1 ∨ (IsRow jn f0 r_1.toInt ∧ ZX jn f0 (r_1.toInt + 1) (f0 r_1.toInt.toNat).toInt)) ∧ (r_1.toInt ≤ 150 * (8 * x1.toInt + 7)) ∧ ((¬ (0 ≤ a9.toInt ∧ a9.toInt < 8) ∧ r_1.toInt = -1) ∨ ((0 ≤ a9.toInt ∧ a9.toInt < 8) ∧ LatV f0 a9.toInt x1.toInt r_1.toInt)) := hw
  refine lv_istore_n (lv' := [(3, .int r_1), (0, .ref mm), (1, .int a9), (2, .int b)]) hx hb dX11_add_5 rfl hl (by decide) rfl (fun ls hl => ?_)
  refine lv_iload_n hx hb dX11_add_6 rfl (lv_at hl 3 rfl) ?_
  refine lv_iconst (v := 1) hx hb dX11_add_7 (by decide) ?_
  refine lv_bipush (v := 50) hx hb dX11_add_8 (by decide) ?_
  have hz_2 : (1 : Int32).toInt = 1 := by decide
  have hz_3 : (50 : Int32).toInt = 50 := by decide
  refine roP (va_runS (As := [.int b, .int 1, .int 50]) (rest := []) ⟨hx, hb, hml, hown, hts⟩ (k_isIn l D cI cR cM _  ) (va_cwS 3 hts gX11_add_X11_isIn rfl rfl rfl (by decide +kernel) ⟨Nat.le_of_ble_eq_true rfl, Nat.le_of_ble_eq_true rfl⟩) (pre_S hK va_P_nil (va_D_nil (A := fun _ => True))) rfl rfl hl.1 rfl (lv_room (Nat.le_of_ble_eq_true rfl)) dX11_add_10 ⟨Nat.le_of_ble_eq_true rfl, Nat.le_of_ble_eq_true rfl⟩) hS hA hP (fun r_4 H locs hw hP hS => ?_)
  have h_4 : ((r_4.toInt = 1 ∧ (1 : Int32).toInt ≤ b.toInt ∧ b.toInt ≤ (50 : Int32).toInt) ∨ (r_4.toInt = 0 ∧ (b.toInt < (1 : Int32).toInt ∨ (50 : Int32).toInt < b.toInt))) := hw
  refine a_if_eq (u := r_4.toInt) (tgt := 24) hx hb dX11_add_13 (by decide) (rfl) (fun c_5 => ?_) (fun c_5 => ?_)
  · refine lv_iconst (v := (-1)) hx hb dX11_add_24 (by decide) ?_
    have hz_6 : (-1 : Int32).toInt = (-1) := by decide
    exact g_iret ((-1 : Int32), x15, x16, f12) hx hb hr hlocks hS rfl (show (-1 : Int32).toInt = -1 from (by first | assumption | omega)) hP hD hQ (Nat.le_of_ble_eq_true rfl) (Nat.le_of_ble_eq_true rfl) dX11_add_25
  · refine lv_aload_n hx hb dX11_add_16 rfl (lv_at hl 1 rfl) ?_
    refine lv_iload_n hx hb dX11_add_17 rfl (lv_at hl 0 rfl) ?_
    refine call_g (wr := []) (va_runV (As := [.int r_1]) (rest := []) ⟨hx, hb, hml, hown, hts⟩ (k_isPlainGoodN l D cI cR cM _  (by first | assumption | omega) (h_1) (by first | assumption | omega)) (cwV 1 hts gX11_add_X11_isPlainGood rfl rfl rfl (by decide +kernel) ⟨Nat.le_of_ble_eq_true rfl, Nat.le_of_ble_eq_true rfl⟩) (pre_V hK hP hD 0 11 rfl rfl) rfl rfl hl.1 rfl (lv_room (Nat.le_of_ble_eq_true rfl)) dX11_add_18 ⟨Nat.le_of_ble_eq_true rfl, Nat.le_of_ble_eq_true rfl⟩) hP hD hS hA [0, 1, 2, 3, 4, 5, 6, 7, 8, 9, 10, 11, 12, 13, 14, 15, 16, 17, 18, 19, 20, 21, 22, 23, 24, 25] [] (by with_unfolding_all rfl) rfl (by decide) (by decide) (fun u_7 H locs hw hP hD hS => ?_)
    obtain ⟨r_7, y15_7, y16_7, g12_7⟩ := u_7
    have hP : va_P D vwCl (mX mm q jn cI x0 x1 x2 x3 x4 x5 x6 x7 x8 x9 x10 x11 x12 x13 x14 y15_7 y16_7 x17 x18 x19 x20 f0 f1 f2 f3 f4 f5 f6 f7 f8 f9 f10 f11 g12_7 f13 f14 f15 f16 f17 f18 f19 f20 f21 f22 f23 f24) H := hP
    have hD : va_D A (mX mm q jn cI x0 x1 x2 x3 x4 x5 x6 x7 x8 x9 x10 x11 x12 x13 x14 y15_7 y16_7 x17 x18 x19 x20 f0 f1 f2 f3 f4 f5 f6 f7 f8 f9 f10 f11 g12_7 f13 f14 f15 f16 f17 f18 f19 f20 f21 f22 f23 f24) := hD
    have h_7 : (r_7.toInt = 0) := hw
    refine a_if_ne (u := r_7.toInt) (tgt := 26) hx hb dX11_add_21 (by decide) (rfl) (fun c_8 => absurd c_8 (by omega)) (fun c_8 => ?_)
    refine lv_iconst (v := (-1)) hx hb dX11_add_24 (by decide) ?_
    have hz_9 : (-1 : Int32).toInt = (-1) := by decide
    exact g_iret ((-1 : Int32), y15_7, y16_7, g12_7) hx hb hr hlocks hS rfl (show (-1 : Int32).toInt = -1 from (by first | assumption | omega)) hP hD hQ (Nat.le_of_ble_eq_true rfl) (Nat.le_of_ble_eq_true rfl) dX11_add_25
