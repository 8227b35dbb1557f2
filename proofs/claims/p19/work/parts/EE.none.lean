set_option maxRecDepth 100000 in
set_option maxHeartbeats 4000000 in
theorem t_X5_isPlainN (l : Launch) (D : va_G) (cI cR cM : ClassId) (sz : Nat) {jn : Nat} {g : Nat → Nat} {L : List Nat} {S : Sg} {f : Nat → va_E} {b b_p b_n : Nat} {b_l : Int32} {b_c : Nat → Int32}  (hj : 1 ≤ jn ∧ jn ≤ 3) (hG : SG g L S) (hI : IN jn cI cR cM g L S f) (m_b : b ∈ L) (s_b : S b = (0, b_p, b_n)) (f_b : f b = .inr (5, [.int (nI jn), .int (nI (2 * jn)), .ref b_p, .int b_l])) (f_b_p : f b_p = .inl (cI, b_n, .inl b_c)) (hj2 : jn ≠ 1) : Met l yX5_isPlain wsX5_isPlain ({ frames := 0, cells := 0, slots := 0, locals := 0 }) (P0 D cI cR cM [.ref b] sz (va_pl L f)) (QP (fun r => (r.toInt = 0) ∧ (r.toInt = 0 ∨ r.toInt = 1)) sz) 0 0 (va_A [] sz) := by
  refine go (cc := cX5_isPlain) (maxL := 2) (ret := (some .boolean)) (by decide +kernel) rfl (Nat.le_of_ble_eq_true rfl) ?_
  intro p e s m below meth c ls args Q hQ hsz hx hb hr hml hts hown hlocks hnm hP hK hD hl
  subst hsz
  have hS : va_S (va_A [] s.heap.size) s.heap s.heap [] := va_S.rf
  have hA : ∀ q, s.heap.size ≤ q → va_A [] s.heap.size q := fun q h => Or.inr h
  have hl : lv_has ls 2 [(0, .ref b)] := hl
  obtain ⟨v1_b, v2_b, v3_b, m_b_p, s_b_p⟩ := iv_0 hI m_b s_b f_b
  obtain ⟨w1_b, w2_b, w3_b, w4_b, w5_b⟩ := lenw hj v1_b v2_b v3_b
  have k_b := iv_1 hI m_b_p s_b_p f_b_p
  refine lv_aload_n hx hb dX5_isPlain_0 rfl (lv_at hl 0 rfl) ?_
  refine t_get (D := D) (L := L) (f := f) (ci := 5) (v := .int (nI jn)) (C := RX5) (T := TX5) (N := 4) hx hb hts (by decide +kernel) hown hK.1 hP m_b f_b rfl 0 (by decide) (hts (.fieldLink RX5 15 "JugglingHall$Row" "jugglers" "I") (by decide +kernel)) (fun _ h9 => h9) rfl dX5_isPlain_1 ?_
  refine lv_iconst (v := 1) hx hb dX5_isPlain_4 (by decide) ?_
  refine a_icmp_eq (u := (jn : Int)) (v := 1) (tgt := 10) hx hb dX5_isPlain_5 (by decide) (nI_toInt (by omega)) (by decide) (fun c_1 => absurd c_1 (by omega)) (fun c_1 => ?_)
  refine lv_iconst (v := 0) hx hb dX5_isPlain_8 (by decide) ?_
  have hz_2 : (0 : Int32).toInt = 0 := by decide
  exact rp_zret hx hb hr hlocks hS (by first | exact Or.inl rfl | exact Or.inr rfl) (⟨show (0 : Int32).toInt = 0 from (by first | assumption | omega), show (0 : Int32).toInt = 0 ∨ (0 : Int32).toInt = 1 from (by first | assumption | omega)⟩) hQ dX5_isPlain_9
set_option maxRecDepth 100000 in
set_option maxHeartbeats 4000000 in
theorem t_X10_isPlainAndGoodN (l : Launch) (D : va_G) (cI cR cM : ClassId) (sz : Nat) {jn : Nat} {g : Nat → Nat} {L : List Nat} {S : Sg} {f : Nat → va_E} {o o_p o_n : Nat} {o_l : Int32} {o_c : Nat → Int32}  (hj : 1 ≤ jn ∧ jn ≤ 3) (hG : SG g L S) (hI : IN jn cI cR cM g L S f) (m_o : o ∈ L) (s_o : S o = (0, o_p, o_n)) (f_o : f o = .inr (5, [.int (nI jn), .int (nI (2 * jn)), .ref o_p, .int o_l])) (f_o_p : f o_p = .inl (cI, o_n, .inl o_c)) (hj2 : jn ≠ 1) : Met l yX10_isPlainAndGood wsX10_isPlainAndGood ({ frames := 1, cells := 0, slots := 0, locals := 21 }) (P0 D cI cR cM [.ref (g 10), .ref o] sz (va_pl L f)) (QG (S := Int32 × (Nat → va_E)) (fun u => some (.int u.1)) (fun u => va_pl L u.2) (fun u => IN jn cI cR cM g L S u.2 ∧ FR S [35] f u.2 ∧ (u.1.toInt = 0) ∧ (u.1.toInt = 0 ∨ u.1.toInt = 1)) D (va_A (va_pl L f) sz)) 0 0 (va_A (va_pl L f) sz) := by
  refine go (cc := cX10_isPlainAndGood) (maxL := 2) (ret := (some .boolean)) (by decide +kernel) rfl (Nat.le_of_ble_eq_true rfl) ?_
  intro p e s m below meth c ls args Q hQ hsz hx hb hr hml hts hown hlocks hnm hP hK hD hl
  subst hsz
  have hD := hD.self (sz := s.heap.size)
  generalize hAe : va_A (va_pl L f) s.heap.size = A at hD hQ
  have hA : ∀ q, s.heap.size ≤ q → A q := fun q h => by rw [← hAe]; exact Or.inr h
  have hS : va_S A s.heap s.heap [] := va_S.rf
  have hF : FR S [35] f f := FR_rf
  have hl : lv_has ls 2 [(0, .ref (g 10)), (1, .ref o)] := hl
  obtain ⟨v1_o, v2_o, v3_o, m_o_p, s_o_p⟩ := iv_0 hI m_o s_o f_o
  obtain ⟨w1_o, w2_o, w3_o, w4_o, w5_o⟩ := lenw hj v1_o v2_o v3_o
  have k_o := iv_1 hI m_o_p s_o_p f_o_p
  refine lv_aload_n hx hb dX10_isPlainAndGood_0 rfl (lv_at hl 1 rfl) ?_
  refine lv_ifnull hx hb dX10_isPlainAndGood_1 ?_
  refine lv_aload_n hx hb dX10_isPlainAndGood_4 rfl (lv_at hl 1 rfl) ?_
  refine roP (va_runV (As := []) (rest := []) ⟨hx, hb, hml, hown, hts⟩ (t_X5_isPlainN l D cI cR cM _   hj hG hI m_o s_o f_o f_o_p (by first | assumption | omega)) (cwV 0 hts gX10_isPlainAndGood_X5_isPlain rfl rfl rfl (by decide +kernel) ⟨Nat.le_of_ble_eq_true rfl, Nat.le_of_ble_eq_true rfl⟩) (pre_T hK hP hD m_o f_o rfl) rfl rfl hl.1 rfl (lv_room (Nat.le_of_ble_eq_true rfl)) dX10_isPlainAndGood_5 ⟨Nat.le_of_ble_eq_true rfl, Nat.le_of_ble_eq_true rfl⟩) hS hA hP (fun r_1 H locs hw hP hS => ?_)
  obtain ⟨h_1, h01_1⟩ : (r_1.toInt = 0) ∧ (r_1.toInt = 0 ∨ r_1.toInt = 1) := hw
  refine a_if_eq (u := r_1.toInt) (tgt := 27) hx hb dX10_isPlainAndGood_8 (by decide) (rfl) (fun c_2 => ?_) (fun c_2 => absurd c_2 (by omega))
  refine lv_iconst (v := 0) hx hb dX10_isPlainAndGood_27 (by decide) ?_
  have hz_3 : (0 : Int32).toInt = 0 := by decide
  exact g_zret ((0 : Int32), f) hx hb hr hlocks hS (by first | exact Or.inl rfl | exact Or.inr rfl) rfl (⟨hI, hF, show (0 : Int32).toInt = 0 from (by first | assumption | omega), show (0 : Int32).toInt = 0 ∨ (0 : Int32).toInt = 1 from (by first | assumption | omega)⟩) hP hD hQ (Nat.le_of_ble_eq_true rfl) (Nat.le_of_ble_eq_true rfl) dX10_isPlainAndGood_28
set_option maxRecDepth 100000 in
set_option maxHeartbeats 4000000 in
theorem t_X10_stateN (l : Launch) (D : va_G) (cI cR cM : ClassId) (sz : Nat) {jn : Nat} {g : Nat → Nat} {L : List Nat} {S : Sg} {f : Nat → va_E} {x y : Int32}  (hj : 1 ≤ jn ∧ jn ≤ 3) (hG : SG g L S) (hI : IN jn cI cR cM g L S f) (hj2 : jn ≠ 1) : Met l yX10_state wsX10_state ({ frames := 2, cells := 0, slots := 0, locals := 43 }) (P0 D cI cR cM [.ref (g 10), .int x, .int y] sz (va_pl L f)) (QG (S := Int32 × (Nat → va_E)) (fun u => some (.int u.1)) (fun u => va_pl L u.2) (fun u => IN jn cI cR cM g L S u.2 ∧ FR S [35] f u.2 ∧ (u.1.toInt = -1)) D (va_A (va_pl L f) sz)) 0 0 (va_A (va_pl L f) sz) := by
  refine go (cc := cX10_state) (maxL := 4) (ret := (some .int)) (by decide +kernel) rfl (Nat.le_of_ble_eq_true rfl) ?_
  intro p e s m below meth c ls args Q hQ hsz hx hb hr hml hts hown hlocks hnm hP hK hD hl
  subst hsz
  have hD := hD.self (sz := s.heap.size)
  generalize hAe : va_A (va_pl L f) s.heap.size = A at hD hQ
  have hA : ∀ q, s.heap.size ≤ q → A q := fun q h => by rw [← hAe]; exact Or.inr h
  have hS : va_S A s.heap s.heap [] := va_S.rf
  have hF : FR S [35] f f := FR_rf
  have hl : lv_has ls 4 [(0, .ref (g 10)), (1, .int x), (2, .int y)] := hl
  refine lv_aload_n hx hb dX10_state_0 rfl (lv_at hl 0 rfl) ?_
  have fg_1 := op_10 hI (gm_10 hG) (gs_10 hG)
  refine t_get (D := D) (L := L) (f := f) (ci := 10) (v := .ref (g 12)) (C := RX10) (T := TX10) (N := 8) hx hb hts (by decide +kernel) hown hK.1 hP (gm_10 hG) fg_1 rfl 2 (by decide) (hts (.fieldLink RX10 32 "JugglingHall" "book" "LJugglingHall$Book;") (by decide +kernel)) (fun _ h9 => h9) rfl dX10_state_1 ?_
  refine lv_iload_n hx hb dX10_state_4 rfl (lv_at hl 1 rfl) ?_
  obtain ⟨tm_2, lk_2, fg_2, iv0_2, iv1_2, iv2_2⟩ := op_12 hI (gm_12 hG) (gs_12 hG)
  refine roR (va_runV (As := [.int x]) (rest := []) ⟨hx, hb, hml, hown, hts⟩ (t_X0_rowSeen l D cI cR cM _   hj hG hI  ) (cwV 1 hts gX10_state_X0_rowSeen rfl rfl rfl (by decide +kernel) ⟨Nat.le_of_ble_eq_true rfl, Nat.le_of_ble_eq_true rfl⟩) (pre_T hK hP hD (gm_12 hG) fg_2 rfl) rfl rfl hl.1 rfl (lv_room (Nat.le_of_ble_eq_true rfl)) dX10_state_5 ⟨Nat.le_of_ble_eq_true rfl, Nat.le_of_ble_eq_true rfl⟩) hS hA hP (fun w_3 H locs hw hP hS => ?_)
  have ho_3 : (∀ z, w_3 = some z → ∃ p n, isRow L S z p n) := hw
  rcases x_opt w_3 with e_4 | ⟨r_4, e_4⟩
  · subst e_4
    refine W.eq (g2 := F0 m 8 ls [.null]) rfl ?_
    have hl : lv_has ls 4 [(0, .ref (g 10)), (1, .int x), (2, .int y)] := hl
    refine lv_astore_nN (lv' := [(3, .null), (0, .ref (g 10)), (1, .int x), (2, .int y)]) hx hb dX10_state_8 rfl hl (by decide) rfl (fun ls hl => ?_)
    refine lv_aload_n hx hb dX10_state_9 rfl (lv_at hl 1 rfl) ?_
    refine lv_aload_nN hx hb dX10_state_10 rfl (lv_at hl 0 rfl) ?_
    refine roP (va_runV (As := [.null]) (rest := []) ⟨hx, hb, hml, hown, hts⟩ (t_X10_isPlainAndGood_null l D cI cR cM _   hj hG hI  ) (cwV 1 hts gX10_state_X10_isPlainAndGood rfl rfl rfl (by decide +kernel) ⟨Nat.le_of_ble_eq_true rfl, Nat.le_of_ble_eq_true rfl⟩) (pre_T hK hP hD (gm_10 hG) fg_1 rfl) rfl rfl hl.1 rfl (lv_room (Nat.le_of_ble_eq_true rfl)) dX10_state_11 ⟨Nat.le_of_ble_eq_true rfl, Nat.le_of_ble_eq_true rfl⟩) hS hA hP (fun r_5 H locs hw hP hS => ?_)
    obtain ⟨h0_5, h01_5⟩ : (r_5.toInt = 0) ∧ (r_5.toInt = 0 ∨ r_5.toInt = 1) := hw
    refine a_if_eq (u := r_5.toInt) (tgt := 29) hx hb dX10_state_14 (by decide) (rfl) (fun c_6 => ?_) (fun c_6 => absurd c_6 (by omega))
    refine lv_iconst (v := (-1)) hx hb dX10_state_29 (by decide) ?_
    have hz_7 : (-1 : Int32).toInt = (-1) := by decide
    exact g_iret ((-1 : Int32), f) hx hb hr hlocks hS rfl (⟨hI, hF, show (-1 : Int32).toInt = -1 from (by first | assumption | omega)⟩) hP hD hQ (Nat.le_of_ble_eq_true rfl) (Nat.le_of_ble_eq_true rfl) dX10_state_30
  · subst e_4
    refine W.eq (g2 := F0 m 8 ls [.ref r_4]) rfl ?_
    have hl : lv_has ls 4 [(0, .ref (g 10)), (1, .int x), (2, .int y)] := hl
    obtain ⟨p_8, n_8, m_8, s_8⟩ := ho_3 _ rfl
    refine lv_astore_n (lv' := [(3, .ref r_4), (0, .ref (g 10)), (1, .int x), (2, .int y)]) hx hb dX10_state_8 rfl hl (by decide) rfl (fun ls hl => ?_)
    refine lv_aload_n hx hb dX10_state_9 rfl (lv_at hl 1 rfl) ?_
    refine lv_aload_n hx hb dX10_state_10 rfl (lv_at hl 0 rfl) ?_
    obtain ⟨len_9, fg_9, v1_9, v2_9, v3_9, mp_9, sp_9⟩ := op_0 hI m_8 s_8
    obtain ⟨w1_9, w2_9, w3_9, w4_9, w5_9⟩ := lenw hj v1_9 v2_9 v3_9
    obtain ⟨c_10, fg_10, iv0_10⟩ := op_1 hI mp_9 sp_9
    refine call_p (va_runV (As := [.ref r_4]) (rest := []) ⟨hx, hb, hml, hown, hts⟩ (t_X10_isPlainAndGoodN l D cI cR cM _   hj hG hI m_8 s_8 fg_9 fg_10 (by first | assumption | omega)) (cwV 1 hts gX10_state_X10_isPlainAndGood rfl rfl rfl (by decide +kernel) ⟨Nat.le_of_ble_eq_true rfl, Nat.le_of_ble_eq_true rfl⟩) (pre_T hK hP hD (gm_10 hG) fg_1 rfl) rfl rfl hl.1 rfl (lv_room (Nat.le_of_ble_eq_true rfl)) dX10_state_11 ⟨Nat.le_of_ble_eq_true rfl, Nat.le_of_ble_eq_true rfl⟩) hD hS hA (fun u_11 H locs hw hP hD hS => ?_)
    obtain ⟨r_11, f_11⟩ := u_11
    obtain ⟨hI, hF_11, h0_11, h01_11⟩ : IN jn cI cR cM g L S f_11 ∧ FR S [35] f f_11 ∧ (r_11.toInt = 0) ∧ (r_11.toInt = 0 ∨ r_11.toInt = 1) := hw
    have hP : va_P D vwCl (va_pl L f_11) H := hP
    have hD : va_D A (va_pl L f_11) := hD
    have hF := FR_tr hF hF_11 (by decide)
    have fb_12 : f_11 (g 10) = .inr (10, [.int (nI jn), .ref (g 11), .ref (g 12), .ref (g 13), .ref (g 15), .ref (g 16), .ref (g 17), .ref (g 18)]) := FR_at hF_11 (gs_10 hG) (show (10 : Nat) ∉ ([35] : List Nat) by decide) fg_1
    have fb_13 : f_11 (g 12) = .inr (0, [.ref (g 20), .ref (g 21), .int tm_2, .int lk_2]) := FR_at hF_11 (gs_12 hG) (show (12 : Nat) ∉ ([35] : List Nat) by decide) fg_2
    have fb_14 : f_11 r_4 = .inr (5, [.int (nI jn), .int (nI (2 * jn)), .ref p_8, .int len_9]) := FR_at hF_11 s_8 (show (0 : Nat) ∉ ([35] : List Nat) by decide) fg_9
    have fb_15 : f_11 p_8 = .inl (cI, n_8, .inl c_10) := FR_at hF_11 sp_9 (show (1 : Nat) ∉ ([35] : List Nat) by decide) fg_10
    refine a_if_eq (u := r_11.toInt) (tgt := 29) hx hb dX10_state_14 (by decide) (rfl) (fun c_16 => ?_) (fun c_16 => absurd c_16 (by omega))
    refine lv_iconst (v := (-1)) hx hb dX10_state_29 (by decide) ?_
    have hz_17 : (-1 : Int32).toInt = (-1) := by decide
    exact g_iret ((-1 : Int32), f_11) hx hb hr hlocks hS rfl (⟨hI, hF, show (-1 : Int32).toInt = -1 from (by first | assumption | omega)⟩) hP hD hQ (Nat.le_of_ble_eq_true rfl) (Nat.le_of_ble_eq_true rfl) dX10_state_30
