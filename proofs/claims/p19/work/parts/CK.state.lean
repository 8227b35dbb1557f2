/-- what state answers for a row (none: 0 beats) -/
def StA (e : Int × (Int → Int)) (y r : Int) : Prop := (∃ M : Nat, (0 < e.1 ∧ plW e.2 0 e.1 ∧ GdW e.2 e.1 ∧ 0 ≤ y ∧ y < e.1) ∧ r = (M : Int) ∧ StM e.2 e.1 y M) ∨ (¬ (0 < e.1 ∧ plW e.2 0 e.1 ∧ GdW e.2 e.1 ∧ 0 ≤ y ∧ y < e.1) ∧ r = -1)
def StAns (Ev : Int → Env1) (lk x y r : Int) : Prop := (¬ (0 ≤ x ∧ x < 8) ∧ r = -1) ∨ ((0 ≤ x ∧ x < 8) ∧ StA (Ev lk x) y r)
theorem StA_u {e : Int × (Int → Int)} {y r r1 : Int} (h : StA e y r) (h1 : StA e y r1) : r = r1 := by
  rcases h with ⟨M, a1, a2, a3⟩ | ⟨a1, a2⟩ <;> rcases h1 with ⟨N, b1, b2, b3⟩ | ⟨b1, b2⟩
  · rw [a2, b2, StM_u a3 b3]
  · exact absurd a1 b1
  · exact absurd b1 a1
  · rw [a2, b2]
theorem StAns_u {Ev : Int → Env1} {lk x y r r1 : Int} (h : StAns Ev lk x y r) (h1 : StAns Ev lk x y r1) : r = r1 := by
  rcases h with ⟨a1, a2⟩ | ⟨a1, a2⟩ <;> rcases h1 with ⟨b1, b2⟩ | ⟨b1, b2⟩
  · rw [a2, b2]
  · exact absurd b1 a1
  · exact absurd a1 b1
  · exact StA_u a2 b2
theorem BkR_at {cI cR : ClassId} {jn : Nat} {g lv gr : Nat → Nat} {S : Sg} {f : Nat → va_E} {T lk : Int} {Ev : Int → Env1} {x : Int} {w : Option Nat} (h : BkR cI cR jn g lv gr S f T lk Ev) (hl : 0 ≤ lk ∧ lk ≤ T) (x0 : 0 ≤ x) (x1 : x < 8) (he : ∀ (c9 : Nat → Option Nat) (tm9 lk9 : Int32), f (g 20) = refs cR 488 c9 → f (g 12) = .inr (0, [.ref (g 20), .ref (g 21), .int tm9, .int lk9]) → w = c9 (8 * lk9.toInt + x).toNat) : (w = none ∧ (Ev lk x).1 = 0) ∨ ∃ r, w = some r ∧ 0 < (Ev lk x).1 ∧ RWf cI jn S f r (Ev lk x).1 (Ev lk x).2 ∧ ¬ NR g lv gr r := by
  obtain ⟨cb, tm, lk9, h1, h2, h3, h4, h5⟩ := h
  have e := he cb tm lk9 h1 h2
  have := h5 lk x hl.1 hl.2 x0 x1
  rw [e, h4]
  exact this
set_option maxRecDepth 100000 in
set_option maxHeartbeats 4000000 in
theorem t_X10_isPlainAndGoodm (l : Launch) (D : va_G) (cI cR cM : ClassId) (sz : Nat) {jn : Nat} {g : Nat → Nat} {L : List Nat} {S : Sg} {f : Nat → va_E} {o o_p o_n : Nat} {o_l : Int32} {o_c : Nat → Int32} {w : Int → Int} (hj : 1 ≤ jn ∧ jn ≤ 3) (hG : SG g L S) (hI : IN jn cI cR cM g L S f) (m_o : o ∈ L) (s_o : S o = (0, o_p, o_n)) (f_o : f o = .inr (5, [.int (nI jn), .int (nI (2 * jn)), .ref o_p, .int o_l])) (f_o_p : f o_p = .inl (cI, o_n, .inl o_c)) (hj1 : jn = 1) (hRC : RC o_c w o_l.toInt) (hpos : 1 ≤ o_l.toInt ∧ o_l.toInt ≤ 24) : Met l yX10_isPlainAndGood wsX10_isPlainAndGood ({ frames := 4, cells := 0, slots := 0, locals := 87 }) (P0 D cI cR cM [.ref (g 10), .ref o] sz (va_pl L f)) (QG (S := Int32 × (Nat → va_E)) (fun u => some (.int u.1)) (fun u => va_pl L u.2) (fun u => IN jn cI cR cM g L S u.2 ∧ FR S [35] f u.2 ∧ (Hd ((u.1.toInt = 1 ∧ plW w 0 o_l.toInt ∧ GdW w o_l.toInt) ∨ (u.1.toInt = 0 ∧ ¬ (plW w 0 o_l.toInt ∧ GdW w o_l.toInt)))) ∧ (FX S (fun _ => False) [35] f u.2) ∧ (u.1.toInt = 0 ∨ u.1.toInt = 1)) D (va_A (va_pl L f) sz)) 0 0 (va_A (va_pl L f) sz) := by
  refine go (cc := cX10_isPlainAndGood) (maxL := 2) (ret := (some .boolean)) (by decide +kernel) rfl (Nat.le_of_ble_eq_true rfl) ?_
  intro p e s m below meth c ls args Q hQ hsz hx hb hr hml hts hown hlocks hnm hP hK hD hl
  subst hsz
  have hD := hD.self (sz := s.heap.size)
  generalize hAe : va_A (va_pl L f) s.heap.size = A at hD hQ
  have hA : ∀ q, s.heap.size ≤ q → A q := fun q h => by rw [← hAe]; exact Or.inr h
  have hS : va_S A s.heap s.heap [] := va_S.rf
  have hFX : FX S (fun _ => False) [35] f f := FX_rf
  have hF : FR S [35] f f := FR_rf
  have hl : lv_has ls 2 [(0, .ref (g 10)), (1, .ref o)] := hl
  obtain ⟨v1_o, v2_o, v3_o, m_o_p, s_o_p⟩ := iv_0 hI m_o s_o f_o
  obtain ⟨w1_o, w2_o, w3_o, w4_o, w5_o⟩ := lenw hj v1_o v2_o v3_o
  have k_o := iv_1 hI m_o_p s_o_p f_o_p
  refine lv_aload_n hx hb dX10_isPlainAndGood_0 rfl (lv_at hl 1 rfl) ?_
  refine lv_ifnull hx hb dX10_isPlainAndGood_1 ?_
  refine lv_aload_n hx hb dX10_isPlainAndGood_4 rfl (lv_at hl 1 rfl) ?_
  refine roP (va_runV (As := []) (rest := []) ⟨hx, hb, hml, hown, hts⟩ (t_X5_isPlainm l D cI cR cM _ (w := w)  hj hG hI m_o s_o f_o f_o_p (by first | assumption | omega | (subst hj1; omega)) (hRC)) (cwV 0 hts gX10_isPlainAndGood_X5_isPlain rfl rfl rfl (by decide +kernel) ⟨Nat.le_of_ble_eq_true rfl, Nat.le_of_ble_eq_true rfl⟩) (pre_T hK hP hD m_o f_o rfl) rfl rfl hl.1 rfl (lv_room (Nat.le_of_ble_eq_true rfl)) dX10_isPlainAndGood_5 ⟨Nat.le_of_ble_eq_true rfl, Nat.le_of_ble_eq_true rfl⟩) hS hA hP (fun r_1 H locs hw hP hS => ?_)
  obtain ⟨h_1, h01_1⟩ : ((r_1.toInt = 1 ∧ plW w 0 o_l.toInt) ∨ (r_1.toInt = 0 ∧ ¬ plW w 0 o_l.toInt)) ∧ (r_1.toInt = 0 ∨ r_1.toInt = 1) := hw
  refine a_if_eq (u := r_1.toInt) (tgt := 27) hx hb dX10_isPlainAndGood_8 (by decide) (rfl) (fun c_2 => ?_) (fun c_2 => ?_)
  · refine lv_iconst (v := 0) hx hb dX10_isPlainAndGood_27 (by decide) ?_
    have hz_3 : (0 : Int32).toInt = 0 := by decide
    exact g_zret ((0 : Int32), f) hx hb hr hlocks hS (by first | exact Or.inl rfl | exact Or.inr rfl) rfl (⟨hI, hF, show Hd (((0 : Int32).toInt = 1 ∧ plW w 0 o_l.toInt ∧ GdW w o_l.toInt) ∨ ((0 : Int32).toInt = 0 ∧ ¬ (plW w 0 o_l.toInt ∧ GdW w o_l.toInt))) from (Or.inr ⟨rfl, fun q9 => (h_1.resolve_left (fun q8 => by have := q8.1; omega)).2 q9.1⟩), show FX S (fun _ => False) [35] f f from (by first | assumption | omega | (subst hj1; omega)), show (0 : Int32).toInt = 0 ∨ (0 : Int32).toInt = 1 from (by first | assumption | omega | (subst hj1; omega))⟩) hP hD hQ (Nat.le_of_ble_eq_true rfl) (Nat.le_of_ble_eq_true rfl) dX10_isPlainAndGood_28
  · refine lv_aload_n hx hb dX10_isPlainAndGood_11 rfl (lv_at hl 0 rfl) ?_
    have fg_4 := op_10 hI (gm_10 hG) (gs_10 hG)
    refine t_get (D := D) (L := L) (f := f) (ci := 10) (v := .ref (g 15)) (C := RX10) (T := TX10) (N := 8) hx hb hts (by decide +kernel) hown hK.1 hP (gm_10 hG) fg_4 rfl 4 (by decide) (hts (.fieldLink RX10 53 "JugglingHall" "catches" "LJugglingHall$Catches;") (by decide +kernel)) (fun _ h9 => h9) rfl dX10_isPlainAndGood_12 ?_
    refine lv_aload_n hx hb dX10_isPlainAndGood_15 rfl (lv_at hl 1 rfl) ?_
    obtain ⟨cnt_5, rw_5, fg_5, iv0_5, iv1_5, iv2_5⟩ := op_15 hI (gm_15 hG) (gs_15 hG)
    refine call_p (va_runV (As := [.ref o]) (rest := []) ⟨hx, hb, hml, hown, hts⟩ (t_X1_badPlacem l D cI cR cM _ (w := w)  hj hG hI m_o s_o f_o f_o_p (by first | assumption | omega | (subst hj1; omega)) (hRC) (by first | assumption | omega | (subst hj1; omega))) (cwV 1 hts gX10_isPlainAndGood_X1_badPlace rfl rfl rfl (by decide +kernel) ⟨Nat.le_of_ble_eq_true rfl, Nat.le_of_ble_eq_true rfl⟩) (pre_T hK hP hD (gm_15 hG) fg_5 rfl) rfl rfl hl.1 rfl (lv_room (Nat.le_of_ble_eq_true rfl)) dX10_isPlainAndGood_16 ⟨Nat.le_of_ble_eq_true rfl, Nat.le_of_ble_eq_true rfl⟩) hD hS hA (fun u_6 H locs hw hP hD hS => ?_)
    obtain ⟨r_6, f_6⟩ := u_6
    obtain ⟨hI, hF_6, hp_6, h_6, hfx_6⟩ : IN jn cI cR cM g L S f_6 ∧ FR S [35] f f_6 ∧ ((r_6.toInt = -1 ∧ GdW w o_l.toInt) ∨ (r_6.toInt ≠ -1 ∧ ¬ GdW w o_l.toInt)) ∧ (-1 ≤ r_6.toInt ∧ r_6.toInt ≤ 71) ∧ (FX S (fun _ => False) [35] f f_6) := hw
    have hP : va_P D vwCl (va_pl L f_6) H := hP
    have hD : va_D A (va_pl L f_6) := hD
    have hF := FR_tr hF hF_6 (by decide)
    have hFX := FX_tr hFX hfx_6 (fun _ h9 => h9.elim) (by decide)
    have fb_7 : f_6 o = .inr (5, [.int (nI jn), .int (nI (2 * jn)), .ref o_p, .int o_l]) := FR_at hF_6 s_o (show (0 : Nat) ∉ ([35] : List Nat) by decide) f_o
    have fb_8 : f_6 o_p = .inl (cI, o_n, .inl o_c) := FR_at hF_6 s_o_p (show (1 : Nat) ∉ ([35] : List Nat) by decide) f_o_p
    have fb_9 : f_6 (g 10) = .inr (10, [.int (nI jn), .ref (g 11), .ref (g 12), .ref (g 13), .ref (g 15), .ref (g 16), .ref (g 17), .ref (g 18)]) := FR_at hF_6 (gs_10 hG) (show (10 : Nat) ∉ ([35] : List Nat) by decide) fg_4
    have fb_10 : f_6 (g 15) = .inr (1, [.ref (g 35), .ref (g 27), .ref (g 36), .ref (g 37), .ref (g 38), .ref (g 39), .int cnt_5, va_rf rw_5]) := FR_at hF_6 (gs_15 hG) (show (15 : Nat) ∉ ([35] : List Nat) by decide) fg_5
    refine lv_iconst (v := (-1)) hx hb dX10_isPlainAndGood_19 (by decide) ?_
    refine a_icmp_ne (u := r_6.toInt) (v := (-1)) (tgt := 27) hx hb dX10_isPlainAndGood_20 (by decide) (rfl) (by decide) (fun c_11 => ?_) (fun c_11 => ?_)
    · refine lv_iconst (v := 0) hx hb dX10_isPlainAndGood_27 (by decide) ?_
      have hz_12 : (0 : Int32).toInt = 0 := by decide
      exact g_zret ((0 : Int32), f_6) hx hb hr hlocks hS (by first | exact Or.inl rfl | exact Or.inr rfl) rfl (⟨hI, hF, show Hd (((0 : Int32).toInt = 1 ∧ plW w 0 o_l.toInt ∧ GdW w o_l.toInt) ∨ ((0 : Int32).toInt = 0 ∧ ¬ (plW w 0 o_l.toInt ∧ GdW w o_l.toInt))) from (Or.inr ⟨rfl, fun q9 => (hp_6.resolve_left (fun q8 => by have := q8.1; omega)).2 q9.2⟩), show FX S (fun _ => False) [35] f f_6 from (by first | assumption | omega | (subst hj1; omega)), show (0 : Int32).toInt = 0 ∨ (0 : Int32).toInt = 1 from (by first | assumption | omega | (subst hj1; omega))⟩) hP hD hQ (Nat.le_of_ble_eq_true rfl) (Nat.le_of_ble_eq_true rfl) dX10_isPlainAndGood_28
    · refine lv_iconst (v := 1) hx hb dX10_isPlainAndGood_23 (by decide) ?_
      refine lv_goto (tgt := 28) hx hb dX10_isPlainAndGood_24 (by decide) ?_
      have hz_13 : (1 : Int32).toInt = 1 := by decide
      exact g_zret ((1 : Int32), f_6) hx hb hr hlocks hS (by first | exact Or.inl rfl | exact Or.inr rfl) rfl (⟨hI, hF, show Hd (((1 : Int32).toInt = 1 ∧ plW w 0 o_l.toInt ∧ GdW w o_l.toInt) ∨ ((1 : Int32).toInt = 0 ∧ ¬ (plW w 0 o_l.toInt ∧ GdW w o_l.toInt))) from (Or.inl ⟨rfl, (h_1.resolve_right (fun q9 => by have := q9.1; omega)).2, (hp_6.resolve_right (fun q9 => q9.1 (by subst hj1; omega))).2⟩), show FX S (fun _ => False) [35] f f_6 from (by first | assumption | omega | (subst hj1; omega)), show (1 : Int32).toInt = 0 ∨ (1 : Int32).toInt = 1 from (by first | assumption | omega | (subst hj1; omega))⟩) hP hD hQ (Nat.le_of_ble_eq_true rfl) (Nat.le_of_ble_eq_true rfl) dX10_isPlainAndGood_28
set_option maxRecDepth 100000 in
set_option maxHeartbeats 4000000 in
theorem t_X5_cellAtm (l : Launch) (D : va_G) (cI cR cM : ClassId) (sz : Nat) {jn : Nat} {g : Nat → Nat} {L : List Nat} {S : Sg} {f : Nat → va_E} {b b_p b_n : Nat} {b_l : Int32} {b_c : Nat → Int32} {x y k : Int32}  (hj : 1 ≤ jn ∧ jn ≤ 3) (hG : SG g L S) (hI : IN jn cI cR cM g L S f) (m_b : b ∈ L) (s_b : S b = (0, b_p, b_n)) (f_b : f b = .inr (5, [.int (nI jn), .int (nI (2 * jn)), .ref b_p, .int b_l])) (f_b_p : f b_p = .inl (cI, b_n, .inl b_c)) (hj1 : jn = 1) (hx0 : 0 ≤ x.toInt ∧ x.toInt < b_l.toInt ∧ y.toInt = 0 ∧ k.toInt = 0) : Met l yX5_cellAt wsX5_cellAt ({ frames := 0, cells := 0, slots := 0, locals := 0 }) (P0 D cI cR cM [.ref b, .int x, .int y, .int k] sz (va_pl L f)) (QP (fun r => (r.toInt = 2 * x.toInt)) sz) 0 0 (va_A [] sz) := by
  refine go (cc := cX5_cellAt) (maxL := 4) (ret := (some .int)) (by decide +kernel) rfl (Nat.le_of_ble_eq_true rfl) ?_
  intro p e s m below meth c ls args Q hQ hsz hx hb hr hml hts hown hlocks hnm hP hK hD hl
  subst hsz
  have hS : va_S (va_A [] s.heap.size) s.heap s.heap [] := va_S.rf
  have hA : ∀ q, s.heap.size ≤ q → va_A [] s.heap.size q := fun q h => Or.inr h
  have hl : lv_has ls 4 [(0, .ref b), (1, .int x), (2, .int y), (3, .int k)] := hl
  obtain ⟨v1_b, v2_b, v3_b, m_b_p, s_b_p⟩ := iv_0 hI m_b s_b f_b
  obtain ⟨w1_b, w2_b, w3_b, w4_b, w5_b⟩ := lenw hj v1_b v2_b v3_b
  have k_b := iv_1 hI m_b_p s_b_p f_b_p
  refine lv_iload_n hx hb dX5_cellAt_0 rfl (lv_at hl 1 rfl) ?_
  refine a_if_lt (u := x.toInt) (tgt := 33) hx hb dX5_cellAt_1 (by decide) (rfl) (fun c_1 => ?_) (fun c_1 => ?_)
  · refine lv_iconst (v := (-1)) hx hb dX5_cellAt_33 (by decide) ?_
    have hz_2 : (-1 : Int32).toInt = (-1) := by decide
    exact rp_iret hx hb hr hlocks hS (show (-1 : Int32).toInt = 2 * x.toInt from (by first | assumption | omega | (subst hj1; omega))) hQ dX5_cellAt_34
  · refine lv_iload_n hx hb dX5_cellAt_4 rfl (lv_at hl 1 rfl) ?_
    refine lv_aload_n hx hb dX5_cellAt_5 rfl (lv_at hl 0 rfl) ?_
    refine t_get (D := D) (L := L) (f := f) (ci := 5) (v := .int b_l) (C := RX5) (T := TX5) (N := 4) hx hb hts (by decide +kernel) hown hK.1 hP m_b f_b rfl 3 (by decide) (hts (.fieldLink RX5 28 "JugglingHall$Row" "length" "I") (by decide +kernel)) (fun _ h9 => h9) rfl dX5_cellAt_6 ?_
    refine a_icmp_ge (u := x.toInt) (v := b_l.toInt) (tgt := 33) hx hb dX5_cellAt_9 (by decide) (rfl) (rfl) (fun c_3 => ?_) (fun c_3 => ?_)
    · refine lv_iconst (v := (-1)) hx hb dX5_cellAt_33 (by decide) ?_
      have hz_4 : (-1 : Int32).toInt = (-1) := by decide
      exact rp_iret hx hb hr hlocks hS (show (-1 : Int32).toInt = 2 * x.toInt from (by first | assumption | omega | (subst hj1; omega))) hQ dX5_cellAt_34
    · refine lv_iload_n hx hb dX5_cellAt_12 rfl (lv_at hl 2 rfl) ?_
      refine a_if_lt (u := y.toInt) (tgt := 33) hx hb dX5_cellAt_13 (by decide) (rfl) (fun c_5 => ?_) (fun c_5 => ?_)
      · refine lv_iconst (v := (-1)) hx hb dX5_cellAt_33 (by decide) ?_
        have hz_6 : (-1 : Int32).toInt = (-1) := by decide
        exact rp_iret hx hb hr hlocks hS (show (-1 : Int32).toInt = 2 * x.toInt from (by first | assumption | omega | (subst hj1; omega))) hQ dX5_cellAt_34
      · refine lv_iload_n hx hb dX5_cellAt_16 rfl (lv_at hl 2 rfl) ?_
        refine lv_aload_n hx hb dX5_cellAt_17 rfl (lv_at hl 0 rfl) ?_
        refine t_get (D := D) (L := L) (f := f) (ci := 5) (v := .int (nI jn)) (C := RX5) (T := TX5) (N := 4) hx hb hts (by decide +kernel) hown hK.1 hP m_b f_b rfl 0 (by decide) (hts (.fieldLink RX5 15 "JugglingHall$Row" "jugglers" "I") (by decide +kernel)) (fun _ h9 => h9) rfl dX5_cellAt_18 ?_
        refine a_icmp_ge (u := y.toInt) (v := (jn : Int)) (tgt := 33) hx hb dX5_cellAt_21 (by decide) (rfl) (nI_toInt (by subst hj1; omega)) (fun c_7 => ?_) (fun c_7 => ?_)
        · refine lv_iconst (v := (-1)) hx hb dX5_cellAt_33 (by decide) ?_
          have hz_8 : (-1 : Int32).toInt = (-1) := by decide
          exact rp_iret hx hb hr hlocks hS (show (-1 : Int32).toInt = 2 * x.toInt from (by first | assumption | omega | (subst hj1; omega))) hQ dX5_cellAt_34
        · refine lv_iload_n hx hb dX5_cellAt_24 rfl (lv_at hl 3 rfl) ?_
          refine a_if_lt (u := k.toInt) (tgt := 33) hx hb dX5_cellAt_25 (by decide) (rfl) (fun c_9 => ?_) (fun c_9 => ?_)
          · refine lv_iconst (v := (-1)) hx hb dX5_cellAt_33 (by decide) ?_
            have hz_10 : (-1 : Int32).toInt = (-1) := by decide
            exact rp_iret hx hb hr hlocks hS (show (-1 : Int32).toInt = 2 * x.toInt from (by first | assumption | omega | (subst hj1; omega))) hQ dX5_cellAt_34
          · refine lv_iload_n hx hb dX5_cellAt_28 rfl (lv_at hl 3 rfl) ?_
            refine lv_iconst (v := 2) hx hb dX5_cellAt_29 (by decide) ?_
            refine a_icmp_lt (u := k.toInt) (v := 2) (tgt := 35) hx hb dX5_cellAt_30 (by decide) (rfl) (by decide) (fun c_11 => ?_) (fun c_11 => ?_)
            · refine lv_iload_n hx hb dX5_cellAt_35 rfl (lv_at hl 1 rfl) ?_
              refine lv_aload_n hx hb dX5_cellAt_36 rfl (lv_at hl 0 rfl) ?_
              refine t_get (D := D) (L := L) (f := f) (ci := 5) (v := .int (nI (2 * jn))) (C := RX5) (T := TX5) (N := 4) hx hb hts (by decide +kernel) hown hK.1 hP m_b f_b rfl 1 (by decide) (hts (.fieldLink RX5 21 "JugglingHall$Row" "width" "I") (by decide +kernel)) (fun _ h9 => h9) rfl dX5_cellAt_37 ?_
              refine a_imul (u := x.toInt) (v := (2 * (jn : Int))) hx hb dX5_cellAt_40 (rfl) (w2 hj) (by subst hj1; omega) (fun z_12 e_12 => ?_)
              refine lv_iload_n hx hb dX5_cellAt_41 rfl (lv_at hl 2 rfl) ?_
              refine lv_iconst (v := 2) hx hb dX5_cellAt_42 (by decide) ?_
              refine a_imul (u := y.toInt) (v := 2) hx hb dX5_cellAt_43 (rfl) (by decide) (by subst hj1; omega) (fun z_13 e_13 => ?_)
              refine a_iadd (u := (x.toInt * (2 * (jn : Int)))) (v := (y.toInt * 2)) hx hb dX5_cellAt_44 (e_12) (e_13) (by subst hj1; omega) (fun z_14 e_14 => ?_)
              refine lv_iload_n hx hb dX5_cellAt_45 rfl (lv_at hl 3 rfl) ?_
              refine a_iadd (u := ((x.toInt * (2 * (jn : Int))) + (y.toInt * 2))) (v := k.toInt) hx hb dX5_cellAt_46 (e_14) (rfl) (by subst hj1; omega) (fun z_15 e_15 => ?_)
              exact rp_iret hx hb hr hlocks hS (show z_15.toInt = 2 * x.toInt from (by first | assumption | omega | (subst hj1; omega))) hQ dX5_cellAt_47
            · refine lv_iconst (v := (-1)) hx hb dX5_cellAt_33 (by decide) ?_
              have hz_16 : (-1 : Int32).toInt = (-1) := by decide
              exact rp_iret hx hb hr hlocks hS (show (-1 : Int32).toInt = 2 * x.toInt from (by first | assumption | omega | (subst hj1; omega))) hQ dX5_cellAt_34
set_option maxRecDepth 100000 in
set_option maxHeartbeats 4000000 in
theorem t_X9_stateOfm (l : Launch) (D : va_G) (cI cR cM : ClassId) (sz : Nat) {jn : Nat} {g : Nat → Nat} {L : List Nat} {S : Sg} {f : Nat → va_E} {b b_p b_n : Nat} {b_l : Int32} {b_c : Nat → Int32} {x : Int32} {w : Int → Int} (hj : 1 ≤ jn ∧ jn ≤ 3) (hG : SG g L S) (hI : IN jn cI cR cM g L S f) (m_b : b ∈ L) (s_b : S b = (0, b_p, b_n)) (f_b : f b = .inr (5, [.int (nI jn), .int (nI (2 * jn)), .ref b_p, .int b_l])) (f_b_p : f b_p = .inl (cI, b_n, .inl b_c)) (hj1 : jn = 1) (hRC : RC b_c w b_l.toInt) (hx0 : 0 ≤ x.toInt ∧ x.toInt < b_l.toInt) : Met l yX9_stateOf wsX9_stateOf ({ frames := 2, cells := 0, slots := 0, locals := 43 }) (P0 D cI cR cM [.ref b, .int x] sz (va_pl L f)) (QP (fun r => (∃ M9 : Nat, r = nI M9 ∧ StM w b_l.toInt x.toInt M9)) sz) 0 0 (va_A [] sz) := by
  refine go (cc := cX9_stateOf) (maxL := 5) (ret := (some .int)) (by decide +kernel) rfl (Nat.le_of_ble_eq_true rfl) ?_
  intro p e s m below meth c ls args Q hQ hsz hx hb hr hml hts hown hlocks hnm hP hK hD hl
  subst hsz
  have hS : va_S (va_A [] s.heap.size) s.heap s.heap [] := va_S.rf
  have hA : ∀ q, s.heap.size ≤ q → va_A [] s.heap.size q := fun q h => Or.inr h
  have hl : lv_has ls 5 [(0, .ref b), (1, .int x)] := hl
  obtain ⟨v1_b, v2_b, v3_b, m_b_p, s_b_p⟩ := iv_0 hI m_b s_b f_b
  obtain ⟨w1_b, w2_b, w3_b, w4_b, w5_b⟩ := lenw hj v1_b v2_b v3_b
  have k_b := iv_1 hI m_b_p s_b_p f_b_p
  refine lv_iconst (v := 0) hx hb dX9_stateOf_0 (by decide) ?_
  refine lv_istore_n (lv' := [(2, .int 0), (0, .ref b), (1, .int x)]) hx hb dX9_stateOf_1 rfl hl (by decide) rfl (fun ls hl => ?_)
  refine lv_iconst (v := 1) hx hb dX9_stateOf_2 (by decide) ?_
  refine lv_istore_n (lv' := [(3, .int 1), (2, .int 0), (0, .ref b), (1, .int x)]) hx hb dX9_stateOf_3 rfl hl (by decide) rfl (fun ls hl => ?_)
  have loop4 : ∀ (ddloop4 : Nat) (se : Int32) (ag : Int32) (H : Heap) (locs : List Loc) (ls : Array Slot), (20 - ag.toInt).toNat < ddloop4 → (1 ≤ ag.toInt ∧ ag.toInt ≤ 10) → (∃ M9 : Nat, M9 < 512 ∧ se = nI M9 ∧ ∀ k9 : Nat, k9 < 9 → (M9.testBit k9 = true ↔ stQ w b_l.toInt x.toInt ag.toInt k9)) → va_P D vwCl (va_pl L f) H → va_S (va_A [] s.heap.size) s.heap H locs → lv_has ls 5 [(0, .ref b), (1, .int x), (2, .int se), (3, .int ag)] → W p l e ({ frames := 2, cells := 0, slots := 0, locals := 43 }) s m args below meth c H locs (0) (0) Q (F0 m 4 ls []) := by
    intro ddloop4
    induction ddloop4 with
    | zero =>
      intro se ag H locs ls hdd
      exact absurd hdd (Nat.not_lt_zero _)
    | succ ddloop4 ih4 =>
      intro se ag H locs ls hdd hi hm hP hS hl
      obtain ⟨M9, hm1, hm2, hm3⟩ := hm
      refine lv_iload_n hx hb dX9_stateOf_4 rfl (lv_at hl 3 rfl) ?_
      refine lv_bipush (v := 9) hx hb dX9_stateOf_5 (by decide) ?_
      refine a_icmp_gt (u := ag.toInt) (v := 9) (tgt := 50) hx hb dX9_stateOf_7 (by decide) (rfl) (by decide) (fun c_2 => ?_) (fun c_2 => ?_)
      · refine lv_iload_n hx hb dX9_stateOf_50 rfl (lv_at hl 2 rfl) ?_
        exact rp_iret hx hb hr hlocks hS (show ∃ M9 : Nat, se = nI M9 ∧ StM w b_l.toInt x.toInt M9 from (⟨M9, hm2, hm1, fun k9 h9 => by rw [hm3 k9 h9, show ag.toInt = 10 by omega]⟩)) hQ dX9_stateOf_51
      · refine lv_aload_n hx hb dX9_stateOf_10 rfl (lv_at hl 0 rfl) ?_
        refine lv_aload_n hx hb dX9_stateOf_11 rfl (lv_at hl 0 rfl) ?_
        refine lv_aload_n hx hb dX9_stateOf_12 rfl (lv_at hl 0 rfl) ?_
        refine lv_iload_n hx hb dX9_stateOf_13 rfl (lv_at hl 1 rfl) ?_
        refine lv_iload_n hx hb dX9_stateOf_14 rfl (lv_at hl 3 rfl) ?_
        refine a_isub (u := x.toInt) (v := ag.toInt) hx hb dX9_stateOf_15 (rfl) (rfl) (by subst hj1; omega) (fun z_3 e_3 => ?_)
        refine roP (va_runV (As := [.int z_3]) (rest := [.ref b, .ref b]) ⟨hx, hb, hml, hown, hts⟩ (t_X5_beatInRoundm l D cI cR cM _   hj hG hI m_b s_b f_b f_b_p (by first | assumption | omega | (subst hj1; omega)) (by subst hj1; omega)) (cwV 1 hts gX9_stateOf_X5_beatInRound rfl rfl rfl (by decide +kernel) ⟨Nat.le_of_ble_eq_true rfl, Nat.le_of_ble_eq_true rfl⟩) (pre_T hK hP hD m_b f_b rfl) rfl rfl hl.1 rfl (lv_room (Nat.le_of_ble_eq_true rfl)) dX9_stateOf_16 ⟨Nat.le_of_ble_eq_true rfl, Nat.le_of_ble_eq_true rfl⟩) hS hA hP (fun r_4 H locs hw hP hS => ?_)
        obtain ⟨h_4, hb_4⟩ : (r_4.toInt = z_3.toInt % b_l.toInt) ∧ (0 ≤ r_4.toInt ∧ r_4.toInt < b_l.toInt) := hw
        refine lv_iconst (v := 0) hx hb dX9_stateOf_19 (by decide) ?_
        refine lv_iconst (v := 0) hx hb dX9_stateOf_20 (by decide) ?_
        have hz_5 : (0 : Int32).toInt = 0 := by decide
        have hz_6 : (0 : Int32).toInt = 0 := by decide
        refine roP (va_runV (As := [.int r_4, .int 0, .int 0]) (rest := [.ref b]) ⟨hx, hb, hml, hown, hts⟩ (t_X5_cellAtm l D cI cR cM _   hj hG hI m_b s_b f_b f_b_p (by first | assumption | omega | (subst hj1; omega)) (by rw [show (0 : Int32).toInt = 0 from rfl]; omega)) (cwV 3 hts gX9_stateOf_X5_cellAt rfl rfl rfl (by decide +kernel) ⟨Nat.le_of_ble_eq_true rfl, Nat.le_of_ble_eq_true rfl⟩) (pre_T hK hP hD m_b f_b rfl) rfl rfl hl.1 rfl (lv_room (Nat.le_of_ble_eq_true rfl)) dX9_stateOf_21 ⟨Nat.le_of_ble_eq_true rfl, Nat.le_of_ble_eq_true rfl⟩) hS hA hP (fun r_7 H locs hw hP hS => ?_)
        have h_7 : (r_7.toInt = 2 * r_4.toInt) := hw
        refine roP (va_runV (As := [.int r_7]) (rest := []) ⟨hx, hb, hml, hown, hts⟩ (t_X5_heightm l D cI cR cM _ (w := w)  hj hG hI m_b s_b f_b f_b_p (by first | assumption | omega | (subst hj1; omega)) (by first | assumption | omega | (subst hj1; omega)) (hRC)) (cwV 1 hts gX9_stateOf_X5_height rfl rfl rfl (by decide +kernel) ⟨Nat.le_of_ble_eq_true rfl, Nat.le_of_ble_eq_true rfl⟩) (pre_T hK hP hD m_b f_b rfl) rfl rfl hl.1 rfl (lv_room (Nat.le_of_ble_eq_true rfl)) dX9_stateOf_24 ⟨Nat.le_of_ble_eq_true rfl, Nat.le_of_ble_eq_true rfl⟩) hS hA hP (fun r_8 H locs hw hP hS => ?_)
        obtain ⟨h_8, hb_8⟩ : (r_8.toInt = w r_7.toInt) ∧ (0 ≤ r_8.toInt ∧ r_8.toInt ≤ 9) := hw
        have hhv : r_8.toInt = w (2 * ((x.toInt - ag.toInt) % b_l.toInt)) := by rw [h_8, h_7, h_4, show z_3.toInt = x.toInt - ag.toInt by omega]
        refine lv_istore (lv' := [(4, .int r_8), (0, .ref b), (1, .int x), (2, .int se), (3, .int ag)]) hx hb dX9_stateOf_27 hl (by decide) rfl (fun ls hl => ?_)
        refine lv_iload hx hb dX9_stateOf_29 (lv_at hl 0 rfl) ?_
        refine lv_iload_n hx hb dX9_stateOf_31 rfl (lv_at hl 4 rfl) ?_
        refine a_icmp_lt (u := r_8.toInt) (v := ag.toInt) (tgt := 44) hx hb dX9_stateOf_32 (by decide) (rfl) (rfl) (fun c_9 => ?_) (fun c_9 => ?_)
        · obtain ⟨z_10, q_10, e_10⟩ := i_inc (a := ag.toInt) (1) (rfl) (by decide) (by subst hj1; omega) (by subst hj1; omega)
          refine lv_iinc (v := z_10) (lv' := [(3, .int z_10), (4, .int r_8), (0, .ref b), (1, .int x), (2, .int se)]) hx hb dX9_stateOf_44 hl (k := 4) rfl q_10 (by decide) rfl (fun ls hl => ?_)
          refine lv_goto (tgt := 4) hx hb dX9_stateOf_47 (by decide) ?_
          exact ih4 se z_10 _ _ _ (by subst hj1; omega) (by first | assumption | omega | (subst hj1; omega)) (⟨M9, hm1, hm2, fun k9 h9 => by
            rw [show z_10.toInt = ag.toInt + 1 by omega, stQ_s (by subst hj1; omega), ← hhv]
            have := hm3 k9 h9
            constructor
            · intro q9; exact Or.inl (this.mp q9)
            · intro q9
              rcases q9 with q9 | q9
              · exact this.mpr q9
              · omega⟩) hP hS (lv_sub hl [2, 3, 4, 0] rfl)
        · refine lv_iload_n hx hb dX9_stateOf_35 rfl (lv_at hl 3 rfl) ?_
          refine lv_iconst (v := 1) hx hb dX9_stateOf_36 (by decide) ?_
          refine lv_iload hx hb dX9_stateOf_37 (lv_at hl 0 rfl) ?_
          refine lv_iload_n hx hb dX9_stateOf_39 rfl (lv_at hl 4 rfl) ?_
          refine a_isub (u := r_8.toInt) (v := ag.toInt) hx hb dX9_stateOf_40 (rfl) (rfl) (by subst hj1; omega) (fun z_11 e_11 => ?_)
          refine lv_ishl hx hb dX9_stateOf_41 ?_
          refine lv_topi (fun z_12 q_12 => ?_)
          refine lv_ior hx hb dX9_stateOf_42 ?_
          refine lv_topi (fun z_13 q_13 => ?_)
          refine lv_istore_n (lv' := [(2, .int z_13), (4, .int r_8), (0, .ref b), (1, .int x), (3, .int ag)]) hx hb dX9_stateOf_43 rfl hl (by decide) rfl (fun ls hl => ?_)
          obtain ⟨z_14, q_14, e_14⟩ := i_inc (a := ag.toInt) (1) (rfl) (by decide) (by subst hj1; omega) (by subst hj1; omega)
          refine lv_iinc (v := z_14) (lv' := [(3, .int z_14), (2, .int z_13), (4, .int r_8), (0, .ref b), (1, .int x)]) hx hb dX9_stateOf_44 hl (k := 4) rfl q_14 (by decide) rfl (fun ls hl => ?_)
          refine lv_goto (tgt := 4) hx hb dX9_stateOf_47 (by decide) ?_
          exact ih4 z_13 z_14 _ _ _ (by subst hj1; omega) (by first | assumption | omega | (subst hj1; omega)) (⟨M9 ||| 2 ^ (r_8.toInt - ag.toInt).toNat, or_lt hm1 (by subst hj1; omega), by
            have e9 := or_sh (r_8.toInt - ag.toInt).toNat (by subst hj1; omega) M9 hm1
            rw [q_13, q_12, hm2, ← e9, show z_11 = nI (r_8.toInt - ag.toInt).toNat by rw [nI_ofT (show 0 ≤ z_11.toInt by omega)]; congr 1; omega], fun k9 h9 => by
            rw [show z_14.toInt = ag.toInt + 1 by omega, stQ_s (by subst hj1; omega), ← hhv, or_tb]
            have := hm3 k9 h9
            constructor
            · intro q9
              rcases q9 with q9 | q9
              · exact Or.inl (this.mp q9)
              · exact Or.inr (by subst hj1; omega)
            · intro q9
              rcases q9 with q9 | q9
              · exact Or.inl (this.mpr q9)
              · exact Or.inr (by subst hj1; omega)⟩) hP hS (lv_sub hl [3, 4, 1, 0] rfl)
  have hz_15 : (0 : Int32).toInt = 0 := by decide
  have hz_16 : (1 : Int32).toInt = 1 := by decide
  exact loop4 ((20 - (1 : Int32).toInt).toNat + 1) (0 : Int32) (1 : Int32) _ _ _ (by subst hj1; omega) (by first | assumption | omega | (subst hj1; omega)) (⟨0, by decide, rfl, fun k9 h9 => ⟨fun q9 => (by rw [Nat.zero_testBit] at q9; cases q9), fun q9 => by obtain ⟨a9, h8, h7, -⟩ := q9; rw [show (1 : Int32).toInt = 1 from rfl] at h7; omega⟩⟩) hP hS (lv_sub hl [2, 3, 1, 0] rfl)
set_option maxRecDepth 100000 in
set_option maxHeartbeats 4000000 in
theorem t_X10_statem (l : Launch) (D : va_G) (cI cR cM : ClassId) (sz : Nat) {jn : Nat} {g : Nat → Nat} {L : List Nat} {S : Sg} {f : Nat → va_E} {x y : Int32} {lv gr : Nat → Nat} {Ev : Int → Env1} {T9 lk9 : Int} {cb : Nat → Int32} {n9 : Int} (hj : 1 ≤ jn ∧ jn ≤ 3) (hG : SG g L S) (hI : IN jn cI cR cM g L S f) (hj1 : jn = 1) (hcl : CLS cI cR jn g lv gr L S f T9 lk9 Ev cb n9) (hEOa : ∀ t9 : Int, 0 ≤ t9 → t9 ≤ T9 → EOk (Ev t9)) : Met l yX10_state wsX10_state ({ frames := 5, cells := 0, slots := 0, locals := 108 }) (P0 D cI cR cM [.ref (g 10), .int x, .int y] sz (va_pl L f)) (QG (S := Int32 × (Nat → va_E)) (fun u => some (.int u.1)) (fun u => va_pl L u.2) (fun u => IN jn cI cR cM g L S u.2 ∧ FR S [35] f u.2 ∧ (StAns Ev lk9 x.toInt y.toInt u.1.toInt) ∧ (CLS cI cR jn g lv gr L S u.2 T9 lk9 Ev cb n9) ∧ (FX S (fun _ => False) [35] f u.2)) D (va_A (va_pl L f) sz)) 0 0 (va_A (va_pl L f) sz) := by
  refine go (cc := cX10_state) (maxL := 4) (ret := (some .int)) (by decide +kernel) rfl (Nat.le_of_ble_eq_true rfl) ?_
  intro p e s m below meth c ls args Q hQ hsz hx hb hr hml hts hown hlocks hnm hP hK hD hl
  subst hsz
  have hD := hD.self (sz := s.heap.size)
  generalize hAe : va_A (va_pl L f) s.heap.size = A at hD hQ
  have hA : ∀ q, s.heap.size ≤ q → A q := fun q h => by rw [← hAe]; exact Or.inr h
  have hS : va_S A s.heap s.heap [] := va_S.rf
  have hFX : FX S (fun _ => False) [35] f f := FX_rf
  have hF : FR S [35] f f := FR_rf
  have hl : lv_has ls 4 [(0, .ref (g 10)), (1, .int x), (2, .int y)] := hl
  obtain ⟨cb0, tm0, lk0, q20, q12, qT, qlk, qP⟩ := hcl.1
  obtain ⟨iw0, iw1, iw2⟩ := iv_12 hI (gm_12 hG) (gs_12 hG) q12
  have hlk : 0 ≤ lk9 ∧ lk9 ≤ T9 := by omega
  refine lv_aload_n hx hb dX10_state_0 rfl (lv_at hl 0 rfl) ?_
  have fg_1 := op_10 hI (gm_10 hG) (gs_10 hG)
  refine t_get (D := D) (L := L) (f := f) (ci := 10) (v := .ref (g 12)) (C := RX10) (T := TX10) (N := 8) hx hb hts (by decide +kernel) hown hK.1 hP (gm_10 hG) fg_1 rfl 2 (by decide) (hts (.fieldLink RX10 32 "JugglingHall" "book" "LJugglingHall$Book;") (by decide +kernel)) (fun _ h9 => h9) rfl dX10_state_1 ?_
  refine lv_iload_n hx hb dX10_state_4 rfl (lv_at hl 1 rfl) ?_
  obtain ⟨tm_2, lk_2, fg_2, iv0_2, iv1_2, iv2_2⟩ := op_12 hI (gm_12 hG) (gs_12 hG)
  refine roR (va_runV (As := [.int x]) (rest := []) ⟨hx, hb, hml, hown, hts⟩ (t_X0_rowSeenm l D cI cR cM _   hj hG hI  (by first | assumption | omega | (subst hj1; omega))) (cwV 1 hts gX10_state_X0_rowSeen rfl rfl rfl (by decide +kernel) ⟨Nat.le_of_ble_eq_true rfl, Nat.le_of_ble_eq_true rfl⟩) (pre_T hK hP hD (gm_12 hG) fg_2 rfl) rfl rfl hl.1 rfl (lv_room (Nat.le_of_ble_eq_true rfl)) dX10_state_5 ⟨Nat.le_of_ble_eq_true rfl, Nat.le_of_ble_eq_true rfl⟩) hS hA hP (fun w_3 H locs hw hP hS => ?_)
  obtain ⟨ho_3, he_3⟩ : (∀ z, w_3 = some z → ∃ p n, isRow L S z p n) ∧ ((¬ (0 ≤ x.toInt ∧ x.toInt < 8) ∧ w_3 = none) ∨ ((0 ≤ x.toInt ∧ x.toInt < 8) ∧ ∀ (c9 : Nat → Option Nat) (tm9 lk9 : Int32), f (g 20) = refs cR 488 c9 → f (g 12) = .inr (0, [.ref (g 20), .ref (g 21), .int tm9, .int lk9]) → w_3 = c9 (8 * lk9.toInt + x.toInt).toNat)) := hw
  rcases x_opt w_3 with e_4 | ⟨r_4, e_4⟩
  · subst e_4
    refine W.eq (g2 := F0 m 8 ls [.null]) rfl ?_
    have hl : lv_has ls 4 [(0, .ref (g 10)), (1, .int x), (2, .int y)] := hl
    refine lv_astore_nN (lv' := [(3, .null), (0, .ref (g 10)), (1, .int x), (2, .int y)]) hx hb dX10_state_8 rfl hl (by decide) rfl (fun ls hl => ?_)
    have hz9 : StAns Ev lk9 x.toInt y.toInt (-1) := by
      rcases he_3 with ⟨h8, -⟩ | ⟨h8, h9⟩
      · exact Or.inl ⟨h8, rfl⟩
      · rcases BkR_at (w := none) hcl.1 hlk h8.1 h8.2 h9 with h7 | ⟨r9, h7, -⟩
        · exact Or.inr ⟨h8, Or.inr ⟨fun q9 => by have := q9.1; omega, rfl⟩⟩
        · cases h7
    refine lv_aload_n hx hb dX10_state_9 rfl (lv_at hl 1 rfl) ?_
    refine lv_aload_nN hx hb dX10_state_10 rfl (lv_at hl 0 rfl) ?_
    refine roP (va_runV (As := [.null]) (rest := []) ⟨hx, hb, hml, hown, hts⟩ (t_X10_isPlainAndGood_null l D cI cR cM _   hj hG hI  ) (cwV 1 hts gX10_state_X10_isPlainAndGood rfl rfl rfl (by decide +kernel) ⟨Nat.le_of_ble_eq_true rfl, Nat.le_of_ble_eq_true rfl⟩) (pre_T hK hP hD (gm_10 hG) fg_1 rfl) rfl rfl hl.1 rfl (lv_room (Nat.le_of_ble_eq_true rfl)) dX10_state_11 ⟨Nat.le_of_ble_eq_true rfl, Nat.le_of_ble_eq_true rfl⟩) hS hA hP (fun r_5 H locs hw hP hS => ?_)
    obtain ⟨h0_5, h01_5⟩ : (r_5.toInt = 0) ∧ (r_5.toInt = 0 ∨ r_5.toInt = 1) := hw
    refine a_if_eq (u := r_5.toInt) (tgt := 29) hx hb dX10_state_14 (by decide) (rfl) (fun c_6 => ?_) (fun c_6 => absurd c_6 (by subst hj1; omega))
    refine lv_iconst (v := (-1)) hx hb dX10_state_29 (by decide) ?_
    have hz_7 : (-1 : Int32).toInt = (-1) := by decide
    exact g_iret ((-1 : Int32), f) hx hb hr hlocks hS rfl (⟨hI, hF, show StAns Ev lk9 x.toInt y.toInt (-1 : Int32).toInt from (by rw [show (-1 : Int32).toInt = -1 from rfl]; exact hz9), show CLS cI cR jn g lv gr L S f T9 lk9 Ev cb n9 from (hcl), show FX S (fun _ => False) [35] f f from (by first | assumption | omega | (subst hj1; omega))⟩) hP hD hQ (Nat.le_of_ble_eq_true rfl) (Nat.le_of_ble_eq_true rfl) dX10_state_30
  · subst e_4
    refine W.eq (g2 := F0 m 8 ls [.ref r_4]) rfl ?_
    have hl : lv_has ls 4 [(0, .ref (g 10)), (1, .int x), (2, .int y)] := hl
    obtain ⟨p_8, n_8, m_8, s_8⟩ := ho_3 _ rfl
    refine lv_astore_n (lv' := [(3, .ref r_4), (0, .ref (g 10)), (1, .int x), (2, .int y)]) hx hb dX10_state_8 rfl hl (by decide) rfl (fun ls hl => ?_)
    obtain ⟨len_9, fg_9, v1_9, v2_9, v3_9, mp_9, sp_9⟩ := op_0 hI m_8 s_8
    obtain ⟨w1_9, w2_9, w3_9, w4_9, w5_9⟩ := lenw hj v1_9 v2_9 v3_9
    obtain ⟨c_10, fg_10, iv0_10⟩ := op_1 hI mp_9 sp_9
    have hx8 : 0 ≤ x.toInt ∧ x.toInt < 8 := by
      rcases he_3 with ⟨-, h8⟩ | ⟨h8, -⟩
      · cases h8
      · exact h8
    obtain ⟨r9, hr9, hn0, hr8, -⟩ := (BkR_at (w := some r_4) hcl.1 hlk hx8.1 hx8.2 (he_3.elim (fun h8 => absurd hx8 h8.1) (fun h8 => h8.2))).resolve_left (fun q9 => by cases q9.1)
    cases hr9
    obtain ⟨hn1, hn2⟩ := RWf_at hr8 s_8 fg_9 fg_10
    have hn3 := (hEOa lk9 (by subst hj1; omega) (by subst hj1; omega) x.toInt hx8.1 hx8.2).2.1
    refine lv_aload_n hx hb dX10_state_9 rfl (lv_at hl 1 rfl) ?_
    refine lv_aload_n hx hb dX10_state_10 rfl (lv_at hl 0 rfl) ?_
    refine call_p (va_runV (As := [.ref r_4]) (rest := []) ⟨hx, hb, hml, hown, hts⟩ (t_X10_isPlainAndGoodm l D cI cR cM _ (w := (Ev lk9 x.toInt).2)  hj hG hI m_8 s_8 fg_9 fg_10 (by first | assumption | omega | (subst hj1; omega)) (by rw [hn1]; exact hn2) (by subst hj1; omega)) (cwV 1 hts gX10_state_X10_isPlainAndGood rfl rfl rfl (by decide +kernel) ⟨Nat.le_of_ble_eq_true rfl, Nat.le_of_ble_eq_true rfl⟩) (pre_T hK hP hD (gm_10 hG) fg_1 rfl) rfl rfl hl.1 rfl (lv_room (Nat.le_of_ble_eq_true rfl)) dX10_state_11 ⟨Nat.le_of_ble_eq_true rfl, Nat.le_of_ble_eq_true rfl⟩) hD hS hA (fun u_11 H locs hw hP hD hS => ?_)
    obtain ⟨r_11, f_11⟩ := u_11
    obtain ⟨hI, hF_11, hp_11, hfx_11, h01_11⟩ : IN jn cI cR cM g L S f_11 ∧ FR S [35] f f_11 ∧ (Hd ((r_11.toInt = 1 ∧ plW (Ev lk9 x.toInt).2 0 len_9.toInt ∧ GdW (Ev lk9 x.toInt).2 len_9.toInt) ∨ (r_11.toInt = 0 ∧ ¬ (plW (Ev lk9 x.toInt).2 0 len_9.toInt ∧ GdW (Ev lk9 x.toInt).2 len_9.toInt)))) ∧ (FX S (fun _ => False) [35] f f_11) ∧ (r_11.toInt = 0 ∨ r_11.toInt = 1) := hw
    have hP : va_P D vwCl (va_pl L f_11) H := hP
    have hD : va_D A (va_pl L f_11) := hD
    have hF := FR_tr hF hF_11 (by decide)
    have hFX := FX_tr hFX hfx_11 (fun _ h9 => h9.elim) (by decide)
    have fb_12 : f_11 (g 10) = .inr (10, [.int (nI jn), .ref (g 11), .ref (g 12), .ref (g 13), .ref (g 15), .ref (g 16), .ref (g 17), .ref (g 18)]) := FR_at hF_11 (gs_10 hG) (show (10 : Nat) ∉ ([35] : List Nat) by decide) fg_1
    have fb_13 : f_11 (g 12) = .inr (0, [.ref (g 20), .ref (g 21), .int tm_2, .int lk_2]) := FR_at hF_11 (gs_12 hG) (show (12 : Nat) ∉ ([35] : List Nat) by decide) fg_2
    have fb_14 : f_11 r_4 = .inr (5, [.int (nI jn), .int (nI (2 * jn)), .ref p_8, .int len_9]) := FR_at hF_11 s_8 (show (0 : Nat) ∉ ([35] : List Nat) by decide) fg_9
    have fb_15 : f_11 p_8 = .inl (cI, n_8, .inl c_10) := FR_at hF_11 sp_9 (show (1 : Nat) ∉ ([35] : List Nat) by decide) fg_10
    refine a_if_eq (u := r_11.toInt) (tgt := 29) hx hb dX10_state_14 (by decide) (rfl) (fun c_16 => ?_) (fun c_16 => ?_)
    · refine lv_iconst (v := (-1)) hx hb dX10_state_29 (by decide) ?_
      have hz_17 : (-1 : Int32).toInt = (-1) := by decide
      exact g_iret ((-1 : Int32), f_11) hx hb hr hlocks hS rfl (⟨hI, hF, show StAns Ev lk9 x.toInt y.toInt (-1 : Int32).toInt from (by
        have h8 := (hp_11.resolve_left (fun q9 => by have := q9.1; omega)).2
        rw [hn1] at h8
        exact Or.inr ⟨hx8, Or.inr ⟨fun q9 => h8 ⟨q9.2.1, q9.2.2.1⟩, rfl⟩⟩), show CLS cI cR jn g lv gr L S f_11 T9 lk9 Ev cb n9 from (CLS_fr hcl hG hF (by decide)), show FX S (fun _ => False) [35] f f_11 from (by first | assumption | omega | (subst hj1; omega))⟩) hP hD hQ (Nat.le_of_ble_eq_true rfl) (Nat.le_of_ble_eq_true rfl) dX10_state_30
    · refine lv_iload_n hx hb dX10_state_17 rfl (lv_at hl 3 rfl) ?_
      refine a_if_lt (u := y.toInt) (tgt := 29) hx hb dX10_state_18 (by decide) (rfl) (fun c_18 => ?_) (fun c_18 => ?_)
      · refine lv_iconst (v := (-1)) hx hb dX10_state_29 (by decide) ?_
        have hz_19 : (-1 : Int32).toInt = (-1) := by decide
        exact g_iret ((-1 : Int32), f_11) hx hb hr hlocks hS rfl (⟨hI, hF, show StAns Ev lk9 x.toInt y.toInt (-1 : Int32).toInt from (Or.inr ⟨hx8, Or.inr ⟨fun q9 => by have h8 := q9.2.2.2; omega, rfl⟩⟩), show CLS cI cR jn g lv gr L S f_11 T9 lk9 Ev cb n9 from (CLS_fr hcl hG hF (by decide)), show FX S (fun _ => False) [35] f f_11 from (by first | assumption | omega | (subst hj1; omega))⟩) hP hD hQ (Nat.le_of_ble_eq_true rfl) (Nat.le_of_ble_eq_true rfl) dX10_state_30
      · refine lv_iload_n hx hb dX10_state_21 rfl (lv_at hl 3 rfl) ?_
        refine lv_aload_n hx hb dX10_state_22 rfl (lv_at hl 0 rfl) ?_
        refine t_getN (D := D) (L := L) (f := f_11) (ci := 5) (v := .int len_9) (C := RX5) (T := TX5) (N := 4) (host := "JugglingHall") hx hb hts (by decide +kernel) hown hK.1 hP m_8 fb_14 rfl 3 (by decide) (hK.nw (.fieldLinkNest RX10 115 "JugglingHall$Row" "length" "I" "JugglingHall") (by decide +kernel) rfl) (fun _ h9 => h9) rfl dX10_state_23 ?_
        refine a_icmp_lt (u := y.toInt) (v := len_9.toInt) (tgt := 31) hx hb dX10_state_26 (by decide) (rfl) (rfl) (fun c_20 => ?_) (fun c_20 => ?_)
        · refine lv_aload_n hx hb dX10_state_31 rfl (lv_at hl 0 rfl) ?_
          refine lv_iload_n hx hb dX10_state_32 rfl (lv_at hl 3 rfl) ?_
          refine roP (va_runS (As := [.ref r_4, .int y]) (rest := []) ⟨hx, hb, hml, hown, hts⟩ (t_X9_stateOfm l D cI cR cM _ (w := (Ev lk9 x.toInt).2)  hj hG hI m_8 s_8 fb_14 fb_15 (by first | assumption | omega | (subst hj1; omega)) (by rw [hn1]; exact hn2) (by subst hj1; omega)) (va_cwS 2 hts gX10_state_X9_stateOf rfl rfl rfl (by decide +kernel) ⟨Nat.le_of_ble_eq_true rfl, Nat.le_of_ble_eq_true rfl⟩) (pre_S hK hP hD) rfl rfl hl.1 rfl (lv_room (Nat.le_of_ble_eq_true rfl)) dX10_state_33 ⟨Nat.le_of_ble_eq_true rfl, Nat.le_of_ble_eq_true rfl⟩) hS hA hP (fun r_21 H locs hw hP hS => ?_)
          have hp_21 : (∃ M9 : Nat, r_21 = nI M9 ∧ StM (Ev lk9 x.toInt).2 len_9.toInt y.toInt M9) := hw
          exact g_iret (r_21, f_11) hx hb hr hlocks hS rfl (⟨hI, hF, show StAns Ev lk9 x.toInt y.toInt r_21.toInt from (by
            have h8 := (hp_11.resolve_right (fun q9 => by have := q9.1; omega)).2
            obtain ⟨M9, h7, h6⟩ := hp_21
            rw [hn1] at h8 h6
            refine Or.inr ⟨hx8, Or.inl ⟨M9, ⟨hn0, h8.1, h8.2, by omega, by omega⟩, ?_, h6⟩⟩
            rw [h7, nI_toInt (by have := h6.1; omega)]), show CLS cI cR jn g lv gr L S f_11 T9 lk9 Ev cb n9 from (CLS_fr hcl hG hF (by decide)), show FX S (fun _ => False) [35] f f_11 from (by first | assumption | omega | (subst hj1; omega))⟩) hP hD hQ (Nat.le_of_ble_eq_true rfl) (Nat.le_of_ble_eq_true rfl) dX10_state_36
        · refine lv_iconst (v := (-1)) hx hb dX10_state_29 (by decide) ?_
          have hz_22 : (-1 : Int32).toInt = (-1) := by decide
          exact g_iret ((-1 : Int32), f_11) hx hb hr hlocks hS rfl (⟨hI, hF, show StAns Ev lk9 x.toInt y.toInt (-1 : Int32).toInt from (Or.inr ⟨hx8, Or.inr ⟨fun q9 => by have h8 := q9.2.2.2; omega, rfl⟩⟩), show CLS cI cR jn g lv gr L S f_11 T9 lk9 Ev cb n9 from (CLS_fr hcl hG hF (by decide)), show FX S (fun _ => False) [35] f f_11 from (by first | assumption | omega | (subst hj1; omega))⟩) hP hD hQ (Nat.le_of_ble_eq_true rfl) (Nat.le_of_ble_eq_true rfl) dX10_state_30
