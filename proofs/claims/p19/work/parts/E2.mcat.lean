/-- the class's arrays of sources and numbers -/
def Arf (cI : ClassId) (f : Nat → va_E) (a : Nat) (s : Int → Int) (N : Int) : Prop := ∃ c : Nat → Int32, f a = .inl (cI, 144, .inl c) ∧ ∀ t : Int, 0 ≤ t → t < N → (c t.toNat).toInt = s t
theorem Arf_at {cI : ClassId} {f : Nat → va_E} {a : Nat} {s : Int → Int} {N : Int} {c : Nat → Int32} (h : Arf cI f a s N) (h1 : f a = .inl (cI, 144, .inl c)) : ∀ t : Int, 0 ≤ t → t < N → (c t.toNat).toInt = s t := by
  obtain ⟨c9, q1, q2⟩ := h
  have := arr_in q1 h1
  subst this
  exact q2
theorem Arf_fr {cI : ClassId} {S : Sg} {f f1 : Nat → va_E} {a k : Nat} {s : Int → Int} {N : Int} {T : List Nat} (h : Arf cI f a s N) (hs : S a = (k, 0, 0)) (hF : FR S T f f1) (ht : k ∉ T) : Arf cI f1 a s N := by
  obtain ⟨c9, q1, q2⟩ := h
  exact ⟨c9, by rw [hF _ (by rw [hs]; exact ht)]; exact q1, q2⟩
theorem Arf_u {cI : ClassId} {f : Nat → va_E} {a : Nat} {s : Int → Int} {N u : Int} {c c1 : Nat → Int32} {x : Int32} (h : ∀ t : Int, 0 ≤ t → t < N → (c t.toNat).toInt = s t) (h0 : 0 ≤ u) (e : c1 = upd c u.toNat x) (hf : f a = .inl (cI, 144, .inl c1)) : Arf cI f a (fupd s u x.toInt) N := ⟨c1, hf, fun t t0 t1 => by
  by_cases q : t = u
  · rw [q, e, pk_us, fu_s]
  · rw [e, un_i t0 h0 q, fu_n q]; exact h t t0 t1⟩
set_option maxRecDepth 100000 in
set_option maxHeartbeats 4000000 in
theorem t_X1_rankm (l : Launch) (D : va_G) (cI cR cM : ClassId) (sz : Nat) {jn : Nat} {g : Nat → Nat} {L : List Nat} {S : Sg} {f : Nat → va_E} {kc : Int32} {b b_p b_n : Nat} {b_l : Int32} {b_c : Nat → Int32} {x : Int32} {w : Int → Int} (hj : 1 ≤ jn ∧ jn ≤ 3) (hG : SG g L S) (hI : IN jn cI cR cM g L S f) (f_cat : f (g 15) = .inr (1, [.ref (g 35), .ref (g 27), .ref (g 36), .ref (g 37), .ref (g 38), .ref (g 39), .int kc, va_rf (some b)])) (m_b : b ∈ L) (s_b : S b = (0, b_p, b_n)) (f_b : f b = .inr (5, [.int (nI jn), .int (nI (2 * jn)), .ref b_p, .int b_l])) (f_b_p : f b_p = .inl (cI, b_n, .inl b_c)) (hj1 : jn = 1) (hRC : RC b_c w b_l.toInt) (hx0 : 0 ≤ x.toInt ∧ x.toInt < 2 * b_l.toInt) : Met l yX1_rank wsX1_rank ({ frames := 1, cells := 0, slots := 0, locals := 21 }) (P0 D cI cR cM [.ref (g 15), .int x] sz (va_pl L f)) (QP (fun r => (r.toInt = 144 * w x.toInt - x.toInt % 2)) sz) 0 0 (va_A [] sz) := by
  refine go (cc := cX1_rank) (maxL := 2) (ret := (some .int)) (by decide +kernel) rfl (Nat.le_of_ble_eq_true rfl) ?_
  intro p e s m below meth c ls args Q hQ hsz hx hb hr hml hts hown hlocks hnm hP hK hD hl
  subst hsz
  have hS : va_S (va_A [] s.heap.size) s.heap s.heap [] := va_S.rf
  have hA : ∀ q, s.heap.size ≤ q → va_A [] s.heap.size q := fun q h => Or.inr h
  have hl : lv_has ls 2 [(0, .ref (g 15)), (1, .int x)] := hl
  obtain ⟨v1_cat, v2_cat, v3_cat⟩ := iv_15 hI (gm_15 hG) (gs_15 hG) f_cat
  obtain ⟨v1_b, v2_b, v3_b, m_b_p, s_b_p⟩ := iv_0 hI m_b s_b f_b
  obtain ⟨w1_b, w2_b, w3_b, w4_b, w5_b⟩ := lenw hj v1_b v2_b v3_b
  have k_b := iv_1 hI m_b_p s_b_p f_b_p
  refine lv_aload_n hx hb dX1_rank_0 rfl (lv_at hl 0 rfl) ?_
  refine t_get (D := D) (L := L) (f := f) (ci := 1) (v := .ref b) (C := RX1) (T := TX1) (N := 8) hx hb hts (by decide +kernel) hown hK.1 hP (gm_15 hG) f_cat rfl 7 (by decide) (hts (.fieldLink RX1 60 "JugglingHall$Catches" "row" "LJugglingHall$Row;") (by decide +kernel)) (fun _ h9 => h9) rfl dX1_rank_1 ?_
  refine lv_iload_n hx hb dX1_rank_4 rfl (lv_at hl 1 rfl) ?_
  refine roP (va_runV (As := [.int x]) (rest := []) ⟨hx, hb, hml, hown, hts⟩ (t_X5_heightm l D cI cR cM _ (w := w)  hj hG hI m_b s_b f_b f_b_p (by first | assumption | omega | (subst hj1; omega)) (by first | assumption | omega | (subst hj1; omega)) (hRC)) (cwV 1 hts gX1_rank_X5_height rfl rfl rfl (by decide +kernel) ⟨Nat.le_of_ble_eq_true rfl, Nat.le_of_ble_eq_true rfl⟩) (pre_T hK hP hD m_b f_b rfl) rfl rfl hl.1 rfl (lv_room (Nat.le_of_ble_eq_true rfl)) dX1_rank_5 ⟨Nat.le_of_ble_eq_true rfl, Nat.le_of_ble_eq_true rfl⟩) hS hA hP (fun r_1 H locs hw hP hS => ?_)
  obtain ⟨h_1, hb_1⟩ : (r_1.toInt = w x.toInt) ∧ (0 ≤ r_1.toInt ∧ r_1.toInt ≤ 9) := hw
  refine lv_sipush (v := 144) hx hb dX1_rank_8 (by decide) ?_
  refine a_imul (u := r_1.toInt) (v := 144) hx hb dX1_rank_11 (rfl) (by decide) (by subst hj1; omega) (fun z_2 e_2 => ?_)
  refine lv_iload_n hx hb dX1_rank_12 rfl (lv_at hl 1 rfl) ?_
  refine lv_aload_n hx hb dX1_rank_13 rfl (lv_at hl 0 rfl) ?_
  refine t_get (D := D) (L := L) (f := f) (ci := 1) (v := .ref b) (C := RX1) (T := TX1) (N := 8) hx hb hts (by decide +kernel) hown hK.1 hP (gm_15 hG) f_cat rfl 7 (by decide) (hts (.fieldLink RX1 60 "JugglingHall$Catches" "row" "LJugglingHall$Row;") (by decide +kernel)) (fun _ h9 => h9) rfl dX1_rank_14 ?_
  refine t_getN (D := D) (L := L) (f := f) (ci := 5) (v := .int (nI (2 * jn))) (C := RX5) (T := TX5) (N := 4) (host := "JugglingHall") hx hb hts (by decide +kernel) hown hK.1 hP m_b f_b rfl 1 (by decide) (hK.nw (.fieldLinkNest RX1 82 "JugglingHall$Row" "width" "I" "JugglingHall") (by decide +kernel) rfl) (fun _ h9 => h9) rfl dX1_rank_17 ?_
  refine a_irem (u := x.toInt) (v := (2 * (jn : Int))) hx hb dX1_rank_20 (rfl) (w2 hj) (by subst hj1; omega) (fun z_3 e_3 h_3 k_3 => ?_)
  refine a_isub (u := (r_1.toInt * 144)) (v := z_3.toInt) hx hb dX1_rank_21 (e_2) (rfl) (by subst hj1; omega) (fun z_4 e_4 => ?_)
  exact rp_iret hx hb hr hlocks hS (show z_4.toInt = 144 * w x.toInt - x.toInt % 2 from (by first | assumption | omega | (subst hj1; omega))) hQ dX1_rank_22
set_option maxRecDepth 100000 in
set_option maxHeartbeats 4000000 in
theorem t_X1_landm (l : Launch) (D : va_G) (cI cR cM : ClassId) (sz : Nat) {jn : Nat} {g : Nat → Nat} {L : List Nat} {S : Sg} {f : Nat → va_E} {kc : Int32} {b b_p b_n : Nat} {b_l : Int32} {b_c : Nat → Int32} {x y : Int32} {w so : Int → Int} (hj : 1 ≤ jn ∧ jn ≤ 3) (hG : SG g L S) (hI : IN jn cI cR cM g L S f) (f_cat : f (g 15) = .inr (1, [.ref (g 35), .ref (g 27), .ref (g 36), .ref (g 37), .ref (g 38), .ref (g 39), .int kc, va_rf (some b)])) (m_b : b ∈ L) (s_b : S b = (0, b_p, b_n)) (f_b : f b = .inr (5, [.int (nI jn), .int (nI (2 * jn)), .ref b_p, .int b_l])) (f_b_p : f b_p = .inl (cI, b_n, .inl b_c)) (hj1 : jn = 1) (hRC : RC b_c w b_l.toInt) (hx0 : 0 ≤ x.toInt ∧ x.toInt < 2 * b_l.toInt ∧ b_l.toInt ≤ 24) (hy0 : 0 ≤ y.toInt ∧ y.toInt + 1 < 2 * b_l.toInt) (hsc : Arf cI f (g 27) so (2 * b_l.toInt)) (hsr : so y.toInt = -1 ∨ (0 ≤ so y.toInt ∧ so y.toInt < 2 * b_l.toInt)) : Met l yX1_land wsX1_land ({ frames := 2, cells := 0, slots := 0, locals := 42 }) (P0 D cI cR cM [.ref (g 15), .int x, .int y] sz (va_pl L f)) (QG (S := Nat → va_E) (fun u => none) (fun u => va_pl L u) (fun u => IN jn cI cR cM g L S u ∧ FR S [27] f u ∧ (∃ s1 : Int → Int, Arf cI u (g 27) s1 (2 * b_l.toInt) ∧ (∀ t9 : Int, t9 ≠ y.toInt → t9 ≠ y.toInt + 1 → s1 t9 = so t9) ∧ ((so y.toInt = -1 ∧ s1 y.toInt = x.toInt ∧ s1 (y.toInt + 1) = so (y.toInt + 1)) ∨ (so y.toInt ≠ -1 ∧ Ahd w x.toInt (so y.toInt) ∧ s1 y.toInt = x.toInt ∧ s1 (y.toInt + 1) = so y.toInt) ∨ (so y.toInt ≠ -1 ∧ ¬ Ahd w x.toInt (so y.toInt) ∧ s1 y.toInt = so y.toInt ∧ s1 (y.toInt + 1) = x.toInt))) ∧ (FX S (fun _ => False) [27] f u)) D (va_A (va_pl L f) sz)) 0 0 (va_A (va_pl L f) sz) := by
  refine go (cc := cX1_land) (maxL := 3) (ret := none) (by decide +kernel) rfl (Nat.le_of_ble_eq_true rfl) ?_
  intro p e s m below meth c ls args Q hQ hsz hx hb hr hml hts hown hlocks hnm hP hK hD hl
  subst hsz
  have hD := hD.self (sz := s.heap.size)
  generalize hAe : va_A (va_pl L f) s.heap.size = A at hD hQ
  have hA : ∀ q, s.heap.size ≤ q → A q := fun q h => by rw [← hAe]; exact Or.inr h
  have hS : va_S A s.heap s.heap [] := va_S.rf
  have hFX : FX S (fun _ => False) [27] f f := FX_rf
  have hF : FR S [27] f f := FR_rf
  have hl : lv_has ls 3 [(0, .ref (g 15)), (1, .int x), (2, .int y)] := hl
  obtain ⟨v1_cat, v2_cat, v3_cat⟩ := iv_15 hI (gm_15 hG) (gs_15 hG) f_cat
  obtain ⟨v1_b, v2_b, v3_b, m_b_p, s_b_p⟩ := iv_0 hI m_b s_b f_b
  obtain ⟨w1_b, w2_b, w3_b, w4_b, w5_b⟩ := lenw hj v1_b v2_b v3_b
  have k_b := iv_1 hI m_b_p s_b_p f_b_p
  obtain ⟨c_1, fg_1, iv0_1⟩ := op_27 hI (gm_27 hG) (gs_27 hG)
  have hs9 := Arf_at hsc fg_1
  have hsy := hs9 y.toInt (by subst hj1; omega) (by subst hj1; omega)
  refine lv_aload_n hx hb dX1_land_0 rfl (lv_at hl 0 rfl) ?_
  refine t_get (D := D) (L := L) (f := f) (ci := 1) (v := .ref (g 27)) (C := RX1) (T := TX1) (N := 8) hx hb hts (by decide +kernel) hown hK.1 hP (gm_15 hG) f_cat rfl 1 (by decide) (hts (.fieldLink RX1 15 "JugglingHall$Catches" "source" "[I") (by decide +kernel)) (fun _ h9 => h9) rfl dX1_land_1 ?_
  refine lv_iload_n hx hb dX1_land_4 rfl (lv_at hl 2 rfl) ?_
  refine t_iald (L := L) (f := f) (y := c_1) (u := y.toInt) hx hb hK.1 hP (gm_27 hG) 0 fg_1 rfl dX1_land_5 (rfl) (by subst hj1; omega) (fun z_2 q_2 e_2 => ?_)
  have a1_2 : -1 ≤ z_2.toInt ∧ z_2.toInt ≤ 143 := by rw [q_2]; exact iv0_1 y.toInt (by subst hj1; omega) (by subst hj1; omega)
  have hv5 : z_2.toInt = so y.toInt := by rw [q_2]; exact hsy
  refine lv_iconst (v := (-1)) hx hb dX1_land_6 (by decide) ?_
  refine a_icmp_ne (u := z_2.toInt) (v := (-1)) (tgt := 20) hx hb dX1_land_7 (by decide) (rfl) (by decide) (fun c_3 => ?_) (fun c_3 => ?_)
  · refine lv_aload_n hx hb dX1_land_20 rfl (lv_at hl 0 rfl) ?_
    refine lv_iload_n hx hb dX1_land_21 rfl (lv_at hl 1 rfl) ?_
    refine roP (va_runV (As := [.int x]) (rest := []) ⟨hx, hb, hml, hown, hts⟩ (t_X1_rankm l D cI cR cM _ (w := w)  hj hG hI f_cat m_b s_b f_b f_b_p (by first | assumption | omega | (subst hj1; omega)) (hRC) (by subst hj1; omega)) (cwV 1 hts gX1_land_X1_rank rfl rfl rfl (by decide +kernel) ⟨Nat.le_of_ble_eq_true rfl, Nat.le_of_ble_eq_true rfl⟩) (pre_T hK hP hD (gm_15 hG) f_cat rfl) rfl rfl hl.1 rfl (lv_room (Nat.le_of_ble_eq_true rfl)) dX1_land_22 ⟨Nat.le_of_ble_eq_true rfl, Nat.le_of_ble_eq_true rfl⟩) hS hA hP (fun r_4 H locs hw hP hS => ?_)
    have h_4 : (r_4.toInt = 144 * w x.toInt - x.toInt % 2) := hw
    refine lv_aload_n hx hb dX1_land_25 rfl (lv_at hl 0 rfl) ?_
    refine lv_aload_n hx hb dX1_land_26 rfl (lv_at hl 0 rfl) ?_
    refine t_get (D := D) (L := L) (f := f) (ci := 1) (v := .ref (g 27)) (C := RX1) (T := TX1) (N := 8) hx hb hts (by decide +kernel) hown hK.1 hP (gm_15 hG) f_cat rfl 1 (by decide) (hts (.fieldLink RX1 15 "JugglingHall$Catches" "source" "[I") (by decide +kernel)) (fun _ h9 => h9) rfl dX1_land_27 ?_
    refine lv_iload_n hx hb dX1_land_30 rfl (lv_at hl 2 rfl) ?_
    refine t_iald (L := L) (f := f) (y := c_1) (u := y.toInt) hx hb hK.1 hP (gm_27 hG) 0 fg_1 rfl dX1_land_31 (rfl) (by subst hj1; omega) (fun z_5 q_5 e_5 => ?_)
    have a1_5 : -1 ≤ z_5.toInt ∧ z_5.toInt ≤ 143 := by rw [q_5]; exact iv0_1 y.toInt (by subst hj1; omega) (by subst hj1; omega)
    have hv31 : z_5.toInt = so y.toInt := by rw [q_5]; exact hsy
    refine roP (va_runV (As := [.int z_5]) (rest := [.int r_4]) ⟨hx, hb, hml, hown, hts⟩ (t_X1_rankm l D cI cR cM _ (w := w)  hj hG hI f_cat m_b s_b f_b f_b_p (by first | assumption | omega | (subst hj1; omega)) (hRC) (by subst hj1; omega)) (cwV 1 hts gX1_land_X1_rank rfl rfl rfl (by decide +kernel) ⟨Nat.le_of_ble_eq_true rfl, Nat.le_of_ble_eq_true rfl⟩) (pre_T hK hP hD (gm_15 hG) f_cat rfl) rfl rfl hl.1 rfl (lv_room (Nat.le_of_ble_eq_true rfl)) dX1_land_32 ⟨Nat.le_of_ble_eq_true rfl, Nat.le_of_ble_eq_true rfl⟩) hS hA hP (fun r_6 H locs hw hP hS => ?_)
    have h_6 : (r_6.toInt = 144 * w z_5.toInt - z_5.toInt % 2) := hw
    refine a_icmp_le (u := r_4.toInt) (v := r_6.toInt) (tgt := 62) hx hb dX1_land_35 (by decide) (rfl) (rfl) (fun c_7 => ?_) (fun c_7 => ?_)
    · refine lv_aload_n hx hb dX1_land_62 rfl (lv_at hl 0 rfl) ?_
      refine t_get (D := D) (L := L) (f := f) (ci := 1) (v := .ref (g 27)) (C := RX1) (T := TX1) (N := 8) hx hb hts (by decide +kernel) hown hK.1 hP (gm_15 hG) f_cat rfl 1 (by decide) (hts (.fieldLink RX1 15 "JugglingHall$Catches" "source" "[I") (by decide +kernel)) (fun _ h9 => h9) rfl dX1_land_63 ?_
      refine lv_iload_n hx hb dX1_land_66 rfl (lv_at hl 2 rfl) ?_
      refine lv_iconst (v := 1) hx hb dX1_land_67 (by decide) ?_
      refine a_iadd (u := y.toInt) (v := 1) hx hb dX1_land_68 (rfl) (by decide) (by subst hj1; omega) (fun z_8 e_8 => ?_)
      refine lv_iload_n hx hb dX1_land_69 rfl (lv_at hl 1 rfl) ?_
      refine t_iast (L := L) (f := f) (h := c_1) (u := (y.toInt + 1)) hx hb hK.1 hP hD hS (gm_27 hG) 0 fg_1 rfl dX1_land_70 (e_8) (by subst hj1; omega) (fun g_9 f_9 H locs eg_9 e9_9 o_9 hP hD hS => ?_)
      have ok_9 : ∀ i : Int, 0 ≤ i → i < 144 → -1 ≤ (g_9 i.toNat).toInt ∧ (g_9 i.toNat).toInt ≤ 143 := by rw [eg_9]; exact rng_set iv0_1 (by subst hj1; omega) ⟨by omega, by omega⟩
      have fa_9 : f_9 (g 27) = .inl (cI, 144, .inl g_9) := e9_9
      have hI := IN_set (e := .inl (cI, 144, .inl g_9)) hI (gs_27 hG) (mk_27 ok_9) fa_9 o_9
      have hF := FR_set hF (gs_27 hG) (show (27 : Nat) ∈ ([27] : List Nat) by decide) o_9
      have hFX := FX_setT hFX (gs_27 hG) (show (27 : Nat) ∈ ([27] : List Nat) by decide) o_9
      have fb_10 : f_9 (g 15) = .inr (1, [.ref (g 35), .ref (g 27), .ref (g 36), .ref (g 37), .ref (g 38), .ref (g 39), .int kc, va_rf (some b)]) := f_at o_9 (S_ne (gs_15 hG) (gs_27 hG) (show (15 : Nat) ≠ 27 by decide)) f_cat
      have fb_11 : f_9 b = .inr (5, [.int (nI jn), .int (nI (2 * jn)), .ref b_p, .int b_l]) := f_at o_9 (S_ne s_b (gs_27 hG) (show (0 : Nat) ≠ 27 by decide)) f_b
      have fb_12 : f_9 b_p = .inl (cI, b_n, .inl b_c) := f_at o_9 (S_ne s_b_p (gs_27 hG) (show (1 : Nat) ≠ 27 by decide)) f_b_p
      exact g_vret f_9 hx hb hr hlocks hS rfl (⟨hI, hF, show ∃ s1 : Int → Int, Arf cI f_9 (g 27) s1 (2 * b_l.toInt) ∧ (∀ t9 : Int, t9 ≠ y.toInt → t9 ≠ y.toInt + 1 → s1 t9 = so t9) ∧ ((so y.toInt = -1 ∧ s1 y.toInt = x.toInt ∧ s1 (y.toInt + 1) = so (y.toInt + 1)) ∨ (so y.toInt ≠ -1 ∧ Ahd w x.toInt (so y.toInt) ∧ s1 y.toInt = x.toInt ∧ s1 (y.toInt + 1) = so y.toInt) ∨ (so y.toInt ≠ -1 ∧ ¬ Ahd w x.toInt (so y.toInt) ∧ s1 y.toInt = so y.toInt ∧ s1 (y.toInt + 1) = x.toInt)) from (⟨_, Arf_u (u := y.toInt + 1) hs9 (by subst hj1; omega) (by rw [eg_9]) fa_9, fun t9 h8 h9 => fu_n h9, Or.inr (Or.inr ⟨by omega, (by unfold Ahd; rw [← hv31]; omega), fu_n (by subst hj1; omega), fu_s⟩)⟩), show FX S (fun _ => False) [27] f f_9 from (by first | assumption | omega | (subst hj1; omega))⟩) hP hD hQ (Nat.le_of_ble_eq_true rfl) (Nat.le_of_ble_eq_true rfl) dX1_land_71
    · refine lv_aload_n hx hb dX1_land_38 rfl (lv_at hl 0 rfl) ?_
      refine t_get (D := D) (L := L) (f := f) (ci := 1) (v := .ref (g 27)) (C := RX1) (T := TX1) (N := 8) hx hb hts (by decide +kernel) hown hK.1 hP (gm_15 hG) f_cat rfl 1 (by decide) (hts (.fieldLink RX1 15 "JugglingHall$Catches" "source" "[I") (by decide +kernel)) (fun _ h9 => h9) rfl dX1_land_39 ?_
      refine lv_iload_n hx hb dX1_land_42 rfl (lv_at hl 2 rfl) ?_
      refine lv_iconst (v := 1) hx hb dX1_land_43 (by decide) ?_
      refine a_iadd (u := y.toInt) (v := 1) hx hb dX1_land_44 (rfl) (by decide) (by subst hj1; omega) (fun z_13 e_13 => ?_)
      refine lv_aload_n hx hb dX1_land_45 rfl (lv_at hl 0 rfl) ?_
      refine t_get (D := D) (L := L) (f := f) (ci := 1) (v := .ref (g 27)) (C := RX1) (T := TX1) (N := 8) hx hb hts (by decide +kernel) hown hK.1 hP (gm_15 hG) f_cat rfl 1 (by decide) (hts (.fieldLink RX1 15 "JugglingHall$Catches" "source" "[I") (by decide +kernel)) (fun _ h9 => h9) rfl dX1_land_46 ?_
      refine lv_iload_n hx hb dX1_land_49 rfl (lv_at hl 2 rfl) ?_
      refine t_iald (L := L) (f := f) (y := c_1) (u := y.toInt) hx hb hK.1 hP (gm_27 hG) 0 fg_1 rfl dX1_land_50 (rfl) (by subst hj1; omega) (fun z_14 q_14 e_14 => ?_)
      have a1_14 : -1 ≤ z_14.toInt ∧ z_14.toInt ≤ 143 := by rw [q_14]; exact iv0_1 y.toInt (by subst hj1; omega) (by subst hj1; omega)
      have hv50 : z_14.toInt = so y.toInt := by rw [q_14]; exact hsy
      refine t_iast (L := L) (f := f) (h := c_1) (u := (y.toInt + 1)) hx hb hK.1 hP hD hS (gm_27 hG) 0 fg_1 rfl dX1_land_51 (e_13) (by subst hj1; omega) (fun g_15 f_15 H locs eg_15 e9_15 o_15 hP hD hS => ?_)
      have ok_15 : ∀ i : Int, 0 ≤ i → i < 144 → -1 ≤ (g_15 i.toNat).toInt ∧ (g_15 i.toNat).toInt ≤ 143 := by rw [eg_15]; exact rng_set iv0_1 (by subst hj1; omega) ⟨by omega, by omega⟩
      have fa_15 : f_15 (g 27) = .inl (cI, 144, .inl g_15) := e9_15
      have hI := IN_set (e := .inl (cI, 144, .inl g_15)) hI (gs_27 hG) (mk_27 ok_15) fa_15 o_15
      have hF := FR_set hF (gs_27 hG) (show (27 : Nat) ∈ ([27] : List Nat) by decide) o_15
      have hFX := FX_setT hFX (gs_27 hG) (show (27 : Nat) ∈ ([27] : List Nat) by decide) o_15
      have fb_16 : f_15 (g 15) = .inr (1, [.ref (g 35), .ref (g 27), .ref (g 36), .ref (g 37), .ref (g 38), .ref (g 39), .int kc, va_rf (some b)]) := f_at o_15 (S_ne (gs_15 hG) (gs_27 hG) (show (15 : Nat) ≠ 27 by decide)) f_cat
      have fb_17 : f_15 b = .inr (5, [.int (nI jn), .int (nI (2 * jn)), .ref b_p, .int b_l]) := f_at o_15 (S_ne s_b (gs_27 hG) (show (0 : Nat) ≠ 27 by decide)) f_b
      have fb_18 : f_15 b_p = .inl (cI, b_n, .inl b_c) := f_at o_15 (S_ne s_b_p (gs_27 hG) (show (1 : Nat) ≠ 27 by decide)) f_b_p
      refine lv_aload_n hx hb dX1_land_52 rfl (lv_at hl 0 rfl) ?_
      refine t_get (D := D) (L := L) (f := f_15) (ci := 1) (v := .ref (g 27)) (C := RX1) (T := TX1) (N := 8) hx hb hts (by decide +kernel) hown hK.1 hP (gm_15 hG) fb_16 rfl 1 (by decide) (hts (.fieldLink RX1 15 "JugglingHall$Catches" "source" "[I") (by decide +kernel)) (fun _ h9 => h9) rfl dX1_land_53 ?_
      refine lv_iload_n hx hb dX1_land_56 rfl (lv_at hl 2 rfl) ?_
      refine lv_iload_n hx hb dX1_land_57 rfl (lv_at hl 1 rfl) ?_
      refine t_iast (L := L) (f := f_15) (h := g_15) (u := y.toInt) hx hb hK.1 hP hD hS (gm_27 hG) 0 fa_15 rfl dX1_land_58 (rfl) (by subst hj1; omega) (fun g_19 f_19 H locs eg_19 e9_19 o_19 hP hD hS => ?_)
      have ok_19 : ∀ i : Int, 0 ≤ i → i < 144 → -1 ≤ (g_19 i.toNat).toInt ∧ (g_19 i.toNat).toInt ≤ 143 := by rw [eg_19]; exact rng_set ok_15 (by subst hj1; omega) ⟨by omega, by omega⟩
      have fa_19 : f_19 (g 27) = .inl (cI, 144, .inl g_19) := e9_19
      have hI := IN_set (e := .inl (cI, 144, .inl g_19)) hI (gs_27 hG) (mk_27 ok_19) fa_19 o_19
      have hF := FR_set hF (gs_27 hG) (show (27 : Nat) ∈ ([27] : List Nat) by decide) o_19
      have hFX := FX_setT hFX (gs_27 hG) (show (27 : Nat) ∈ ([27] : List Nat) by decide) o_19
      have fb_20 : f_19 (g 15) = .inr (1, [.ref (g 35), .ref (g 27), .ref (g 36), .ref (g 37), .ref (g 38), .ref (g 39), .int kc, va_rf (some b)]) := f_at o_19 (S_ne (gs_15 hG) (gs_27 hG) (show (15 : Nat) ≠ 27 by decide)) fb_16
      have fb_21 : f_19 b = .inr (5, [.int (nI jn), .int (nI (2 * jn)), .ref b_p, .int b_l]) := f_at o_19 (S_ne s_b (gs_27 hG) (show (0 : Nat) ≠ 27 by decide)) fb_17
      have fb_22 : f_19 b_p = .inl (cI, b_n, .inl b_c) := f_at o_19 (S_ne s_b_p (gs_27 hG) (show (1 : Nat) ≠ 27 by decide)) fb_18
      refine lv_goto (tgt := 71) hx hb dX1_land_59 (by decide) ?_
      exact g_vret f_19 hx hb hr hlocks hS rfl (⟨hI, hF, show ∃ s1 : Int → Int, Arf cI f_19 (g 27) s1 (2 * b_l.toInt) ∧ (∀ t9 : Int, t9 ≠ y.toInt → t9 ≠ y.toInt + 1 → s1 t9 = so t9) ∧ ((so y.toInt = -1 ∧ s1 y.toInt = x.toInt ∧ s1 (y.toInt + 1) = so (y.toInt + 1)) ∨ (so y.toInt ≠ -1 ∧ Ahd w x.toInt (so y.toInt) ∧ s1 y.toInt = x.toInt ∧ s1 (y.toInt + 1) = so y.toInt) ∨ (so y.toInt ≠ -1 ∧ ¬ Ahd w x.toInt (so y.toInt) ∧ s1 y.toInt = so y.toInt ∧ s1 (y.toInt + 1) = x.toInt)) from (by
        have h7 : ∀ t9 : Int, 0 ≤ t9 → t9 < 2 * b_l.toInt → (g_15 t9.toNat).toInt = fupd so (y.toInt + 1) z_14.toInt t9 := fun t9 h8 h9 => by
          by_cases q9 : t9 = y.toInt + 1
          · rw [q9, eg_15, pk_us, fu_s]
          · rw [eg_15, un_i h8 (by subst hj1; omega) q9, fu_n q9]; exact hs9 t9 h8 h9
        exact ⟨_, Arf_u h7 (by subst hj1; omega) eg_19 fa_19, fun t9 h8 h9 => by rw [fu_n h8, fu_n h9], Or.inr (Or.inl ⟨by omega, (by unfold Ahd; rw [← hv31]; omega), fu_s, by rw [fu_n (by subst hj1; omega), fu_s]; omega⟩)⟩), show FX S (fun _ => False) [27] f f_19 from (by first | assumption | omega | (subst hj1; omega))⟩) hP hD hQ (Nat.le_of_ble_eq_true rfl) (Nat.le_of_ble_eq_true rfl) dX1_land_71
  · refine lv_aload_n hx hb dX1_land_10 rfl (lv_at hl 0 rfl) ?_
    refine t_get (D := D) (L := L) (f := f) (ci := 1) (v := .ref (g 27)) (C := RX1) (T := TX1) (N := 8) hx hb hts (by decide +kernel) hown hK.1 hP (gm_15 hG) f_cat rfl 1 (by decide) (hts (.fieldLink RX1 15 "JugglingHall$Catches" "source" "[I") (by decide +kernel)) (fun _ h9 => h9) rfl dX1_land_11 ?_
    refine lv_iload_n hx hb dX1_land_14 rfl (lv_at hl 2 rfl) ?_
    refine lv_iload_n hx hb dX1_land_15 rfl (lv_at hl 1 rfl) ?_
    refine t_iast (L := L) (f := f) (h := c_1) (u := y.toInt) hx hb hK.1 hP hD hS (gm_27 hG) 0 fg_1 rfl dX1_land_16 (rfl) (by subst hj1; omega) (fun g_23 f_23 H locs eg_23 e9_23 o_23 hP hD hS => ?_)
    have ok_23 : ∀ i : Int, 0 ≤ i → i < 144 → -1 ≤ (g_23 i.toNat).toInt ∧ (g_23 i.toNat).toInt ≤ 143 := by rw [eg_23]; exact rng_set iv0_1 (by subst hj1; omega) ⟨by omega, by omega⟩
    have fa_23 : f_23 (g 27) = .inl (cI, 144, .inl g_23) := e9_23
    have hI := IN_set (e := .inl (cI, 144, .inl g_23)) hI (gs_27 hG) (mk_27 ok_23) fa_23 o_23
    have hF := FR_set hF (gs_27 hG) (show (27 : Nat) ∈ ([27] : List Nat) by decide) o_23
    have hFX := FX_setT hFX (gs_27 hG) (show (27 : Nat) ∈ ([27] : List Nat) by decide) o_23
    have fb_24 : f_23 (g 15) = .inr (1, [.ref (g 35), .ref (g 27), .ref (g 36), .ref (g 37), .ref (g 38), .ref (g 39), .int kc, va_rf (some b)]) := f_at o_23 (S_ne (gs_15 hG) (gs_27 hG) (show (15 : Nat) ≠ 27 by decide)) f_cat
    have fb_25 : f_23 b = .inr (5, [.int (nI jn), .int (nI (2 * jn)), .ref b_p, .int b_l]) := f_at o_23 (S_ne s_b (gs_27 hG) (show (0 : Nat) ≠ 27 by decide)) f_b
    have fb_26 : f_23 b_p = .inl (cI, b_n, .inl b_c) := f_at o_23 (S_ne s_b_p (gs_27 hG) (show (1 : Nat) ≠ 27 by decide)) f_b_p
    refine lv_goto (tgt := 71) hx hb dX1_land_17 (by decide) ?_
    exact g_vret f_23 hx hb hr hlocks hS rfl (⟨hI, hF, show ∃ s1 : Int → Int, Arf cI f_23 (g 27) s1 (2 * b_l.toInt) ∧ (∀ t9 : Int, t9 ≠ y.toInt → t9 ≠ y.toInt + 1 → s1 t9 = so t9) ∧ ((so y.toInt = -1 ∧ s1 y.toInt = x.toInt ∧ s1 (y.toInt + 1) = so (y.toInt + 1)) ∨ (so y.toInt ≠ -1 ∧ Ahd w x.toInt (so y.toInt) ∧ s1 y.toInt = x.toInt ∧ s1 (y.toInt + 1) = so y.toInt) ∨ (so y.toInt ≠ -1 ∧ ¬ Ahd w x.toInt (so y.toInt) ∧ s1 y.toInt = so y.toInt ∧ s1 (y.toInt + 1) = x.toInt)) from (⟨_, Arf_u hs9 (by subst hj1; omega) eg_23 fa_23, fun t9 h8 h9 => fu_n h8, Or.inl ⟨by omega, fu_s, fu_n (by subst hj1; omega)⟩⟩), show FX S (fun _ => False) [27] f f_23 from (by first | assumption | omega | (subst hj1; omega))⟩) hP hD hQ (Nat.le_of_ble_eq_true rfl) (Nat.le_of_ble_eq_true rfl) dX1_land_71
