def SrcA (w : Int → Int) (n T : Int) (s : Int → Int) : Prop := ∀ i : Int, 0 ≤ i → i < n → SrcB w n i T (s (2 * i)) (s (2 * i + 1))
theorem SrcA_n {w : Int → Int} {n T : Int} {s : Int → Int} (h : SrcA w n T s) (t0 : 0 ≤ T) (t1 : T < 2 * n) (hw : w T = 0) : SrcA w n (T + 1) s := fun i i0 i1 => SrcB_n (h i i0 i1) t0 t1 (fun q => q.2.2.1 hw)
theorem SrcA_r {w : Int → Int} {n T y : Int} {s : Int → Int} (h : SrcA w n T s) (hG : GdW w n) (t0 : 0 ≤ T) (t1 : T < 2 * n) (hw : w T ≠ 0) (hn : 0 < n) (hy : y = 2 * ((T / 2 + w T) % n)) : s y = -1 ∨ (0 ≤ s y ∧ s y < 2 * n) := by
  have q0 := Int.emod_nonneg (T / 2 + w T) (show n ≠ 0 by omega)
  have q1 := Int.emod_lt_of_pos (T / 2 + w T) hn
  have := (SrcB_s (h _ q0 q1) hG ⟨q0, q1⟩ ⟨t0, t1, hw, rfl⟩).2.2
  rw [hy]
  by_cases e : s (2 * ((T / 2 + w T) % n)) = -1
  · exact Or.inl e
  · have := this e
    exact Or.inr ⟨this.1, by omega⟩
theorem SrcA_s {w : Int → Int} {n T y : Int} {s s1 : Int → Int} (h : SrcA w n T s) (hG : GdW w n) (t0 : 0 ≤ T) (t1 : T < 2 * n) (hw : w T ≠ 0) (hn : 0 < n) (hy : y = 2 * ((T / 2 + w T) % n)) (ho : ∀ t : Int, t ≠ y → t ≠ y + 1 → s1 t = s t) (hl : (s y = -1 ∧ s1 y = T ∧ s1 (y + 1) = s (y + 1)) ∨ (s y ≠ -1 ∧ Ahd w T (s y) ∧ s1 y = T ∧ s1 (y + 1) = s y) ∨ (s y ≠ -1 ∧ ¬ Ahd w T (s y) ∧ s1 y = s y ∧ s1 (y + 1) = T)) : SrcA w n (T + 1) s1 := by
  intro i i0 i1
  by_cases e : i = (T / 2 + w T) % n
  · subst e
    rw [← hy]
    obtain ⟨b1, b2, b3⟩ := SrcB_s (h _ i0 i1) hG ⟨i0, i1⟩ ⟨t0, t1, hw, rfl⟩
    rw [← hy] at b1 b2 b3
    rcases hl with ⟨c1, c2, c3⟩ | ⟨c1, c2, c3, c4⟩ | ⟨c1, c2, c3, c4⟩
    · rw [c2, c3, b1]; exact b2 c1
    · rw [c3, c4]; exact (b3 c1).2.2.1 c2
    · rw [c3, c4]; exact (b3 c1).2.2.2 c2
  · rw [ho (2 * i) (by omega) (by omega), ho (2 * i + 1) (by omega) (by omega)]
    exact SrcB_n (h i i0 i1) t0 t1 (fun q => e q.2.2.2.symm)
theorem SrcA_0 {w : Int → Int} {n : Int} {s : Int → Int} (h : ∀ t : Int, 0 ≤ t → t < 2 * n → s t = -1) : SrcA w n 0 s := fun i i0 i1 => by
  rw [h (2 * i) (by omega) (by omega), h (2 * i + 1) (by omega) (by omega)]; exact SrcB_0
set_option maxRecDepth 100000 in
set_option maxHeartbeats 4000000 in
theorem t_X1_leadm (l : Launch) (D : va_G) (cI cR cM : ClassId) (sz : Nat) {jn : Nat} {g : Nat → Nat} {L : List Nat} {S : Sg} {f : Nat → va_E} {b b_p b_n : Nat} {b_l : Int32} {b_c : Nat → Int32} {w : Int → Int} (hj : 1 ≤ jn ∧ jn ≤ 3) (hG : SG g L S) (hI : IN jn cI cR cM g L S f) (m_b : b ∈ L) (s_b : S b = (0, b_p, b_n)) (f_b : f b = .inr (5, [.int (nI jn), .int (nI (2 * jn)), .ref b_p, .int b_l])) (f_b_p : f b_p = .inl (cI, b_n, .inl b_c)) (hj1 : jn = 1) (hRC : RC b_c w b_l.toInt) (hpos : 1 ≤ b_l.toInt ∧ b_l.toInt ≤ 24) (hsr : ∀ b9 : Int, 0 ≤ b9 → b9 < b_l.toInt → Srt w b9) : Met l yX1_lead wsX1_lead ({ frames := 4, cells := 0, slots := 0, locals := 87 }) (P0 D cI cR cM [.ref (g 15), .ref b] sz (va_pl L f)) (QG (S := Int32 × (Nat → va_E)) (fun u => some (.int u.1)) (fun u => va_pl L u.2) (fun u => IN jn cI cR cM g L S u.2 ∧ FR S [15, 27, 35, 36, 37, 38, 39] f u.2 ∧ (Hd ((u.1.toInt = 1 ∧ GdW w b_l.toInt ∧ ∃ (k9 : Int32) (so La : Int → Int), u.2 (g 15) = .inr (1, [.ref (g 35), .ref (g 27), .ref (g 36), .ref (g 37), .ref (g 38), .ref (g 39), .int k9, va_rf (some b)]) ∧ Arf cI u.2 (g 27) so (2 * b_l.toInt) ∧ SrcF w b_l.toInt so ∧ Arf cI u.2 (g 36) La (2 * b_l.toInt) ∧ LabP w (2 * b_l.toInt) so (2 * b_l.toInt) La k9.toInt) ∨ (u.1.toInt = 0 ∧ ¬ GdW w b_l.toInt))) ∧ (FX S (fun _ => False) [15, 27, 35, 36, 37, 38, 39] f u.2) ∧ (u.1.toInt = 0 ∨ u.1.toInt = 1)) D (va_A (va_pl L f) sz)) 0 0 (va_A (va_pl L f) sz) := by
  refine go (cc := cX1_lead) (maxL := 3) (ret := (some .boolean)) (by decide +kernel) rfl (Nat.le_of_ble_eq_true rfl) ?_
  intro p e s m below meth c ls args Q hQ hsz hx hb hr hml hts hown hlocks hnm hP hK hD hl
  subst hsz
  have hD := hD.self (sz := s.heap.size)
  generalize hAe : va_A (va_pl L f) s.heap.size = A at hD hQ
  have hA : ∀ q, s.heap.size ≤ q → A q := fun q h => by rw [← hAe]; exact Or.inr h
  have hS : va_S A s.heap s.heap [] := va_S.rf
  have hFX : FX S (fun _ => False) [15, 27, 35, 36, 37, 38, 39] f f := FX_rf
  have hF : FR S [15, 27, 35, 36, 37, 38, 39] f f := FR_rf
  have hl : lv_has ls 3 [(0, .ref (g 15)), (1, .ref b)] := hl
  obtain ⟨v1_b, v2_b, v3_b, m_b_p, s_b_p⟩ := iv_0 hI m_b s_b f_b
  obtain ⟨w1_b, w2_b, w3_b, w4_b, w5_b⟩ := lenw hj v1_b v2_b v3_b
  have k_b := iv_1 hI m_b_p s_b_p f_b_p
  refine lv_aload_n hx hb dX1_lead_0 rfl (lv_at hl 1 rfl) ?_
  refine lv_ifnull hx hb dX1_lead_1 ?_
  refine lv_aload_n hx hb dX1_lead_4 rfl (lv_at hl 0 rfl) ?_
  refine lv_aload_n hx hb dX1_lead_5 rfl (lv_at hl 1 rfl) ?_
  obtain ⟨cnt_1, rw_1, fg_1, iv0_1, iv1_1, iv2_1⟩ := op_15 hI (gm_15 hG) (gs_15 hG)
  refine call_p (va_runV (As := [.ref b]) (rest := []) ⟨hx, hb, hml, hown, hts⟩ (t_X1_badPlacem l D cI cR cM _ (w := w)  hj hG hI m_b s_b f_b f_b_p (by first | assumption | omega | (subst hj1; omega)) (hRC) (hpos)) (cwV 1 hts gX1_lead_X1_badPlace rfl rfl rfl (by decide +kernel) ⟨Nat.le_of_ble_eq_true rfl, Nat.le_of_ble_eq_true rfl⟩) (pre_T hK hP hD (gm_15 hG) fg_1 rfl) rfl rfl hl.1 rfl (lv_room (Nat.le_of_ble_eq_true rfl)) dX1_lead_6 ⟨Nat.le_of_ble_eq_true rfl, Nat.le_of_ble_eq_true rfl⟩) hD hS hA (fun u_2 H locs hw hP hD hS => ?_)
  obtain ⟨r_2, f_2⟩ := u_2
  obtain ⟨hI, hF_2, hp_2, h_2, hfx_2⟩ : IN jn cI cR cM g L S f_2 ∧ FR S [35] f f_2 ∧ ((r_2.toInt = -1 ∧ GdW w b_l.toInt) ∨ (r_2.toInt ≠ -1 ∧ ¬ GdW w b_l.toInt)) ∧ (-1 ≤ r_2.toInt ∧ r_2.toInt ≤ 71) ∧ (FX S (fun _ => False) [35] f f_2) := hw
  have hP : va_P D vwCl (va_pl L f_2) H := hP
  have hD : va_D A (va_pl L f_2) := hD
  have hF := FR_tr hF hF_2 (by decide)
  have hFX := FX_tr hFX hfx_2 (fun _ h9 => h9.elim) (by decide)
  have fb_3 : f_2 b = .inr (5, [.int (nI jn), .int (nI (2 * jn)), .ref b_p, .int b_l]) := FR_at hF_2 s_b (show (0 : Nat) ∉ ([35] : List Nat) by decide) f_b
  have fb_4 : f_2 b_p = .inl (cI, b_n, .inl b_c) := FR_at hF_2 s_b_p (show (1 : Nat) ∉ ([35] : List Nat) by decide) f_b_p
  have fb_5 : f_2 (g 15) = .inr (1, [.ref (g 35), .ref (g 27), .ref (g 36), .ref (g 37), .ref (g 38), .ref (g 39), .int cnt_1, va_rf rw_1]) := FR_at hF_2 (gs_15 hG) (show (15 : Nat) ∉ ([35] : List Nat) by decide) fg_1
  refine lv_iconst (v := (-1)) hx hb dX1_lead_9 (by decide) ?_
  refine a_icmp_eq (u := r_2.toInt) (v := (-1)) (tgt := 15) hx hb dX1_lead_10 (by decide) (rfl) (by decide) (fun c_6 => ?_) (fun c_6 => ?_)
  · have hGd := (hp_2.resolve_right (fun q9 => q9.1 (by subst hj1; omega))).2
    refine lv_aload_n hx hb dX1_lead_15 rfl (lv_at hl 0 rfl) ?_
    refine lv_aload_n hx hb dX1_lead_16 rfl (lv_at hl 1 rfl) ?_
    refine t_put (D := D) (L := L) (f := f_2) (ci := 1) (v := .ref b) (ty := .object "JugglingHall$Row") (C := RX1) (T := TX1) (N := 8) hx hb hts (by decide +kernel) tyX1 tyX1_ok nmX1 hown hK.1 hP hD hS (gm_15 hG) fb_5 rfl 7 (by decide) (hts (.fieldLink RX1 60 "JugglingHall$Catches" "row" "LJugglingHall$Row;") (by decide +kernel)) (fun _ h9 => h9) rfl (by decide +kernel) rfl rfl (Nat.le_of_ble_eq_true rfl) dX1_lead_17 (fun f_7 H locs e9_7 o_7 hP hD hS => ?_)
    have fa_7 : f_7 (g 15) = .inr (1, [.ref (g 35), .ref (g 27), .ref (g 36), .ref (g 37), .ref (g 38), .ref (g 39), .int cnt_1, va_rf (some b)]) := e9_7
    have hI := IN_set (e := .inr (1, [.ref (g 35), .ref (g 27), .ref (g 36), .ref (g 37), .ref (g 38), .ref (g 39), .int cnt_1, va_rf (some b)])) hI (gs_15 hG) (mk_15 (by first | assumption | omega | (subst hj1; omega)) (by first | assumption | omega | (subst hj1; omega)) (fun r9 h9 => by cases h9; exact ⟨_, _, m_b, s_b⟩)) fa_7 o_7
    have hF := FR_set hF (gs_15 hG) (show (15 : Nat) ∈ ([15, 27, 35, 36, 37, 38, 39] : List Nat) by decide) o_7
    have hFX := FX_setT hFX (gs_15 hG) (show (15 : Nat) ∈ ([15, 27, 35, 36, 37, 38, 39] : List Nat) by decide) o_7
    have fb_8 : f_7 b = .inr (5, [.int (nI jn), .int (nI (2 * jn)), .ref b_p, .int b_l]) := f_at o_7 (S_ne s_b (gs_15 hG) (show (0 : Nat) ≠ 15 by decide)) fb_3
    have fb_9 : f_7 b_p = .inl (cI, b_n, .inl b_c) := f_at o_7 (S_ne s_b_p (gs_15 hG) (show (1 : Nat) ≠ 15 by decide)) fb_4
    refine lv_aload_n hx hb dX1_lead_20 rfl (lv_at hl 0 rfl) ?_
    refine t_get (D := D) (L := L) (f := f_7) (ci := 1) (v := .ref (g 27)) (C := RX1) (T := TX1) (N := 8) hx hb hts (by decide +kernel) hown hK.1 hP (gm_15 hG) fa_7 rfl 1 (by decide) (hts (.fieldLink RX1 15 "JugglingHall$Catches" "source" "[I") (by decide +kernel)) (fun _ h9 => h9) rfl dX1_lead_21 ?_
    refine lv_iconst (v := (-1)) hx hb dX1_lead_24 (by decide) ?_
    obtain ⟨c_10, fg_10, iv0_10⟩ := op_27 hI (gm_27 hG) (gs_27 hG)
    have hP1 := p_one hP (gm_27 hG) fg_10
    have hD1 := d_one (g 27) (.inl (cI, 144, .inl c_10))
    refine call_1 (f := f_7) (w1 := fun k9 => .inl (cI, 144, .inl k9)) (va_runS (As := [.ref (g 27), .int (-1)]) (rest := []) ⟨hx, hb, hml, hown, hts⟩ (c_fill l D cI cR cM _ (n := 144) (by subst hj1; omega) c_10 (g 27) (-1 : Int32)) (va_cwS 2 hts gX1_lead_J7_fill_53178 rfl rfl rfl (by decide +kernel) ⟨Nat.le_of_ble_eq_true rfl, Nat.le_of_ble_eq_true rfl⟩) (pre_S hK hP1 hD1) rfl rfl hl.1 rfl (lv_room (Nat.le_of_ble_eq_true rfl)) dX1_lead_25 ⟨Nat.le_of_ble_eq_true rfl, Nat.le_of_ble_eq_true rfl⟩) hP hD hS hA (gm_27 hG) (fun g_11 f_11 H locs hw_11 e9_11 o_11 hP hD hS => ?_)
    have hw_11 : ∀ j, j < 144 → g_11 j = (-1 : Int32) := hw_11
    have ok_11 : ∀ i : Int, 0 ≤ i → i < 144 → -1 ≤ (g_11 i.toNat).toInt ∧ (g_11 i.toNat).toInt ≤ 143 := fun i i0 i1 => by rw [hw_11 i.toNat (by subst hj1; omega)]; decide
    have fa_11 : f_11 (g 27) = .inl (cI, 144, .inl g_11) := e9_11
    have hI := IN_set (e := .inl (cI, 144, .inl g_11)) hI (gs_27 hG) (mk_27 ok_11) fa_11 o_11
    have hF := FR_set hF (gs_27 hG) (show (27 : Nat) ∈ ([15, 27, 35, 36, 37, 38, 39] : List Nat) by decide) o_11
    have hFX := FX_setT hFX (gs_27 hG) (show (27 : Nat) ∈ ([15, 27, 35, 36, 37, 38, 39] : List Nat) by decide) o_11
    have fb_12 : f_11 b = .inr (5, [.int (nI jn), .int (nI (2 * jn)), .ref b_p, .int b_l]) := f_at o_11 (S_ne s_b (gs_27 hG) (show (0 : Nat) ≠ 27 by decide)) fb_8
    have fb_13 : f_11 b_p = .inl (cI, b_n, .inl b_c) := f_at o_11 (S_ne s_b_p (gs_27 hG) (show (1 : Nat) ≠ 27 by decide)) fb_9
    have fb_14 : f_11 (g 15) = .inr (1, [.ref (g 35), .ref (g 27), .ref (g 36), .ref (g 37), .ref (g 38), .ref (g 39), .int cnt_1, va_rf (some b)]) := f_at o_11 (S_ne (gs_15 hG) (gs_27 hG) (show (15 : Nat) ≠ 27 by decide)) fa_7
    refine lv_aload_n hx hb dX1_lead_28 rfl (lv_at hl 0 rfl) ?_
    refine t_get (D := D) (L := L) (f := f_11) (ci := 1) (v := .ref (g 36)) (C := RX1) (T := TX1) (N := 8) hx hb hts (by decide +kernel) hown hK.1 hP (gm_15 hG) fb_14 rfl 2 (by decide) (hts (.fieldLink RX1 18 "JugglingHall$Catches" "cycleAt" "[I") (by decide +kernel)) (fun _ h9 => h9) rfl dX1_lead_29 ?_
    refine lv_iconst (v := (-1)) hx hb dX1_lead_32 (by decide) ?_
    obtain ⟨c_15, fg_15⟩ := op_36 hI (gm_36 hG) (gs_36 hG)
    have hP1 := p_one hP (gm_36 hG) fg_15
    have hD1 := d_one (g 36) (.inl (cI, 144, .inl c_15))
    refine call_1 (f := f_11) (w1 := fun k9 => .inl (cI, 144, .inl k9)) (va_runS (As := [.ref (g 36), .int (-1)]) (rest := []) ⟨hx, hb, hml, hown, hts⟩ (c_fill l D cI cR cM _ (n := 144) (by subst hj1; omega) c_15 (g 36) (-1 : Int32)) (va_cwS 2 hts gX1_lead_J7_fill_53178 rfl rfl rfl (by decide +kernel) ⟨Nat.le_of_ble_eq_true rfl, Nat.le_of_ble_eq_true rfl⟩) (pre_S hK hP1 hD1) rfl rfl hl.1 rfl (lv_room (Nat.le_of_ble_eq_true rfl)) dX1_lead_33 ⟨Nat.le_of_ble_eq_true rfl, Nat.le_of_ble_eq_true rfl⟩) hP hD hS hA (gm_36 hG) (fun g_16 f_16 H locs hw_16 e9_16 o_16 hP hD hS => ?_)
    have hw_16 : ∀ j, j < 144 → g_16 j = (-1 : Int32) := hw_16
    have fa_16 : f_16 (g 36) = .inl (cI, 144, .inl g_16) := e9_16
    have hI := IN_set (e := .inl (cI, 144, .inl g_16)) hI (gs_36 hG) (mk_36) fa_16 o_16
    have hF := FR_set hF (gs_36 hG) (show (36 : Nat) ∈ ([15, 27, 35, 36, 37, 38, 39] : List Nat) by decide) o_16
    have hFX := FX_setT hFX (gs_36 hG) (show (36 : Nat) ∈ ([15, 27, 35, 36, 37, 38, 39] : List Nat) by decide) o_16
    have fb_17 : f_16 b = .inr (5, [.int (nI jn), .int (nI (2 * jn)), .ref b_p, .int b_l]) := f_at o_16 (S_ne s_b (gs_36 hG) (show (0 : Nat) ≠ 36 by decide)) fb_12
    have fb_18 : f_16 b_p = .inl (cI, b_n, .inl b_c) := f_at o_16 (S_ne s_b_p (gs_36 hG) (show (1 : Nat) ≠ 36 by decide)) fb_13
    have fb_19 : f_16 (g 15) = .inr (1, [.ref (g 35), .ref (g 27), .ref (g 36), .ref (g 37), .ref (g 38), .ref (g 39), .int cnt_1, va_rf (some b)]) := f_at o_16 (S_ne (gs_15 hG) (gs_36 hG) (show (15 : Nat) ≠ 36 by decide)) fb_14
    have fb_20 : f_16 (g 27) = .inl (cI, 144, .inl g_11) := f_at o_16 (S_ne (gs_27 hG) (gs_36 hG) (show (27 : Nat) ≠ 36 by decide)) fa_11
    refine lv_aload_n hx hb dX1_lead_36 rfl (lv_at hl 0 rfl) ?_
    refine lv_iconst (v := 0) hx hb dX1_lead_37 (by decide) ?_
    have hz_22 : (0 : Int32).toInt = 0 := by decide
    refine t_put (D := D) (L := L) (f := f_16) (ci := 1) (v := .int 0) (ty := .int) (C := RX1) (T := TX1) (N := 8) hx hb hts (by decide +kernel) tyX1 tyX1_ok nmX1 hown hK.1 hP hD hS (gm_15 hG) fb_19 rfl 6 (by decide) (hts (.fieldLink RX1 64 "JugglingHall$Catches" "count" "I") (by decide +kernel)) (fun _ h9 => h9) rfl (by decide +kernel) rfl rfl (Nat.le_of_ble_eq_true rfl) dX1_lead_38 (fun f_21 H locs e9_21 o_21 hP hD hS => ?_)
    have fa_21 : f_21 (g 15) = .inr (1, [.ref (g 35), .ref (g 27), .ref (g 36), .ref (g 37), .ref (g 38), .ref (g 39), .int 0, va_rf (some b)]) := e9_21
    have hI := IN_set (e := .inr (1, [.ref (g 35), .ref (g 27), .ref (g 36), .ref (g 37), .ref (g 38), .ref (g 39), .int 0, va_rf (some b)])) hI (gs_15 hG) (mk_15 (by first | assumption | omega | (subst hj1; omega)) (by first | assumption | omega | (subst hj1; omega)) (fun r9 h9 => by cases h9; exact ⟨_, _, m_b, s_b⟩)) fa_21 o_21
    have hF := FR_set hF (gs_15 hG) (show (15 : Nat) ∈ ([15, 27, 35, 36, 37, 38, 39] : List Nat) by decide) o_21
    have hFX := FX_setT hFX (gs_15 hG) (show (15 : Nat) ∈ ([15, 27, 35, 36, 37, 38, 39] : List Nat) by decide) o_21
    have fb_23 : f_21 b = .inr (5, [.int (nI jn), .int (nI (2 * jn)), .ref b_p, .int b_l]) := f_at o_21 (S_ne s_b (gs_15 hG) (show (0 : Nat) ≠ 15 by decide)) fb_17
    have fb_24 : f_21 b_p = .inl (cI, b_n, .inl b_c) := f_at o_21 (S_ne s_b_p (gs_15 hG) (show (1 : Nat) ≠ 15 by decide)) fb_18
    have fb_25 : f_21 (g 27) = .inl (cI, 144, .inl g_11) := f_at o_21 (S_ne (gs_27 hG) (gs_15 hG) (show (27 : Nat) ≠ 15 by decide)) fb_20
    have fb_26 : f_21 (g 36) = .inl (cI, 144, .inl g_16) := f_at o_21 (S_ne (gs_36 hG) (gs_15 hG) (show (36 : Nat) ≠ 15 by decide)) fa_16
    refine lv_iconst (v := 0) hx hb dX1_lead_41 (by decide) ?_
    refine lv_istore_n (lv' := [(2, .int 0), (0, .ref (g 15)), (1, .ref b)]) hx hb dX1_lead_42 rfl hl (by decide) rfl (fun ls hl => ?_)
    have loop43 : ∀ (ddloop43 : Nat) (ce : Int32) (k2 : Int32) (f_27 : Nat → va_E) (H : Heap) (locs : List Loc) (ls : Array Slot), (200 - ce.toInt).toNat < ddloop43 → IN jn cI cR cM g L S f_27 → FR S [15, 27, 35, 36, 37, 38, 39] f f_27 → (f_27 (g 15) = .inr (1, [.ref (g 35), .ref (g 27), .ref (g 36), .ref (g 37), .ref (g 38), .ref (g 39), .int k2, va_rf (some b)])) → (0 ≤ ce.toInt ∧ ce.toInt ≤ 2 * b_l.toInt) → (k2.toInt = 0) → (Hd (∃ so : Int → Int, Arf cI f_27 (g 27) so (2 * b_l.toInt) ∧ SrcA w b_l.toInt ce.toInt so)) → (Arf cI f_27 (g 36) (fun _ => -1) (2 * b_l.toInt)) → (FX S (fun _ => False) [15, 27, 35, 36, 37, 38, 39] f f_27) → va_P D vwCl (va_pl L f_27) H → va_D A (va_pl L f_27) → va_S A s.heap H locs → lv_has ls 3 [(0, .ref (g 15)), (1, .ref b), (2, .int ce)] → W p l e ({ frames := 4, cells := 0, slots := 0, locals := 87 }) s m args below meth c H locs (0) (0) Q (F0 m 43 ls []) := by
      intro ddloop43
      induction ddloop43 with
      | zero =>
        intro ce k2 f_27 H locs ls hdd
        exact absurd hdd (Nat.not_lt_zero _)
      | succ ddloop43 ih43 =>
        intro ce k2 f_27 H locs ls hdd hI hF fc_27_g15 hi hk2 hS1 hY1 hFX hP hD hS hl
        obtain ⟨iv0_28, iv1_28, iv2_28⟩ := iv_15 hI (gm_15 hG) (gs_15 hG) fc_27_g15
        have fb_29 : f_27 b = .inr (5, [.int (nI jn), .int (nI (2 * jn)), .ref b_p, .int b_l]) := FR_at hF s_b (show (0 : Nat) ∉ ([15, 27, 35, 36, 37, 38, 39] : List Nat) by decide) f_b
        have fb_30 : f_27 b_p = .inl (cI, b_n, .inl b_c) := FR_at hF s_b_p (show (1 : Nat) ∉ ([15, 27, 35, 36, 37, 38, 39] : List Nat) by decide) f_b_p
        obtain ⟨so, x1, x2⟩ := hS1
        refine lv_iload_n hx hb dX1_lead_43 rfl (lv_at hl 2 rfl) ?_
        refine lv_aload_n hx hb dX1_lead_44 rfl (lv_at hl 0 rfl) ?_
        refine t_get (D := D) (L := L) (f := f_27) (ci := 1) (v := .ref b) (C := RX1) (T := TX1) (N := 8) hx hb hts (by decide +kernel) hown hK.1 hP (gm_15 hG) fc_27_g15 rfl 7 (by decide) (hts (.fieldLink RX1 60 "JugglingHall$Catches" "row" "LJugglingHall$Row;") (by decide +kernel)) (fun _ h9 => h9) rfl dX1_lead_45 ?_
        refine roP (va_runV (As := []) (rest := [.int ce]) ⟨hx, hb, hml, hown, hts⟩ (t_X5_cellCountm l D cI cR cM _   hj hG hI m_b s_b fb_29 fb_30 (by first | assumption | omega | (subst hj1; omega))) (cwV 0 hts gX1_lead_X5_cellCount rfl rfl rfl (by decide +kernel) ⟨Nat.le_of_ble_eq_true rfl, Nat.le_of_ble_eq_true rfl⟩) (pre_T hK hP hD m_b fb_29 rfl) rfl rfl hl.1 rfl (lv_room (Nat.le_of_ble_eq_true rfl)) dX1_lead_48 ⟨Nat.le_of_ble_eq_true rfl, Nat.le_of_ble_eq_true rfl⟩) hS hA hP (fun r_31 H locs hw hP hS => ?_)
        have h_31 : (r_31.toInt = 2 * b_l.toInt) := hw
        refine a_icmp_ge (u := ce.toInt) (v := r_31.toInt) (tgt := 86) hx hb dX1_lead_51 (by decide) (rfl) (rfl) (fun c_32 => ?_) (fun c_32 => ?_)
        · have hSF : SrcF w b_l.toInt so := by have h9 := x2; rw [show ce.toInt = 2 * b_l.toInt by omega] at h9; exact h9
          have hBj := SrcF_B hSF hGd hsr
          have hk20 := hk2
          refine lv_iconst (v := 0) hx hb dX1_lead_86 (by decide) ?_
          refine lv_istore_n (lv' := [(2, .int 0), (0, .ref (g 15)), (1, .ref b)]) hx hb dX1_lead_87 rfl hl (by decide) rfl (fun ls hl => ?_)
          have loop88 : ∀ (ddloop88 : Nat) (cf : Int32) (k3 : Int32) (f_33 : Nat → va_E) (H : Heap) (locs : List Loc) (ls : Array Slot), (200 - cf.toInt).toNat < ddloop88 → IN jn cI cR cM g L S f_33 → FR S [15, 27, 35, 36, 37, 38, 39] f f_33 → (f_33 (g 15) = .inr (1, [.ref (g 35), .ref (g 27), .ref (g 36), .ref (g 37), .ref (g 38), .ref (g 39), .int k3, va_rf (some b)])) → (0 ≤ cf.toInt ∧ cf.toInt ≤ 2 * b_l.toInt) → (Arf cI f_33 (g 27) so (2 * b_l.toInt)) → (Hd (∃ La : Int → Int, Arf cI f_33 (g 36) La (2 * b_l.toInt) ∧ LabP w (2 * b_l.toInt) so cf.toInt La k3.toInt)) → (FX S (fun _ => False) [15, 27, 35, 36, 37, 38, 39] f f_33) → va_P D vwCl (va_pl L f_33) H → va_D A (va_pl L f_33) → va_S A s.heap H locs → lv_has ls 3 [(0, .ref (g 15)), (1, .ref b), (2, .int cf)] → W p l e ({ frames := 4, cells := 0, slots := 0, locals := 87 }) s m args below meth c H locs (0) (0) Q (F0 m 88 ls []) := by
            intro ddloop88
            induction ddloop88 with
            | zero =>
              intro cf k3 f_33 H locs ls hdd
              exact absurd hdd (Nat.not_lt_zero _)
            | succ ddloop88 ih88 =>
              intro cf k3 f_33 H locs ls hdd hI hF fc_33_g15 hi2 hS2 hY2 hFX hP hD hS hl
              obtain ⟨iv0_34, iv1_34, iv2_34⟩ := iv_15 hI (gm_15 hG) (gs_15 hG) fc_33_g15
              have fb_35 : f_33 b = .inr (5, [.int (nI jn), .int (nI (2 * jn)), .ref b_p, .int b_l]) := FR_at hF s_b (show (0 : Nat) ∉ ([15, 27, 35, 36, 37, 38, 39] : List Nat) by decide) f_b
              have fb_36 : f_33 b_p = .inl (cI, b_n, .inl b_c) := FR_at hF s_b_p (show (1 : Nat) ∉ ([15, 27, 35, 36, 37, 38, 39] : List Nat) by decide) f_b_p
              obtain ⟨La, y1, y2⟩ := hY2
              have hkk := LabP_k y2 (by subst hj1; omega)
              refine lv_iload_n hx hb dX1_lead_88 rfl (lv_at hl 2 rfl) ?_
              refine lv_aload_n hx hb dX1_lead_89 rfl (lv_at hl 0 rfl) ?_
              refine t_get (D := D) (L := L) (f := f_33) (ci := 1) (v := .ref b) (C := RX1) (T := TX1) (N := 8) hx hb hts (by decide +kernel) hown hK.1 hP (gm_15 hG) fc_33_g15 rfl 7 (by decide) (hts (.fieldLink RX1 60 "JugglingHall$Catches" "row" "LJugglingHall$Row;") (by decide +kernel)) (fun _ h9 => h9) rfl dX1_lead_90 ?_
              refine roP (va_runV (As := []) (rest := [.int cf]) ⟨hx, hb, hml, hown, hts⟩ (t_X5_cellCountm l D cI cR cM _   hj hG hI m_b s_b fb_35 fb_36 (by first | assumption | omega | (subst hj1; omega))) (cwV 0 hts gX1_lead_X5_cellCount rfl rfl rfl (by decide +kernel) ⟨Nat.le_of_ble_eq_true rfl, Nat.le_of_ble_eq_true rfl⟩) (pre_T hK hP hD m_b fb_35 rfl) rfl rfl hl.1 rfl (lv_room (Nat.le_of_ble_eq_true rfl)) dX1_lead_93 ⟨Nat.le_of_ble_eq_true rfl, Nat.le_of_ble_eq_true rfl⟩) hS hA hP (fun r_37 H locs hw hP hS => ?_)
              have h_37 : (r_37.toInt = 2 * b_l.toInt) := hw
              refine a_icmp_ge (u := cf.toInt) (v := r_37.toInt) (tgt := 131) hx hb dX1_lead_96 (by decide) (rfl) (rfl) (fun c_38 => ?_) (fun c_38 => ?_)
              · refine lv_iconst (v := 1) hx hb dX1_lead_131 (by decide) ?_
                have hz_39 : (1 : Int32).toInt = 1 := by decide
                exact g_zret ((1 : Int32), f_33) hx hb hr hlocks hS (by first | exact Or.inl rfl | exact Or.inr rfl) rfl (⟨hI, hF, show Hd (((1 : Int32).toInt = 1 ∧ GdW w b_l.toInt ∧ ∃ (k9 : Int32) (so La : Int → Int), f_33 (g 15) = .inr (1, [.ref (g 35), .ref (g 27), .ref (g 36), .ref (g 37), .ref (g 38), .ref (g 39), .int k9, va_rf (some b)]) ∧ Arf cI f_33 (g 27) so (2 * b_l.toInt) ∧ SrcF w b_l.toInt so ∧ Arf cI f_33 (g 36) La (2 * b_l.toInt) ∧ LabP w (2 * b_l.toInt) so (2 * b_l.toInt) La k9.toInt) ∨ ((1 : Int32).toInt = 0 ∧ ¬ GdW w b_l.toInt)) from (by
                  rw [show cf.toInt = 2 * b_l.toInt by omega] at y2
                  exact Or.inl ⟨rfl, hGd, k3, so, La, fc_33_g15, hS2, hSF, y1, y2⟩), show FX S (fun _ => False) [15, 27, 35, 36, 37, 38, 39] f f_33 from (by first | assumption | omega | (subst hj1; omega)), show (1 : Int32).toInt = 0 ∨ (1 : Int32).toInt = 1 from (by first | assumption | omega | (subst hj1; omega))⟩) hP hD hQ (Nat.le_of_ble_eq_true rfl) (Nat.le_of_ble_eq_true rfl) dX1_lead_132
              · refine lv_aload_n hx hb dX1_lead_99 rfl (lv_at hl 0 rfl) ?_
                refine t_get (D := D) (L := L) (f := f_33) (ci := 1) (v := .ref b) (C := RX1) (T := TX1) (N := 8) hx hb hts (by decide +kernel) hown hK.1 hP (gm_15 hG) fc_33_g15 rfl 7 (by decide) (hts (.fieldLink RX1 60 "JugglingHall$Catches" "row" "LJugglingHall$Row;") (by decide +kernel)) (fun _ h9 => h9) rfl dX1_lead_100 ?_
                refine lv_iload_n hx hb dX1_lead_103 rfl (lv_at hl 2 rfl) ?_
                refine roP (va_runV (As := [.int cf]) (rest := []) ⟨hx, hb, hml, hown, hts⟩ (t_X5_isThrowm l D cI cR cM _ (w := w)  hj hG hI m_b s_b fb_35 fb_36 (by first | assumption | omega | (subst hj1; omega)) (by subst hj1; omega) (hRC)) (cwV 1 hts gX1_lead_X5_isThrow rfl rfl rfl (by decide +kernel) ⟨Nat.le_of_ble_eq_true rfl, Nat.le_of_ble_eq_true rfl⟩) (pre_T hK hP hD m_b fb_35 rfl) rfl rfl hl.1 rfl (lv_room (Nat.le_of_ble_eq_true rfl)) dX1_lead_104 ⟨Nat.le_of_ble_eq_true rfl, Nat.le_of_ble_eq_true rfl⟩) hS hA hP (fun r_40 H locs hw hP hS => ?_)
                obtain ⟨h_40, h01_40⟩ : ((r_40.toInt = 1 ∧ w cf.toInt ≠ 0) ∨ (r_40.toInt = 0 ∧ w cf.toInt = 0)) ∧ (r_40.toInt = 0 ∨ r_40.toInt = 1) := hw
                refine a_if_eq (u := r_40.toInt) (tgt := 125) hx hb dX1_lead_107 (by decide) (rfl) (fun c_41 => ?_) (fun c_41 => ?_)
                · obtain ⟨z_42, q_42, e_42⟩ := i_inc (a := cf.toInt) (1) (rfl) (by decide) (by subst hj1; omega) (by subst hj1; omega)
                  refine lv_iinc (v := z_42) (lv' := [(2, .int z_42), (0, .ref (g 15)), (1, .ref b)]) hx hb dX1_lead_125 hl (k := 2) rfl q_42 (by decide) rfl (fun ls hl => ?_)
                  refine lv_goto (tgt := 88) hx hb dX1_lead_128 (by decide) ?_
                  exact ih88 z_42 k3 f_33 _ _ _ (by subst hj1; omega) hI hF fc_33_g15 (by first | assumption | omega | (subst hj1; omega)) (hS2) (⟨La, y1, by rw [show z_42.toInt = cf.toInt + 1 by omega]; exact LabP_n y2 (fun _ q9 => absurd (h_40.resolve_left (fun q8 => by have := q8.1; omega)).2 q9)⟩) (by first | assumption | omega | (subst hj1; omega)) hP hD hS (lv_sub hl [1, 2, 0] rfl)
                · refine lv_aload_n hx hb dX1_lead_110 rfl (lv_at hl 0 rfl) ?_
                  refine t_get (D := D) (L := L) (f := f_33) (ci := 1) (v := .ref (g 36)) (C := RX1) (T := TX1) (N := 8) hx hb hts (by decide +kernel) hown hK.1 hP (gm_15 hG) fc_33_g15 rfl 2 (by decide) (hts (.fieldLink RX1 18 "JugglingHall$Catches" "cycleAt" "[I") (by decide +kernel)) (fun _ h9 => h9) rfl dX1_lead_111 ?_
                  refine lv_iload_n hx hb dX1_lead_114 rfl (lv_at hl 2 rfl) ?_
                  obtain ⟨c_43, fg_43⟩ := op_36 hI (gm_36 hG) (gs_36 hG)
                  refine t_iald (L := L) (f := f_33) (y := c_43) (u := cf.toInt) hx hb hK.1 hP (gm_36 hG) 0 fg_43 rfl dX1_lead_115 (rfl) (by subst hj1; omega) (fun z_44 q_44 e_44 => ?_)
                  have hv115 : z_44.toInt = La cf.toInt := by rw [q_44]; exact Arf_at y1 fg_43 cf.toInt (by subst hj1; omega) (by subst hj1; omega)
                  refine lv_iconst (v := (-1)) hx hb dX1_lead_116 (by decide) ?_
                  refine a_icmp_ne (u := z_44.toInt) (v := (-1)) (tgt := 125) hx hb dX1_lead_117 (by decide) (rfl) (by decide) (fun c_45 => ?_) (fun c_45 => ?_)
                  · obtain ⟨z_46, q_46, e_46⟩ := i_inc (a := cf.toInt) (1) (rfl) (by decide) (by subst hj1; omega) (by subst hj1; omega)
                    refine lv_iinc (v := z_46) (lv' := [(2, .int z_46), (0, .ref (g 15)), (1, .ref b)]) hx hb dX1_lead_125 hl (k := 2) rfl q_46 (by decide) rfl (fun ls hl => ?_)
                    refine lv_goto (tgt := 88) hx hb dX1_lead_128 (by decide) ?_
                    exact ih88 z_46 k3 f_33 _ _ _ (by subst hj1; omega) hI hF fc_33_g15 (by first | assumption | omega | (subst hj1; omega)) (hS2) (⟨La, y1, by rw [show z_46.toInt = cf.toInt + 1 by omega]; exact LabP_n y2 (fun _ _ => by have := (y2.2.2.1 cf.toInt (by subst hj1; omega) (by subst hj1; omega)).1; omega)⟩) (by first | assumption | omega | (subst hj1; omega)) hP hD hS (lv_sub hl [1, 2, 0] rfl)
                  · refine lv_aload_n hx hb dX1_lead_120 rfl (lv_at hl 0 rfl) ?_
                    refine lv_iload_n hx hb dX1_lead_121 rfl (lv_at hl 2 rfl) ?_
                    refine call_p (va_runV (As := [.int cf]) (rest := []) ⟨hx, hb, hml, hown, hts⟩ (t_X1_followm l D cI cR cM _ (w := w) (so := so) (La := La)  hj hG hI fc_33_g15 m_b s_b fb_35 fb_36 (by first | assumption | omega | (subst hj1; omega)) (hRC) (⟨by omega, by omega, (h_40.resolve_right (fun q9 => by have := q9.1; omega)).2⟩) (by subst hj1; omega) (hBj) (y2) (hS2) (y1) (by subst hj1; omega)) (cwV 1 hts gX1_lead_X1_follow rfl rfl rfl (by decide +kernel) ⟨Nat.le_of_ble_eq_true rfl, Nat.le_of_ble_eq_true rfl⟩) (pre_T hK hP hD (gm_15 hG) fc_33_g15 rfl) rfl rfl hl.1 rfl (lv_room (Nat.le_of_ble_eq_true rfl)) dX1_lead_122 ⟨Nat.le_of_ble_eq_true rfl, Nat.le_of_ble_eq_true rfl⟩) hD hS hA (fun u_47 H locs hw hP hD hS => ?_)
                    obtain ⟨f_47, e0_47⟩ : ∃ x, x = u_47 := ⟨_, rfl⟩
                    subst e0_47
                    obtain ⟨hI, hF_47, hc_47, hp_47, hfx_47⟩ : IN jn cI cR cM g L S f_47 ∧ FR S [15, 36, 37, 38, 39] f_33 f_47 ∧ (∃ k9 : Int32, f_47 (g 15) = .inr (1, [.ref (g 35), .ref (g 27), .ref (g 36), .ref (g 37), .ref (g 38), .ref (g 39), .int k9, va_rf (some b)]) ∧ k9.toInt = k3.toInt + 1) ∧ (∃ L1 : Int → Int, Arf cI f_47 (g 36) L1 (2 * b_l.toInt) ∧ LabP w (2 * b_l.toInt) so (cf.toInt + 1) L1 (k3.toInt + 1)) ∧ (FX S (fun _ => False) [15, 36, 37, 38, 39] f_33 f_47) := hw
                    have hP : va_P D vwCl (va_pl L f_47) H := hP
                    have hD : va_D A (va_pl L f_47) := hD
                    have hF := FR_tr hF hF_47 (by decide)
                    have hFX := FX_tr hFX hfx_47 (fun _ h9 => h9.elim) (by decide)
                    have fb_48 : f_47 b = .inr (5, [.int (nI jn), .int (nI (2 * jn)), .ref b_p, .int b_l]) := FR_at hF_47 s_b (show (0 : Nat) ∉ ([15, 36, 37, 38, 39] : List Nat) by decide) fb_35
                    have fb_49 : f_47 b_p = .inl (cI, b_n, .inl b_c) := FR_at hF_47 s_b_p (show (1 : Nat) ∉ ([15, 36, 37, 38, 39] : List Nat) by decide) fb_36
                    obtain ⟨kn_50, fc_50, ek_50⟩ := hc_47
                    obtain ⟨z_51, q_51, e_51⟩ := i_inc (a := cf.toInt) (1) (rfl) (by decide) (by subst hj1; omega) (by subst hj1; omega)
                    refine lv_iinc (v := z_51) (lv' := [(2, .int z_51), (0, .ref (g 15)), (1, .ref b)]) hx hb dX1_lead_125 hl (k := 2) rfl q_51 (by decide) rfl (fun ls hl => ?_)
                    refine lv_goto (tgt := 88) hx hb dX1_lead_128 (by decide) ?_
                    exact ih88 z_51 kn_50 f_47 _ _ _ (by subst hj1; omega) hI hF fc_50 (by first | assumption | omega | (subst hj1; omega)) (Arf_fr hS2 (gs_27 hG) hF_47 (by decide)) (by
                      obtain ⟨L1, u1, u2⟩ := hp_47
                      exact ⟨L1, u1, by rw [show z_51.toInt = cf.toInt + 1 by omega, show kn_50.toInt = k3.toInt + 1 by omega]; exact u2⟩) (by first | assumption | omega | (subst hj1; omega)) hP hD hS (lv_sub hl [1, 2, 0] rfl)
          have hz_52 : (0 : Int32).toInt = 0 := by decide
          exact loop88 ((200 - (0 : Int32).toInt).toNat + 1) (0 : Int32) k2 f_27 _ _ _ (by subst hj1; omega) hI hF fc_27_g15 (by first | assumption | omega | (subst hj1; omega)) (x1) (⟨fun _ => -1, hY1, by rw [show (0 : Int32).toInt = 0 from rfl, show k2.toInt = 0 by omega]; exact LabP_0⟩) (by first | assumption | omega | (subst hj1; omega)) hP hD hS (lv_sub hl [1, 2, 0] rfl)
        · refine lv_aload_n hx hb dX1_lead_54 rfl (lv_at hl 0 rfl) ?_
          refine t_get (D := D) (L := L) (f := f_27) (ci := 1) (v := .ref b) (C := RX1) (T := TX1) (N := 8) hx hb hts (by decide +kernel) hown hK.1 hP (gm_15 hG) fc_27_g15 rfl 7 (by decide) (hts (.fieldLink RX1 60 "JugglingHall$Catches" "row" "LJugglingHall$Row;") (by decide +kernel)) (fun _ h9 => h9) rfl dX1_lead_55 ?_
          refine lv_iload_n hx hb dX1_lead_58 rfl (lv_at hl 2 rfl) ?_
          refine roP (va_runV (As := [.int ce]) (rest := []) ⟨hx, hb, hml, hown, hts⟩ (t_X5_isThrowm l D cI cR cM _ (w := w)  hj hG hI m_b s_b fb_29 fb_30 (by first | assumption | omega | (subst hj1; omega)) (by subst hj1; omega) (hRC)) (cwV 1 hts gX1_lead_X5_isThrow rfl rfl rfl (by decide +kernel) ⟨Nat.le_of_ble_eq_true rfl, Nat.le_of_ble_eq_true rfl⟩) (pre_T hK hP hD m_b fb_29 rfl) rfl rfl hl.1 rfl (lv_room (Nat.le_of_ble_eq_true rfl)) dX1_lead_59 ⟨Nat.le_of_ble_eq_true rfl, Nat.le_of_ble_eq_true rfl⟩) hS hA hP (fun r_53 H locs hw hP hS => ?_)
          obtain ⟨h_53, h01_53⟩ : ((r_53.toInt = 1 ∧ w ce.toInt ≠ 0) ∨ (r_53.toInt = 0 ∧ w ce.toInt = 0)) ∧ (r_53.toInt = 0 ∨ r_53.toInt = 1) := hw
          refine a_if_eq (u := r_53.toInt) (tgt := 80) hx hb dX1_lead_62 (by decide) (rfl) (fun c_54 => ?_) (fun c_54 => ?_)
          · obtain ⟨z_55, q_55, e_55⟩ := i_inc (a := ce.toInt) (1) (rfl) (by decide) (by subst hj1; omega) (by subst hj1; omega)
            refine lv_iinc (v := z_55) (lv' := [(2, .int z_55), (0, .ref (g 15)), (1, .ref b)]) hx hb dX1_lead_80 hl (k := 2) rfl q_55 (by decide) rfl (fun ls hl => ?_)
            refine lv_goto (tgt := 43) hx hb dX1_lead_83 (by decide) ?_
            exact ih43 z_55 k2 f_27 _ _ _ (by subst hj1; omega) hI hF fc_27_g15 (by first | assumption | omega | (subst hj1; omega)) (by first | assumption | omega | (subst hj1; omega)) (⟨so, x1, by rw [show z_55.toInt = ce.toInt + 1 by omega]; exact SrcA_n x2 (by subst hj1; omega) (by subst hj1; omega) (h_53.resolve_left (fun q9 => by have := q9.1; omega)).2⟩) (hY1) (by first | assumption | omega | (subst hj1; omega)) hP hD hS (lv_sub hl [1, 2, 0] rfl)
          · have hz9 := (h_53.resolve_right (fun q9 => by have := q9.1; omega)).2
            refine lv_aload_n hx hb dX1_lead_65 rfl (lv_at hl 0 rfl) ?_
            refine lv_iload_n hx hb dX1_lead_66 rfl (lv_at hl 2 rfl) ?_
            refine lv_aload_n hx hb dX1_lead_67 rfl (lv_at hl 0 rfl) ?_
            refine t_get (D := D) (L := L) (f := f_27) (ci := 1) (v := .ref b) (C := RX1) (T := TX1) (N := 8) hx hb hts (by decide +kernel) hown hK.1 hP (gm_15 hG) fc_27_g15 rfl 7 (by decide) (hts (.fieldLink RX1 60 "JugglingHall$Catches" "row" "LJugglingHall$Row;") (by decide +kernel)) (fun _ h9 => h9) rfl dX1_lead_68 ?_
            refine lv_iload_n hx hb dX1_lead_71 rfl (lv_at hl 2 rfl) ?_
            refine roP (va_runV (As := [.int ce]) (rest := [.int ce, .ref (g 15)]) ⟨hx, hb, hml, hown, hts⟩ (t_X5_landingm l D cI cR cM _ (w := w)  hj hG hI m_b s_b fb_29 fb_30 (by first | assumption | omega | (subst hj1; omega)) (by subst hj1; omega) (hRC) (hz9)) (cwV 1 hts gX1_lead_X5_landing rfl rfl rfl (by decide +kernel) ⟨Nat.le_of_ble_eq_true rfl, Nat.le_of_ble_eq_true rfl⟩) (pre_T hK hP hD m_b fb_29 rfl) rfl rfl hl.1 rfl (lv_room (Nat.le_of_ble_eq_true rfl)) dX1_lead_72 ⟨Nat.le_of_ble_eq_true rfl, Nat.le_of_ble_eq_true rfl⟩) hS hA hP (fun r_56 H locs hw hP hS => ?_)
            obtain ⟨h_56, hb_56⟩ : (r_56.toInt = (ce.toInt / 2 + w ce.toInt) % b_l.toInt) ∧ (0 ≤ r_56.toInt ∧ r_56.toInt < b_l.toInt) := hw
            refine lv_iconst (v := 2) hx hb dX1_lead_75 (by decide) ?_
            refine a_imul (u := r_56.toInt) (v := 2) hx hb dX1_lead_76 (rfl) (by decide) (by subst hj1; omega) (fun z_57 e_57 => ?_)
            have hyy : z_57.toInt = 2 * ((ce.toInt / 2 + w ce.toInt) % b_l.toInt) := by have h9 := h_56; omega
            refine call_p (va_runV (As := [.int ce, .int z_57]) (rest := []) ⟨hx, hb, hml, hown, hts⟩ (t_X1_landm l D cI cR cM _ (w := w) (so := so)  hj hG hI fc_27_g15 m_b s_b fb_29 fb_30 (by first | assumption | omega | (subst hj1; omega)) (hRC) (by subst hj1; omega) (by subst hj1; omega) (x1) (SrcA_r x2 hGd (by subst hj1; omega) (by subst hj1; omega) hz9 (by subst hj1; omega) hyy)) (cwV 2 hts gX1_lead_X1_land rfl rfl rfl (by decide +kernel) ⟨Nat.le_of_ble_eq_true rfl, Nat.le_of_ble_eq_true rfl⟩) (pre_T hK hP hD (gm_15 hG) fc_27_g15 rfl) rfl rfl hl.1 rfl (lv_room (Nat.le_of_ble_eq_true rfl)) dX1_lead_77 ⟨Nat.le_of_ble_eq_true rfl, Nat.le_of_ble_eq_true rfl⟩) hD hS hA (fun u_58 H locs hw hP hD hS => ?_)
            obtain ⟨f_58, e0_58⟩ : ∃ x, x = u_58 := ⟨_, rfl⟩
            subst e0_58
            obtain ⟨hI, hF_58, hp_58, hfx_58⟩ : IN jn cI cR cM g L S f_58 ∧ FR S [27] f_27 f_58 ∧ (∃ s1 : Int → Int, Arf cI f_58 (g 27) s1 (2 * b_l.toInt) ∧ (∀ t9 : Int, t9 ≠ z_57.toInt → t9 ≠ z_57.toInt + 1 → s1 t9 = so t9) ∧ ((so z_57.toInt = -1 ∧ s1 z_57.toInt = ce.toInt ∧ s1 (z_57.toInt + 1) = so (z_57.toInt + 1)) ∨ (so z_57.toInt ≠ -1 ∧ Ahd w ce.toInt (so z_57.toInt) ∧ s1 z_57.toInt = ce.toInt ∧ s1 (z_57.toInt + 1) = so z_57.toInt) ∨ (so z_57.toInt ≠ -1 ∧ ¬ Ahd w ce.toInt (so z_57.toInt) ∧ s1 z_57.toInt = so z_57.toInt ∧ s1 (z_57.toInt + 1) = ce.toInt))) ∧ (FX S (fun _ => False) [27] f_27 f_58) := hw
            have hP : va_P D vwCl (va_pl L f_58) H := hP
            have hD : va_D A (va_pl L f_58) := hD
            have hF := FR_tr hF hF_58 (by decide)
            have hFX := FX_tr hFX hfx_58 (fun _ h9 => h9.elim) (by decide)
            have fb_59 : f_58 (g 15) = .inr (1, [.ref (g 35), .ref (g 27), .ref (g 36), .ref (g 37), .ref (g 38), .ref (g 39), .int k2, va_rf (some b)]) := FR_at hF_58 (gs_15 hG) (show (15 : Nat) ∉ ([27] : List Nat) by decide) fc_27_g15
            have fb_60 : f_58 b = .inr (5, [.int (nI jn), .int (nI (2 * jn)), .ref b_p, .int b_l]) := FR_at hF_58 s_b (show (0 : Nat) ∉ ([27] : List Nat) by decide) fb_29
            have fb_61 : f_58 b_p = .inl (cI, b_n, .inl b_c) := FR_at hF_58 s_b_p (show (1 : Nat) ∉ ([27] : List Nat) by decide) fb_30
            obtain ⟨z_62, q_62, e_62⟩ := i_inc (a := ce.toInt) (1) (rfl) (by decide) (by subst hj1; omega) (by subst hj1; omega)
            refine lv_iinc (v := z_62) (lv' := [(2, .int z_62), (0, .ref (g 15)), (1, .ref b)]) hx hb dX1_lead_80 hl (k := 2) rfl q_62 (by decide) rfl (fun ls hl => ?_)
            refine lv_goto (tgt := 43) hx hb dX1_lead_83 (by decide) ?_
            exact ih43 z_62 k2 f_58 _ _ _ (by subst hj1; omega) hI hF fb_59 (by first | assumption | omega | (subst hj1; omega)) (by first | assumption | omega | (subst hj1; omega)) (by
              obtain ⟨s1, u1, u2, u3⟩ := hp_58
              refine ⟨s1, u1, ?_⟩
              rw [show z_62.toInt = ce.toInt + 1 by omega]
              exact SrcA_s x2 hGd (by subst hj1; omega) (by subst hj1; omega) hz9 (by subst hj1; omega) hyy u2 u3) (Arf_fr hY1 (gs_36 hG) hF_58 (by decide)) (by first | assumption | omega | (subst hj1; omega)) hP hD hS (lv_sub hl [1, 2, 0] rfl)
    have hz_63 : (0 : Int32).toInt = 0 := by decide
    have hz_64 : (0 : Int32).toInt = 0 := by decide
    exact loop43 ((200 - (0 : Int32).toInt).toNat + 1) (0 : Int32) (0 : Int32) f_21 _ _ _ (by subst hj1; omega) hI hF fa_21 (by first | assumption | omega | (subst hj1; omega)) (by first | assumption | omega | (subst hj1; omega)) (⟨fun _ => -1, ⟨_, fb_25, fun t9 h8 h9 => by rw [hw_11 t9.toNat (by subst hj1; omega)]; rfl⟩, by rw [show (0 : Int32).toInt = 0 from rfl]; exact SrcA_0 (fun _ _ _ => rfl)⟩) (⟨_, fb_26, fun t9 h8 h9 => by rw [hw_16 t9.toNat (by subst hj1; omega)]; rfl⟩) (by first | assumption | omega | (subst hj1; omega)) hP hD hS (lv_sub hl [1, 2, 0] rfl)
  · refine lv_iconst (v := 0) hx hb dX1_lead_13 (by decide) ?_
    have hz_65 : (0 : Int32).toInt = 0 := by decide
    exact g_zret ((0 : Int32), f_2) hx hb hr hlocks hS (by first | exact Or.inl rfl | exact Or.inr rfl) rfl (⟨hI, hF, show Hd (((0 : Int32).toInt = 1 ∧ GdW w b_l.toInt ∧ ∃ (k9 : Int32) (so La : Int → Int), f_2 (g 15) = .inr (1, [.ref (g 35), .ref (g 27), .ref (g 36), .ref (g 37), .ref (g 38), .ref (g 39), .int k9, va_rf (some b)]) ∧ Arf cI f_2 (g 27) so (2 * b_l.toInt) ∧ SrcF w b_l.toInt so ∧ Arf cI f_2 (g 36) La (2 * b_l.toInt) ∧ LabP w (2 * b_l.toInt) so (2 * b_l.toInt) La k9.toInt) ∨ ((0 : Int32).toInt = 0 ∧ ¬ GdW w b_l.toInt)) from (Or.inr ⟨rfl, (hp_2.resolve_left (fun q9 => by have := q9.1; omega)).2⟩), show FX S (fun _ => False) [15, 27, 35, 36, 37, 38, 39] f f_2 from (by first | assumption | omega | (subst hj1; omega)), show (0 : Int32).toInt = 0 ∨ (0 : Int32).toInt = 1 from (by first | assumption | omega | (subst hj1; omega))⟩) hP hD hQ (Nat.le_of_ble_eq_true rfl) (Nat.le_of_ble_eq_true rfl) dX1_lead_14
