/-- the reader's rows: how much they hold, and that they are not one another -/
def RDC (g lv gr : Nat → Nat) (S : Sg) : Prop := ((S (g 24)).2.2 = 2 ∧ (S (g 25)).2.2 = 48 ∧ g 24 ≠ g 25) ∧ (∀ k : Nat, k < 6 → (S (lv k)).2.2 = 48 ∧ lv k ≠ g 24 ∧ lv k ≠ g 25) ∧ (∀ k : Nat, k < 8 → (S (gr k)).2.2 = 48 ∧ gr k ≠ g 24 ∧ gr k ≠ g 25) ∧ (∀ k j : Nat, k < 6 → j < 8 → lv k ≠ gr j) ∧ (∀ k j : Nat, k < 6 → j < 6 → k ≠ j → lv k ≠ lv j) ∧ (∀ k j : Nat, k < 8 → j < 8 → k ≠ j → gr k ≠ gr j)
theorem cap_of {S : Sg} {a p N k : Nat} (h : (S a).2.2 = k) (hs : S a = (0, p, N)) : N = k := by rw [hs] at h; exact h
set_option maxRecDepth 100000 in
set_option maxHeartbeats 4000000 in
theorem t_X4_joinGroupm (l : Launch) (D : va_G) (cI cR cM : ClassId) (sz : Nat) {jn : Nat} {g : Nat → Nat} {L : List Nat} {S : Sg} {f : Nat → va_E} {x y : Int32} {lv gr : Nat → Nat} {a8 d n0 m0 : Int} {wr wi : Int → Int} (hj : 1 ≤ jn ∧ jn ≤ 3) (hG : SG g L S) (hI : IN jn cI cR cM g L S f) (hj1 : jn = 1) (hx9 : x.toInt = cK a8) (hka : kOK a8 ∧ (a8 = 40 ∨ (7 ≤ a8 ∧ a8 ≤ 10))) (hy0 : 0 ≤ y.toInt ∧ y.toInt ≤ 4) (hRD : RDC g lv gr S) (hLv : LvC cR g lv f) (hRr : RWf cI jn S f (lv y.toInt.toNat) n0 wr) (hRi : RWf cI jn S f (lv (y.toInt + 1).toNat) m0 wi) (hnm0 : 0 ≤ n0 ∧ n0 ≤ 24 ∧ 1 ≤ m0 ∧ m0 ≤ 24) (hTN : a8 = 10 → TNf cI g f y.toInt d) (hsr : ∀ b9 : Int, 0 ≤ b9 → b9 < m0 → Srt wi b9) : Met l yX4_joinGroup wsX4_joinGroup ({ frames := 3, cells := 0, slots := 0, locals := 111 }) (P0 D cI cR cM [.ref (g 13), .int x, .int y] sz (va_pl L f)) (QG (S := Int32 × (Nat → va_E)) (fun u => some (.int u.1)) (fun u => va_pl L u.2) (fun u => IN jn cI cR cM g L S u.2 ∧ FR S [0, 1, 13] f u.2 ∧ ((u.1.toInt = 1 ∧ n0 + m0 ≤ 24 ∧ ∃ v9 : Int → Int, ChI a8 d wi m0 v9 ∧ RWf cI jn S u.2 (lv y.toInt.toNat) (n0 + m0) (fun j => if j < 2 * n0 then wr j else v9 (j - 2 * n0))) ∨ (u.1.toInt = 0 ∧ (24 < n0 + m0 ∨ ChIF a8 wi m0))) ∧ (FX S (fun a9 => a9 = lv y.toInt.toNat ∨ a9 = g 25) [13] f u.2) ∧ (u.1.toInt = 0 ∨ u.1.toInt = 1)) D (va_A (va_pl L f) sz)) 0 0 (va_A (va_pl L f) sz) := by
  refine go (cc := cX4_joinGroup) (maxL := 6) (ret := (some .boolean)) (by decide +kernel) rfl (Nat.le_of_ble_eq_true rfl) ?_
  intro p e s m below meth c ls args Q hQ hsz hx hb hr hml hts hown hlocks hnm hP hK hD hl
  subst hsz
  have hD := hD.self (sz := s.heap.size)
  generalize hAe : va_A (va_pl L f) s.heap.size = A at hD hQ
  have hA : ∀ q, s.heap.size ≤ q → A q := fun q h => by rw [← hAe]; exact Or.inr h
  have hS : va_S A s.heap s.heap [] := va_S.rf
  have hFX : FX S (fun a9 => a9 = lv y.toInt.toNat ∨ a9 = g 25) [13] f f := FX_rf
  have hF : FR S [0, 1, 13] f f := FR_rf
  have hl : lv_has ls 6 [(0, .ref (g 13)), (1, .int x), (2, .int y)] := hl
  refine lv_aload_n hx hb dX4_joinGroup_0 rfl (lv_at hl 0 rfl) ?_
  obtain ⟨fa_1, pl_1, fg_1⟩ := op_13 hI (gm_13 hG) (gs_13 hG)
  refine t_get (D := D) (L := L) (f := f) (ci := 4) (v := .ref (g 22)) (C := RX4) (T := TX4) (N := 11) hx hb hts (by decide +kernel) hown hK.1 hP (gm_13 hG) fg_1 rfl 3 (by decide) (hts (.fieldLink RX4 13 "JugglingHall$Reader" "levels" "[LJugglingHall$Row;") (by decide +kernel)) (fun _ h9 => h9) rfl dX4_joinGroup_1 ?_
  refine lv_iload_n hx hb dX4_joinGroup_4 rfl (lv_at hl 2 rfl) ?_
  obtain ⟨c_2, fg_2, iv0_2⟩ := op_22 hI (gm_22 hG) (gs_22 hG)
  refine t_aald (L := L) (f := f) (y := c_2) (u := y.toInt) hx hb hK.1 hP (gm_22 hG) 1 fg_2 rfl dX4_joinGroup_5 (rfl) (by subst hj1; omega) (fun w_3 q_3 => ?_)
  obtain ⟨r_3, p_3, n_3, er_3, m_3, s_3⟩ := iv0_2 y.toInt (by subst hj1; omega) (by subst hj1; omega)
  have q_3 := q_3.trans er_3
  subst q_3
  refine W.eq (g2 := F0 m 6 ls [.ref r_3]) rfl ?_
  have hh_3 : r_3 = lv y.toInt.toNat := LvC_at (l := y.toInt) hLv fg_2 (by subst hj1; omega) (by subst hj1; omega) (by rw [show y.toInt = y.toInt by omega]; exact er_3)
  have hR_3 := RWf_e hRr hh_3
  obtain ⟨len_4, fg_4, v1_4, v2_4, v3_4, mp_4, sp_4⟩ := op_0 hI m_3 s_3
  obtain ⟨w1_4, w2_4, w3_4, w4_4, w5_4⟩ := lenw hj v1_4 v2_4 v3_4
  obtain ⟨c_5, fg_5, iv0_5⟩ := op_1 hI mp_4 sp_4
  obtain ⟨hl_6, hc_6⟩ := RWf_at hR_3 s_3 fg_4 fg_5
  have hq_3 : r_3 ≠ g 25 := by rw [hh_3]; exact (hRD.2.1 _ (by subst hj1; omega)).2.2
  have hN_3 := cap_of (S := S) (a := r_3) (k := 48) (by rw [hh_3]; exact (hRD.2.1 _ (by subst hj1; omega)).1) s_3
  refine lv_astore_n (lv' := [(3, .ref r_3), (0, .ref (g 13)), (1, .int x), (2, .int y)]) hx hb dX4_joinGroup_6 rfl hl (by decide) rfl (fun ls hl => ?_)
  refine lv_aload_n hx hb dX4_joinGroup_7 rfl (lv_at hl 1 rfl) ?_
  refine t_get (D := D) (L := L) (f := f) (ci := 4) (v := .ref (g 22)) (C := RX4) (T := TX4) (N := 11) hx hb hts (by decide +kernel) hown hK.1 hP (gm_13 hG) fg_1 rfl 3 (by decide) (hts (.fieldLink RX4 13 "JugglingHall$Reader" "levels" "[LJugglingHall$Row;") (by decide +kernel)) (fun _ h9 => h9) rfl dX4_joinGroup_8 ?_
  refine lv_iload_n hx hb dX4_joinGroup_11 rfl (lv_at hl 3 rfl) ?_
  refine lv_iconst (v := 1) hx hb dX4_joinGroup_12 (by decide) ?_
  refine a_iadd (u := y.toInt) (v := 1) hx hb dX4_joinGroup_13 (rfl) (by decide) (by subst hj1; omega) (fun z_7 e_7 => ?_)
  refine t_aald (L := L) (f := f) (y := c_2) (u := (y.toInt + 1)) hx hb hK.1 hP (gm_22 hG) 1 fg_2 rfl dX4_joinGroup_14 (e_7) (by subst hj1; omega) (fun w_8 q_8 => ?_)
  obtain ⟨r_8, p_8, n_8, er_8, m_8, s_8⟩ := iv0_2 (y.toInt + 1) (by subst hj1; omega) (by subst hj1; omega)
  have q_8 := q_8.trans er_8
  subst q_8
  refine W.eq (g2 := F0 m 15 ls [.ref r_8]) rfl ?_
  have hh_8 : r_8 = lv (y.toInt + 1).toNat := LvC_at (l := y.toInt + 1) hLv fg_2 (by subst hj1; omega) (by subst hj1; omega) (by rw [show y.toInt + 1 = (y.toInt + 1) by omega]; exact er_8)
  have hR_8 := RWf_e hRi hh_8
  obtain ⟨len_9, fg_9, v1_9, v2_9, v3_9, mp_9, sp_9⟩ := op_0 hI m_8 s_8
  obtain ⟨w1_9, w2_9, w3_9, w4_9, w5_9⟩ := lenw hj v1_9 v2_9 v3_9
  obtain ⟨c_10, fg_10, iv0_10⟩ := op_1 hI mp_9 sp_9
  obtain ⟨hl_11, hc_11⟩ := RWf_at hR_8 s_8 fg_9 fg_10
  have hq_8 : r_8 ≠ g 25 := by rw [hh_8]; exact (hRD.2.1 _ (by subst hj1; omega)).2.2
  have hN_8 := cap_of (S := S) (a := r_8) (k := 48) (by rw [hh_8]; exact (hRD.2.1 _ (by subst hj1; omega)).1) s_8
  refine lv_astore (lv' := [(4, .ref r_8), (3, .ref r_3), (0, .ref (g 13)), (1, .int x), (2, .int y)]) hx hb dX4_joinGroup_15 hl (by decide) rfl (fun ls hl => ?_)
  refine lv_aload_n hx hb dX4_joinGroup_17 rfl (lv_at hl 1 rfl) ?_
  refine t_getN (D := D) (L := L) (f := f) (ci := 5) (v := .int len_4) (C := RX5) (T := TX5) (N := 4) (host := "JugglingHall") hx hb hts (by decide +kernel) hown hK.1 hP m_3 fg_4 rfl 3 (by decide) (hK.nw (.fieldLinkNest RX4 62 "JugglingHall$Row" "length" "I" "JugglingHall") (by decide +kernel) rfl) (fun _ h9 => h9) rfl dX4_joinGroup_18 ?_
  refine lv_aload hx hb dX4_joinGroup_21 (lv_at hl 0 rfl) ?_
  refine t_getN (D := D) (L := L) (f := f) (ci := 5) (v := .int len_9) (C := RX5) (T := TX5) (N := 4) (host := "JugglingHall") hx hb hts (by decide +kernel) hown hK.1 hP m_8 fg_9 rfl 3 (by decide) (hK.nw (.fieldLinkNest RX4 62 "JugglingHall$Row" "length" "I" "JugglingHall") (by decide +kernel) rfl) (fun _ h9 => h9) rfl dX4_joinGroup_23 ?_
  refine a_iadd (u := len_4.toInt) (v := len_9.toInt) hx hb dX4_joinGroup_26 (rfl) (rfl) (by subst hj1; omega) (fun z_12 e_12 => ?_)
  refine lv_bipush (v := 24) hx hb dX4_joinGroup_27 (by decide) ?_
  refine a_icmp_le (u := (len_4.toInt + len_9.toInt)) (v := 24) (tgt := 38) hx hb dX4_joinGroup_29 (by decide) (e_12) (by decide) (fun c_13 => ?_) (fun c_13 => ?_)
  · refine lv_iconst (v := 1) hx hb dX4_joinGroup_38 (by decide) ?_
    refine lv_istore (lv' := [(5, .int 1), (4, .ref r_8), (3, .ref r_3), (0, .ref (g 13)), (1, .int x), (2, .int y)]) hx hb dX4_joinGroup_39 hl (by decide) rfl (fun ls hl => ?_)
    refine lv_iload_n hx hb dX4_joinGroup_41 rfl (lv_at hl 4 rfl) ?_
    have hu_14 : x.toInt = x.toInt := rfl
    rcases (show (x.toInt < 6 ∨ 9 < x.toInt) ∨ (x.toInt = 6) ∨ (x.toInt = 7) ∨ (x.toInt = 8) ∨ (x.toInt = 9) by omega) with c_14 | c_14 | c_14 | c_14 | c_14
    · refine lv_tableOut (tgt := 130) hx hb dX4_joinGroup_42 (by subst hj1; omega) (by decide) ?_
      refine lv_aload_n hx hb dX4_joinGroup_130 rfl (lv_at hl 3 rfl) ?_
      refine t_get (D := D) (L := L) (f := f) (ci := 4) (v := .ref (g 25)) (C := RX4) (T := TX4) (N := 11) hx hb hts (by decide +kernel) hown hK.1 hP (gm_13 hG) fg_1 rfl 7 (by decide) (hts (.fieldLink RX4 56 "JugglingHall$Reader" "changed" "LJugglingHall$Row;") (by decide +kernel)) (fun _ h9 => h9) rfl dX4_joinGroup_131 ?_
      refine lv_aload hx hb dX4_joinGroup_134 (lv_at hl 1 rfl) ?_
      obtain ⟨p_15, n_15, m_15, s_15⟩ := hG.2.2.1
      obtain ⟨len_16, fg_16, v1_16, v2_16, v3_16, mp_16, sp_16⟩ := op_0 hI m_15 s_15
      obtain ⟨w1_16, w2_16, w3_16, w4_16, w5_16⟩ := lenw hj v1_16 v2_16 v3_16
      obtain ⟨c_17, fg_17, iv0_17⟩ := op_1 hI mp_16 sp_16
      have hN25 := cap_of (S := S) (a := g 25) (k := 48) hRD.1.2.1 s_15
      refine call_p (va_runV (As := [.ref r_8]) (rest := []) ⟨hx, hb, hml, hown, hts⟩ (t_X5_takeFromm l D cI cR cM _ (v := wi)  hj hG hI m_15 s_15 fg_16 fg_17 m_8 s_8 fg_9 fg_10 (by first | assumption | omega | (subst hj1; omega)) (hq_8) (by rw [hl_11]; exact hc_11) (by subst hj1; omega)) (cwV 1 hts gX4_joinGroup_X5_takeFrom rfl rfl rfl (by decide +kernel) ⟨Nat.le_of_ble_eq_true rfl, Nat.le_of_ble_eq_true rfl⟩) (pre_T hK hP hD m_15 fg_16 rfl) rfl rfl hl.1 rfl (lv_room (Nat.le_of_ble_eq_true rfl)) dX4_joinGroup_136 ⟨Nat.le_of_ble_eq_true rfl, Nat.le_of_ble_eq_true rfl⟩) hD hS hA (fun u_18 H locs hw hP hD hS => ?_)
      obtain ⟨r_18, f_18⟩ := u_18
      obtain ⟨hI, hF_18, hp_18, hfx_18, h01_18⟩ : IN jn cI cR cM g L S f_18 ∧ FR S [0, 1] f f_18 ∧ (r_18.toInt = 1 ∧ RWf cI jn S f_18 (g 25) len_9.toInt wi) ∧ (FX S (fun a9 => a9 = (g 25)) [] f f_18) ∧ (r_18.toInt = 0 ∨ r_18.toInt = 1) := hw
      have hP : va_P D vwCl (va_pl L f_18) H := hP
      have hD : va_D A (va_pl L f_18) := hD
      have hF := FR_tr hF hF_18 (by decide)
      have hFX := FX_tr hFX hfx_18 (fun a9 h9 => Or.inr h9) (by decide)
      have fb_19 : f_18 (g 13) = .inr (4, [.int (nI jn), .ref (g 14), .ref (g 12), .ref (g 22), .ref (g 34), .ref (g 23), .ref (g 24), .ref (g 25), .ref (g 26), .int fa_1, .int pl_1]) := FR_at hF_18 (gs_13 hG) (show (13 : Nat) ∉ ([0, 1] : List Nat) by decide) fg_1
      have fb_20 : f_18 (g 22) = .inl (cR, 6, .inr (.inr (.inr (.inr c_2)))) := FR_at hF_18 (gs_22 hG) (show (22 : Nat) ∉ ([0, 1] : List Nat) by decide) fg_2
      have fb_21 : f_18 r_3 = .inr (5, [.int (nI jn), .int (nI (2 * jn)), .ref p_3, .int len_4]) := (hfx_18 r_3 (by rw [own_0 s_3]; exact hq_3) (by rw [s_3]; exact (show (0 : Nat) ∉ ([] : List Nat) by decide))).trans fg_4
      have fb_22 : f_18 p_3 = .inl (cI, n_3, .inl c_5) := (hfx_18 p_3 (by rw [own_1 sp_4]; exact hq_3) (by rw [sp_4]; exact (show (1 : Nat) ∉ ([] : List Nat) by decide))).trans fg_5
      have fb_23 : f_18 r_8 = .inr (5, [.int (nI jn), .int (nI (2 * jn)), .ref p_8, .int len_9]) := (hfx_18 r_8 (by rw [own_0 s_8]; exact hq_8) (by rw [s_8]; exact (show (0 : Nat) ∉ ([] : List Nat) by decide))).trans fg_9
      have fb_24 : f_18 p_8 = .inl (cI, n_8, .inl c_10) := (hfx_18 p_8 (by rw [own_1 sp_9]; exact hq_8) (by rw [sp_9]; exact (show (1 : Nat) ∉ ([] : List Nat) by decide))).trans fg_10
      have ha9 : a8 = 40 := by have h9 := cK_f hka.1; have h8 := hka.2; omega
      have hX_18 : RWf cI jn S f_18 (g 25) m0 wi := by have h9 := hp_18.2; rw [hl_11] at h9; exact h9
      have hch_18 : ChI a8 d wi m0 wi := Or.inl ⟨ha9, rfl⟩
      refine lv_pop hx hb dX4_joinGroup_139 rfl ?_
      refine lv_iload hx hb dX4_joinGroup_140 (lv_at hl 0 rfl) ?_
      refine a_if_eq (u := 1) (tgt := 164) hx hb dX4_joinGroup_142 (by decide) (by decide) (fun c_25 => absurd c_25 (by subst hj1; omega)) (fun c_25 => ?_)
      refine lv_aload_n hx hb dX4_joinGroup_145 rfl (lv_at hl 2 rfl) ?_
      refine lv_aload_n hx hb dX4_joinGroup_146 rfl (lv_at hl 3 rfl) ?_
      refine t_get (D := D) (L := L) (f := f_18) (ci := 4) (v := .ref (g 25)) (C := RX4) (T := TX4) (N := 11) hx hb hts (by decide +kernel) hown hK.1 hP (gm_13 hG) fb_19 rfl 7 (by decide) (hts (.fieldLink RX4 56 "JugglingHall$Reader" "changed" "LJugglingHall$Row;") (by decide +kernel)) (fun _ h9 => h9) rfl dX4_joinGroup_147 ?_
      refine lv_iconst (v := 0) hx hb dX4_joinGroup_150 (by decide) ?_
      refine lv_aload_n hx hb dX4_joinGroup_151 rfl (lv_at hl 3 rfl) ?_
      refine t_get (D := D) (L := L) (f := f_18) (ci := 4) (v := .ref (g 25)) (C := RX4) (T := TX4) (N := 11) hx hb hts (by decide +kernel) hown hK.1 hP (gm_13 hG) fb_19 rfl 7 (by decide) (hts (.fieldLink RX4 56 "JugglingHall$Reader" "changed" "LJugglingHall$Row;") (by decide +kernel)) (fun _ h9 => h9) rfl dX4_joinGroup_152 ?_
      obtain ⟨len_26, fg_26, v1_26, v2_26, v3_26, mp_26, sp_26⟩ := op_0 hI m_15 s_15
      obtain ⟨w1_26, w2_26, w3_26, w4_26, w5_26⟩ := lenw hj v1_26 v2_26 v3_26
      refine t_getN (D := D) (L := L) (f := f_18) (ci := 5) (v := .int len_26) (C := RX5) (T := TX5) (N := 4) (host := "JugglingHall") hx hb hts (by decide +kernel) hown hK.1 hP m_15 fg_26 rfl 3 (by decide) (hK.nw (.fieldLinkNest RX4 62 "JugglingHall$Row" "length" "I" "JugglingHall") (by decide +kernel) rfl) (fun _ h9 => h9) rfl dX4_joinGroup_155 ?_
      obtain ⟨c_27, fg_27, iv0_27⟩ := op_1 hI mp_16 sp_16
      obtain ⟨hl_28, hc_28⟩ := RWf_at hX_18 s_15 fg_26 fg_27
      have hz_29 : (0 : Int32).toInt = 0 := by decide
      refine call_p (va_runV (As := [.ref (g 25), .int 0, .int len_26]) (rest := []) ⟨hx, hb, hml, hown, hts⟩ (t_X5_appendm l D cI cR cM _ (w := wr) (v := wi)  hj hG hI m_3 s_3 fb_21 fb_22 m_15 s_15 fg_26 fg_27 (by first | assumption | omega | (subst hj1; omega)) (by rw [show (0 : Int32).toInt = 0 from rfl]; omega) (by rw [hl_6]; exact hc_6) (by rw [hl_28]; exact hc_28)) (cwV 3 hts gX4_joinGroup_X5_append rfl rfl rfl (by decide +kernel) ⟨Nat.le_of_ble_eq_true rfl, Nat.le_of_ble_eq_true rfl⟩) (pre_T hK hP hD m_3 fb_21 rfl) rfl rfl hl.1 rfl (lv_room (Nat.le_of_ble_eq_true rfl)) dX4_joinGroup_158 ⟨Nat.le_of_ble_eq_true rfl, Nat.le_of_ble_eq_true rfl⟩) hD hS hA (fun u_30 H locs hw hP hD hS => ?_)
      obtain ⟨r_30, f_30⟩ := u_30
      obtain ⟨hI, hF_30, hp_30, hfx_30, h01_30⟩ : IN jn cI cR cM g L S f_30 ∧ FR S [0, 1] f_18 f_30 ∧ ((r_30.toInt = 1 ∧ 2 * (len_4.toInt + (len_26.toInt - (0 : Int32).toInt)) ≤ (n_3 : Int) ∧ RWf cI jn S f_30 r_3 (len_4.toInt + (len_26.toInt - (0 : Int32).toInt)) (fun j => if j < 2 * len_4.toInt then wr j else wi (2 * (0 : Int32).toInt + (j - 2 * len_4.toInt)))) ∨ (r_30.toInt = 0 ∧ (n_3 : Int) < 2 * (len_4.toInt + (len_26.toInt - (0 : Int32).toInt)))) ∧ (FX S (fun a9 => a9 = r_3) [] f_18 f_30) ∧ (r_30.toInt = 0 ∨ r_30.toInt = 1) := hw
      have hP : va_P D vwCl (va_pl L f_30) H := hP
      have hD : va_D A (va_pl L f_30) := hD
      have hF := FR_tr hF hF_30 (by decide)
      have hFX := FX_tr hFX hfx_30 (fun a9 h9 => Or.inl (h9.trans hh_3)) (by decide)
      have fb_31 : f_30 (g 13) = .inr (4, [.int (nI jn), .ref (g 14), .ref (g 12), .ref (g 22), .ref (g 34), .ref (g 23), .ref (g 24), .ref (g 25), .ref (g 26), .int fa_1, .int pl_1]) := FR_at hF_30 (gs_13 hG) (show (13 : Nat) ∉ ([0, 1] : List Nat) by decide) fb_19
      have fb_32 : f_30 (g 22) = .inl (cR, 6, .inr (.inr (.inr (.inr c_2)))) := FR_at hF_30 (gs_22 hG) (show (22 : Nat) ∉ ([0, 1] : List Nat) by decide) fb_20
      refine lv_goto (tgt := 169) hx hb dX4_joinGroup_161 (by decide) ?_
      exact g_zret (r_30, f_30) hx hb hr hlocks hS (b01 (by subst hj1; omega)) rfl (⟨hI, hF, show (r_30.toInt = 1 ∧ n0 + m0 ≤ 24 ∧ ∃ v9 : Int → Int, ChI a8 d wi m0 v9 ∧ RWf cI jn S f_30 (lv y.toInt.toNat) (n0 + m0) (fun j => if j < 2 * n0 then wr j else v9 (j - 2 * n0))) ∨ (r_30.toInt = 0 ∧ (24 < n0 + m0 ∨ ChIF a8 wi m0)) from (by
        rcases hp_30 with ⟨h5, h6, h7⟩ | ⟨h5, h6⟩
        · rw [hl_6, hl_28, show n0 + (m0 - (0 : Int32).toInt) = n0 + m0 by rw [show (0 : Int32).toInt = 0 from rfl]; omega] at h7
          refine Or.inl ⟨h5, by omega, wi, hch_18, RWf_e (RWf_c h7 (fun i9 j0 j1 => by exact ap_1 (w := wr) (v := wi) (n := n0) (i := i9) (z := (0 : Int32).toInt) rfl)) hh_3.symm⟩
        · exfalso
          rw [hl_6, hl_28, show (0 : Int32).toInt = 0 from rfl] at h6
          omega), show FX S (fun a9 => a9 = lv y.toInt.toNat ∨ a9 = g 25) [13] f f_30 from (by first | assumption | omega | (subst hj1; omega)), show r_30.toInt = 0 ∨ r_30.toInt = 1 from (by first | assumption | omega | (subst hj1; omega))⟩) hP hD hQ (Nat.le_of_ble_eq_true rfl) (Nat.le_of_ble_eq_true rfl) dX4_joinGroup_169
    · refine lv_tableIn (off := 30) (tgt := 72) hx hb dX4_joinGroup_42 (by subst hj1; omega) (by subst hj1; omega) (by rw [show (x.toInt - 6).toNat = 0 by omega]; rfl) (by decide) ?_
      refine lv_aload_n hx hb dX4_joinGroup_72 rfl (lv_at hl 3 rfl) ?_
      refine t_get (D := D) (L := L) (f := f) (ci := 4) (v := .ref (g 25)) (C := RX4) (T := TX4) (N := 11) hx hb hts (by decide +kernel) hown hK.1 hP (gm_13 hG) fg_1 rfl 7 (by decide) (hts (.fieldLink RX4 56 "JugglingHall$Reader" "changed" "LJugglingHall$Row;") (by decide +kernel)) (fun _ h9 => h9) rfl dX4_joinGroup_73 ?_
      refine lv_aload hx hb dX4_joinGroup_76 (lv_at hl 1 rfl) ?_
      obtain ⟨p_33, n_33, m_33, s_33⟩ := hG.2.2.1
      obtain ⟨len_34, fg_34, v1_34, v2_34, v3_34, mp_34, sp_34⟩ := op_0 hI m_33 s_33
      obtain ⟨w1_34, w2_34, w3_34, w4_34, w5_34⟩ := lenw hj v1_34 v2_34 v3_34
      obtain ⟨c_35, fg_35, iv0_35⟩ := op_1 hI mp_34 sp_34
      have hN25 := cap_of (S := S) (a := g 25) (k := 48) hRD.1.2.1 s_33
      refine call_p (va_runV (As := [.ref r_8]) (rest := []) ⟨hx, hb, hml, hown, hts⟩ (t_X5_takeBackm l D cI cR cM _ (v := wi)  hj hG hI m_33 s_33 fg_34 fg_35 m_8 s_8 fg_9 fg_10 (by first | assumption | omega | (subst hj1; omega)) (hq_8) (by rw [hl_11]; exact hc_11) (by subst hj1; omega) (by subst hj1; omega)) (cwV 1 hts gX4_joinGroup_X5_takeBack rfl rfl rfl (by decide +kernel) ⟨Nat.le_of_ble_eq_true rfl, Nat.le_of_ble_eq_true rfl⟩) (pre_T hK hP hD m_33 fg_34 rfl) rfl rfl hl.1 rfl (lv_room (Nat.le_of_ble_eq_true rfl)) dX4_joinGroup_78 ⟨Nat.le_of_ble_eq_true rfl, Nat.le_of_ble_eq_true rfl⟩) hD hS hA (fun u_36 H locs hw hP hD hS => ?_)
      obtain ⟨r_36, f_36⟩ := u_36
      obtain ⟨hI, hF_36, hp_36, hfx_36, h01_36⟩ : IN jn cI cR cM g L S f_36 ∧ FR S [0, 1] f f_36 ∧ ((r_36.toInt = 1 ∧ ∃ s9 : Int → Int, bkW wi 0 len_9.toInt (2 * len_9.toInt).toNat = some s9 ∧ RWf cI jn S f_36 (g 25) len_9.toInt s9) ∨ (r_36.toInt = 0 ∧ bkW wi 0 len_9.toInt (2 * len_9.toInt).toNat = none)) ∧ (FX S (fun a9 => a9 = (g 25)) [] f f_36) ∧ (r_36.toInt = 0 ∨ r_36.toInt = 1) := hw
      have hP : va_P D vwCl (va_pl L f_36) H := hP
      have hD : va_D A (va_pl L f_36) := hD
      have hF := FR_tr hF hF_36 (by decide)
      have hFX := FX_tr hFX hfx_36 (fun a9 h9 => Or.inr h9) (by decide)
      have fb_37 : f_36 (g 13) = .inr (4, [.int (nI jn), .ref (g 14), .ref (g 12), .ref (g 22), .ref (g 34), .ref (g 23), .ref (g 24), .ref (g 25), .ref (g 26), .int fa_1, .int pl_1]) := FR_at hF_36 (gs_13 hG) (show (13 : Nat) ∉ ([0, 1] : List Nat) by decide) fg_1
      have fb_38 : f_36 (g 22) = .inl (cR, 6, .inr (.inr (.inr (.inr c_2)))) := FR_at hF_36 (gs_22 hG) (show (22 : Nat) ∉ ([0, 1] : List Nat) by decide) fg_2
      have fb_39 : f_36 r_3 = .inr (5, [.int (nI jn), .int (nI (2 * jn)), .ref p_3, .int len_4]) := (hfx_36 r_3 (by rw [own_0 s_3]; exact hq_3) (by rw [s_3]; exact (show (0 : Nat) ∉ ([] : List Nat) by decide))).trans fg_4
      have fb_40 : f_36 p_3 = .inl (cI, n_3, .inl c_5) := (hfx_36 p_3 (by rw [own_1 sp_4]; exact hq_3) (by rw [sp_4]; exact (show (1 : Nat) ∉ ([] : List Nat) by decide))).trans fg_5
      have fb_41 : f_36 r_8 = .inr (5, [.int (nI jn), .int (nI (2 * jn)), .ref p_8, .int len_9]) := (hfx_36 r_8 (by rw [own_0 s_8]; exact hq_8) (by rw [s_8]; exact (show (0 : Nat) ∉ ([] : List Nat) by decide))).trans fg_9
      have fb_42 : f_36 p_8 = .inl (cI, n_8, .inl c_10) := (hfx_36 p_8 (by rw [own_1 sp_9]; exact hq_8) (by rw [sp_9]; exact (show (1 : Nat) ∉ ([] : List Nat) by decide))).trans fg_10
      have ha9 : a8 = 7 := by have h9 := cK_f hka.1; have h8 := hka.2; omega
      rw [hl_11] at hp_36
      refine lv_istore (lv' := [(5, .int r_36), (4, .ref r_8), (3, .ref r_3), (0, .ref (g 13)), (1, .int x), (2, .int y)]) hx hb dX4_joinGroup_81 hl (by decide) rfl (fun ls hl => ?_)
      refine lv_goto (tgt := 140) hx hb dX4_joinGroup_83 (by decide) ?_
      refine lv_iload hx hb dX4_joinGroup_140 (lv_at hl 0 rfl) ?_
      refine a_if_eq (u := r_36.toInt) (tgt := 164) hx hb dX4_joinGroup_142 (by decide) (rfl) (fun c_43 => ?_) (fun c_43 => ?_)
      · refine lv_aload_n hx hb dX4_joinGroup_164 rfl (lv_at hl 3 rfl) ?_
        refine lv_iconst (v := 5) hx hb dX4_joinGroup_165 (by decide) ?_
        have hz_44 : (5 : Int32).toInt = 5 := by decide
        refine call_p (va_runV (As := [.int 5]) (rest := []) ⟨hx, hb, hml, hown, hts⟩ (t_X4_failBehind l D cI cR cM _   hj hG hI  ) (cwV 1 hts gX4_joinGroup_X4_failBehind rfl rfl rfl (by decide +kernel) ⟨Nat.le_of_ble_eq_true rfl, Nat.le_of_ble_eq_true rfl⟩) (pre_T hK hP hD (gm_13 hG) fb_37 rfl) rfl rfl hl.1 rfl (lv_room (Nat.le_of_ble_eq_true rfl)) dX4_joinGroup_166 ⟨Nat.le_of_ble_eq_true rfl, Nat.le_of_ble_eq_true rfl⟩) hD hS hA (fun u_45 H locs hw hP hD hS => ?_)
        obtain ⟨r_45, f_45⟩ := u_45
        obtain ⟨hI, hF_45, h0_45, h01_45⟩ : IN jn cI cR cM g L S f_45 ∧ FR S [13] f_36 f_45 ∧ (r_45.toInt = 0) ∧ (r_45.toInt = 0 ∨ r_45.toInt = 1) := hw
        have hP : va_P D vwCl (va_pl L f_45) H := hP
        have hD : va_D A (va_pl L f_45) := hD
        have hF := FR_tr hF hF_45 (by decide)
        have hFX := FX_trR hFX hF_45 (by decide) (by decide)
        have fb_46 : f_45 (g 22) = .inl (cR, 6, .inr (.inr (.inr (.inr c_2)))) := FR_at hF_45 (gs_22 hG) (show (22 : Nat) ∉ ([13] : List Nat) by decide) fb_38
        have fb_47 : f_45 r_3 = .inr (5, [.int (nI jn), .int (nI (2 * jn)), .ref p_3, .int len_4]) := FR_at hF_45 s_3 (show (0 : Nat) ∉ ([13] : List Nat) by decide) fb_39
        have fb_48 : f_45 p_3 = .inl (cI, n_3, .inl c_5) := FR_at hF_45 sp_4 (show (1 : Nat) ∉ ([13] : List Nat) by decide) fb_40
        have fb_49 : f_45 r_8 = .inr (5, [.int (nI jn), .int (nI (2 * jn)), .ref p_8, .int len_9]) := FR_at hF_45 s_8 (show (0 : Nat) ∉ ([13] : List Nat) by decide) fb_41
        have fb_50 : f_45 p_8 = .inl (cI, n_8, .inl c_10) := FR_at hF_45 sp_9 (show (1 : Nat) ∉ ([13] : List Nat) by decide) fb_42
        exact g_zret (r_45, f_45) hx hb hr hlocks hS (b01 (by subst hj1; omega)) rfl (⟨hI, hF, show (r_45.toInt = 1 ∧ n0 + m0 ≤ 24 ∧ ∃ v9 : Int → Int, ChI a8 d wi m0 v9 ∧ RWf cI jn S f_45 (lv y.toInt.toNat) (n0 + m0) (fun j => if j < 2 * n0 then wr j else v9 (j - 2 * n0))) ∨ (r_45.toInt = 0 ∧ (24 < n0 + m0 ∨ ChIF a8 wi m0)) from (Or.inr ⟨h0_45, Or.inr (Or.inl ⟨ha9, (hp_36.resolve_left (fun q9 => by have := q9.1; omega)).2⟩)⟩), show FX S (fun a9 => a9 = lv y.toInt.toNat ∨ a9 = g 25) [13] f f_45 from (by first | assumption | omega | (subst hj1; omega)), show r_45.toInt = 0 ∨ r_45.toInt = 1 from (by first | assumption | omega | (subst hj1; omega))⟩) hP hD hQ (Nat.le_of_ble_eq_true rfl) (Nat.le_of_ble_eq_true rfl) dX4_joinGroup_169
      · obtain ⟨-, s_36, hs_36, hX_36⟩ := hp_36.resolve_right (fun q9 => by have := q9.1; omega)
        have hch_36 : ChI a8 d wi m0 s_36 := Or.inr (Or.inr (Or.inl ⟨ha9, hs_36⟩))
        refine lv_aload_n hx hb dX4_joinGroup_145 rfl (lv_at hl 2 rfl) ?_
        refine lv_aload_n hx hb dX4_joinGroup_146 rfl (lv_at hl 3 rfl) ?_
        refine t_get (D := D) (L := L) (f := f_36) (ci := 4) (v := .ref (g 25)) (C := RX4) (T := TX4) (N := 11) hx hb hts (by decide +kernel) hown hK.1 hP (gm_13 hG) fb_37 rfl 7 (by decide) (hts (.fieldLink RX4 56 "JugglingHall$Reader" "changed" "LJugglingHall$Row;") (by decide +kernel)) (fun _ h9 => h9) rfl dX4_joinGroup_147 ?_
        refine lv_iconst (v := 0) hx hb dX4_joinGroup_150 (by decide) ?_
        refine lv_aload_n hx hb dX4_joinGroup_151 rfl (lv_at hl 3 rfl) ?_
        refine t_get (D := D) (L := L) (f := f_36) (ci := 4) (v := .ref (g 25)) (C := RX4) (T := TX4) (N := 11) hx hb hts (by decide +kernel) hown hK.1 hP (gm_13 hG) fb_37 rfl 7 (by decide) (hts (.fieldLink RX4 56 "JugglingHall$Reader" "changed" "LJugglingHall$Row;") (by decide +kernel)) (fun _ h9 => h9) rfl dX4_joinGroup_152 ?_
        obtain ⟨len_51, fg_51, v1_51, v2_51, v3_51, mp_51, sp_51⟩ := op_0 hI m_33 s_33
        obtain ⟨w1_51, w2_51, w3_51, w4_51, w5_51⟩ := lenw hj v1_51 v2_51 v3_51
        refine t_getN (D := D) (L := L) (f := f_36) (ci := 5) (v := .int len_51) (C := RX5) (T := TX5) (N := 4) (host := "JugglingHall") hx hb hts (by decide +kernel) hown hK.1 hP m_33 fg_51 rfl 3 (by decide) (hK.nw (.fieldLinkNest RX4 62 "JugglingHall$Row" "length" "I" "JugglingHall") (by decide +kernel) rfl) (fun _ h9 => h9) rfl dX4_joinGroup_155 ?_
        obtain ⟨c_52, fg_52, iv0_52⟩ := op_1 hI mp_34 sp_34
        obtain ⟨hl_53, hc_53⟩ := RWf_at hX_36 s_33 fg_51 fg_52
        have hz_54 : (0 : Int32).toInt = 0 := by decide
        refine call_p (va_runV (As := [.ref (g 25), .int 0, .int len_51]) (rest := []) ⟨hx, hb, hml, hown, hts⟩ (t_X5_appendm l D cI cR cM _ (w := wr) (v := s_36)  hj hG hI m_3 s_3 fb_39 fb_40 m_33 s_33 fg_51 fg_52 (by first | assumption | omega | (subst hj1; omega)) (by rw [show (0 : Int32).toInt = 0 from rfl]; omega) (by rw [hl_6]; exact hc_6) (by rw [hl_53]; exact hc_53)) (cwV 3 hts gX4_joinGroup_X5_append rfl rfl rfl (by decide +kernel) ⟨Nat.le_of_ble_eq_true rfl, Nat.le_of_ble_eq_true rfl⟩) (pre_T hK hP hD m_3 fb_39 rfl) rfl rfl hl.1 rfl (lv_room (Nat.le_of_ble_eq_true rfl)) dX4_joinGroup_158 ⟨Nat.le_of_ble_eq_true rfl, Nat.le_of_ble_eq_true rfl⟩) hD hS hA (fun u_55 H locs hw hP hD hS => ?_)
        obtain ⟨r_55, f_55⟩ := u_55
        obtain ⟨hI, hF_55, hp_55, hfx_55, h01_55⟩ : IN jn cI cR cM g L S f_55 ∧ FR S [0, 1] f_36 f_55 ∧ ((r_55.toInt = 1 ∧ 2 * (len_4.toInt + (len_51.toInt - (0 : Int32).toInt)) ≤ (n_3 : Int) ∧ RWf cI jn S f_55 r_3 (len_4.toInt + (len_51.toInt - (0 : Int32).toInt)) (fun j => if j < 2 * len_4.toInt then wr j else s_36 (2 * (0 : Int32).toInt + (j - 2 * len_4.toInt)))) ∨ (r_55.toInt = 0 ∧ (n_3 : Int) < 2 * (len_4.toInt + (len_51.toInt - (0 : Int32).toInt)))) ∧ (FX S (fun a9 => a9 = r_3) [] f_36 f_55) ∧ (r_55.toInt = 0 ∨ r_55.toInt = 1) := hw
        have hP : va_P D vwCl (va_pl L f_55) H := hP
        have hD : va_D A (va_pl L f_55) := hD
        have hF := FR_tr hF hF_55 (by decide)
        have hFX := FX_tr hFX hfx_55 (fun a9 h9 => Or.inl (h9.trans hh_3)) (by decide)
        have fb_56 : f_55 (g 13) = .inr (4, [.int (nI jn), .ref (g 14), .ref (g 12), .ref (g 22), .ref (g 34), .ref (g 23), .ref (g 24), .ref (g 25), .ref (g 26), .int fa_1, .int pl_1]) := FR_at hF_55 (gs_13 hG) (show (13 : Nat) ∉ ([0, 1] : List Nat) by decide) fb_37
        have fb_57 : f_55 (g 22) = .inl (cR, 6, .inr (.inr (.inr (.inr c_2)))) := FR_at hF_55 (gs_22 hG) (show (22 : Nat) ∉ ([0, 1] : List Nat) by decide) fb_38
        refine lv_goto (tgt := 169) hx hb dX4_joinGroup_161 (by decide) ?_
        exact g_zret (r_55, f_55) hx hb hr hlocks hS (b01 (by subst hj1; omega)) rfl (⟨hI, hF, show (r_55.toInt = 1 ∧ n0 + m0 ≤ 24 ∧ ∃ v9 : Int → Int, ChI a8 d wi m0 v9 ∧ RWf cI jn S f_55 (lv y.toInt.toNat) (n0 + m0) (fun j => if j < 2 * n0 then wr j else v9 (j - 2 * n0))) ∨ (r_55.toInt = 0 ∧ (24 < n0 + m0 ∨ ChIF a8 wi m0)) from (by
          rcases hp_55 with ⟨h5, h6, h7⟩ | ⟨h5, h6⟩
          · rw [hl_6, hl_53, show n0 + (m0 - (0 : Int32).toInt) = n0 + m0 by rw [show (0 : Int32).toInt = 0 from rfl]; omega] at h7
            refine Or.inl ⟨h5, by omega, s_36, hch_36, RWf_e (RWf_c h7 (fun i9 j0 j1 => by exact ap_1 (w := wr) (v := s_36) (n := n0) (i := i9) (z := (0 : Int32).toInt) rfl)) hh_3.symm⟩
          · exfalso
            rw [hl_6, hl_53, show (0 : Int32).toInt = 0 from rfl] at h6
            omega), show FX S (fun a9 => a9 = lv y.toInt.toNat ∨ a9 = g 25) [13] f f_55 from (by first | assumption | omega | (subst hj1; omega)), show r_55.toInt = 0 ∨ r_55.toInt = 1 from (by first | assumption | omega | (subst hj1; omega))⟩) hP hD hQ (Nat.le_of_ble_eq_true rfl) (Nat.le_of_ble_eq_true rfl) dX4_joinGroup_169
    · refine lv_tableIn (off := 44) (tgt := 86) hx hb dX4_joinGroup_42 (by subst hj1; omega) (by subst hj1; omega) (by rw [show (x.toInt - 6).toNat = 1 by omega]; rfl) (by decide) ?_
      refine lv_aload_n hx hb dX4_joinGroup_86 rfl (lv_at hl 3 rfl) ?_
      refine t_get (D := D) (L := L) (f := f) (ci := 4) (v := .ref (g 25)) (C := RX4) (T := TX4) (N := 11) hx hb hts (by decide +kernel) hown hK.1 hP (gm_13 hG) fg_1 rfl 7 (by decide) (hts (.fieldLink RX4 56 "JugglingHall$Reader" "changed" "LJugglingHall$Row;") (by decide +kernel)) (fun _ h9 => h9) rfl dX4_joinGroup_87 ?_
      refine lv_aload hx hb dX4_joinGroup_90 (lv_at hl 1 rfl) ?_
      obtain ⟨p_58, n_58, m_58, s_58⟩ := hG.2.2.1
      obtain ⟨len_59, fg_59, v1_59, v2_59, v3_59, mp_59, sp_59⟩ := op_0 hI m_58 s_58
      obtain ⟨w1_59, w2_59, w3_59, w4_59, w5_59⟩ := lenw hj v1_59 v2_59 v3_59
      obtain ⟨c_60, fg_60, iv0_60⟩ := op_1 hI mp_59 sp_59
      have hN25 := cap_of (S := S) (a := g 25) (k := 48) hRD.1.2.1 s_58
      refine call_p (va_runV (As := [.ref r_8]) (rest := []) ⟨hx, hb, hml, hown, hts⟩ (t_X5_takeOverm l D cI cR cM _ (v := wi)  hj hG hI m_58 s_58 fg_59 fg_60 m_8 s_8 fg_9 fg_10 (by first | assumption | omega | (subst hj1; omega)) (hq_8) (by rw [hl_11]; exact hc_11) (by subst hj1; omega) (by rw [hl_11]; exact hsr)) (cwV 1 hts gX4_joinGroup_X5_takeOver rfl rfl rfl (by decide +kernel) ⟨Nat.le_of_ble_eq_true rfl, Nat.le_of_ble_eq_true rfl⟩) (pre_T hK hP hD m_58 fg_59 rfl) rfl rfl hl.1 rfl (lv_room (Nat.le_of_ble_eq_true rfl)) dX4_joinGroup_92 ⟨Nat.le_of_ble_eq_true rfl, Nat.le_of_ble_eq_true rfl⟩) hD hS hA (fun u_61 H locs hw hP hD hS => ?_)
      obtain ⟨f_61, e0_61⟩ : ∃ x, x = u_61 := ⟨_, rfl⟩
      subst e0_61
      obtain ⟨hI, hF_61, hp_61, hfx_61⟩ : IN jn cI cR cM g L S f_61 ∧ FR S [0, 1] f f_61 ∧ (RWf cI jn S f_61 (g 25) len_9.toInt wi) ∧ (FX S (fun a9 => a9 = (g 25)) [] f f_61) := hw
      have hP : va_P D vwCl (va_pl L f_61) H := hP
      have hD : va_D A (va_pl L f_61) := hD
      have hF := FR_tr hF hF_61 (by decide)
      have hFX := FX_tr hFX hfx_61 (fun a9 h9 => Or.inr h9) (by decide)
      have fb_62 : f_61 (g 13) = .inr (4, [.int (nI jn), .ref (g 14), .ref (g 12), .ref (g 22), .ref (g 34), .ref (g 23), .ref (g 24), .ref (g 25), .ref (g 26), .int fa_1, .int pl_1]) := FR_at hF_61 (gs_13 hG) (show (13 : Nat) ∉ ([0, 1] : List Nat) by decide) fg_1
      have fb_63 : f_61 (g 22) = .inl (cR, 6, .inr (.inr (.inr (.inr c_2)))) := FR_at hF_61 (gs_22 hG) (show (22 : Nat) ∉ ([0, 1] : List Nat) by decide) fg_2
      have fb_64 : f_61 r_3 = .inr (5, [.int (nI jn), .int (nI (2 * jn)), .ref p_3, .int len_4]) := (hfx_61 r_3 (by rw [own_0 s_3]; exact hq_3) (by rw [s_3]; exact (show (0 : Nat) ∉ ([] : List Nat) by decide))).trans fg_4
      have fb_65 : f_61 p_3 = .inl (cI, n_3, .inl c_5) := (hfx_61 p_3 (by rw [own_1 sp_4]; exact hq_3) (by rw [sp_4]; exact (show (1 : Nat) ∉ ([] : List Nat) by decide))).trans fg_5
      have fb_66 : f_61 r_8 = .inr (5, [.int (nI jn), .int (nI (2 * jn)), .ref p_8, .int len_9]) := (hfx_61 r_8 (by rw [own_0 s_8]; exact hq_8) (by rw [s_8]; exact (show (0 : Nat) ∉ ([] : List Nat) by decide))).trans fg_9
      have fb_67 : f_61 p_8 = .inl (cI, n_8, .inl c_10) := (hfx_61 p_8 (by rw [own_1 sp_9]; exact hq_8) (by rw [sp_9]; exact (show (1 : Nat) ∉ ([] : List Nat) by decide))).trans fg_10
      have ha9 : a8 = 8 := by have h9 := cK_f hka.1; have h8 := hka.2; omega
      have hX_61 : RWf cI jn S f_61 (g 25) m0 wi := by have h9 := hp_61; rw [hl_11] at h9; exact h9
      have hch_61 : ChI a8 d wi m0 wi := Or.inr (Or.inl ⟨ha9, rfl⟩)
      refine lv_goto (tgt := 140) hx hb dX4_joinGroup_95 (by decide) ?_
      refine lv_iload hx hb dX4_joinGroup_140 (lv_at hl 0 rfl) ?_
      refine a_if_eq (u := 1) (tgt := 164) hx hb dX4_joinGroup_142 (by decide) (by decide) (fun c_68 => absurd c_68 (by subst hj1; omega)) (fun c_68 => ?_)
      refine lv_aload_n hx hb dX4_joinGroup_145 rfl (lv_at hl 2 rfl) ?_
      refine lv_aload_n hx hb dX4_joinGroup_146 rfl (lv_at hl 3 rfl) ?_
      refine t_get (D := D) (L := L) (f := f_61) (ci := 4) (v := .ref (g 25)) (C := RX4) (T := TX4) (N := 11) hx hb hts (by decide +kernel) hown hK.1 hP (gm_13 hG) fb_62 rfl 7 (by decide) (hts (.fieldLink RX4 56 "JugglingHall$Reader" "changed" "LJugglingHall$Row;") (by decide +kernel)) (fun _ h9 => h9) rfl dX4_joinGroup_147 ?_
      refine lv_iconst (v := 0) hx hb dX4_joinGroup_150 (by decide) ?_
      refine lv_aload_n hx hb dX4_joinGroup_151 rfl (lv_at hl 3 rfl) ?_
      refine t_get (D := D) (L := L) (f := f_61) (ci := 4) (v := .ref (g 25)) (C := RX4) (T := TX4) (N := 11) hx hb hts (by decide +kernel) hown hK.1 hP (gm_13 hG) fb_62 rfl 7 (by decide) (hts (.fieldLink RX4 56 "JugglingHall$Reader" "changed" "LJugglingHall$Row;") (by decide +kernel)) (fun _ h9 => h9) rfl dX4_joinGroup_152 ?_
      obtain ⟨len_69, fg_69, v1_69, v2_69, v3_69, mp_69, sp_69⟩ := op_0 hI m_58 s_58
      obtain ⟨w1_69, w2_69, w3_69, w4_69, w5_69⟩ := lenw hj v1_69 v2_69 v3_69
      refine t_getN (D := D) (L := L) (f := f_61) (ci := 5) (v := .int len_69) (C := RX5) (T := TX5) (N := 4) (host := "JugglingHall") hx hb hts (by decide +kernel) hown hK.1 hP m_58 fg_69 rfl 3 (by decide) (hK.nw (.fieldLinkNest RX4 62 "JugglingHall$Row" "length" "I" "JugglingHall") (by decide +kernel) rfl) (fun _ h9 => h9) rfl dX4_joinGroup_155 ?_
      obtain ⟨c_70, fg_70, iv0_70⟩ := op_1 hI mp_59 sp_59
      obtain ⟨hl_71, hc_71⟩ := RWf_at hX_61 s_58 fg_69 fg_70
      have hz_72 : (0 : Int32).toInt = 0 := by decide
      refine call_p (va_runV (As := [.ref (g 25), .int 0, .int len_69]) (rest := []) ⟨hx, hb, hml, hown, hts⟩ (t_X5_appendm l D cI cR cM _ (w := wr) (v := wi)  hj hG hI m_3 s_3 fb_64 fb_65 m_58 s_58 fg_69 fg_70 (by first | assumption | omega | (subst hj1; omega)) (by rw [show (0 : Int32).toInt = 0 from rfl]; omega) (by rw [hl_6]; exact hc_6) (by rw [hl_71]; exact hc_71)) (cwV 3 hts gX4_joinGroup_X5_append rfl rfl rfl (by decide +kernel) ⟨Nat.le_of_ble_eq_true rfl, Nat.le_of_ble_eq_true rfl⟩) (pre_T hK hP hD m_3 fb_64 rfl) rfl rfl hl.1 rfl (lv_room (Nat.le_of_ble_eq_true rfl)) dX4_joinGroup_158 ⟨Nat.le_of_ble_eq_true rfl, Nat.le_of_ble_eq_true rfl⟩) hD hS hA (fun u_73 H locs hw hP hD hS => ?_)
      obtain ⟨r_73, f_73⟩ := u_73
      obtain ⟨hI, hF_73, hp_73, hfx_73, h01_73⟩ : IN jn cI cR cM g L S f_73 ∧ FR S [0, 1] f_61 f_73 ∧ ((r_73.toInt = 1 ∧ 2 * (len_4.toInt + (len_69.toInt - (0 : Int32).toInt)) ≤ (n_3 : Int) ∧ RWf cI jn S f_73 r_3 (len_4.toInt + (len_69.toInt - (0 : Int32).toInt)) (fun j => if j < 2 * len_4.toInt then wr j else wi (2 * (0 : Int32).toInt + (j - 2 * len_4.toInt)))) ∨ (r_73.toInt = 0 ∧ (n_3 : Int) < 2 * (len_4.toInt + (len_69.toInt - (0 : Int32).toInt)))) ∧ (FX S (fun a9 => a9 = r_3) [] f_61 f_73) ∧ (r_73.toInt = 0 ∨ r_73.toInt = 1) := hw
      have hP : va_P D vwCl (va_pl L f_73) H := hP
      have hD : va_D A (va_pl L f_73) := hD
      have hF := FR_tr hF hF_73 (by decide)
      have hFX := FX_tr hFX hfx_73 (fun a9 h9 => Or.inl (h9.trans hh_3)) (by decide)
      have fb_74 : f_73 (g 13) = .inr (4, [.int (nI jn), .ref (g 14), .ref (g 12), .ref (g 22), .ref (g 34), .ref (g 23), .ref (g 24), .ref (g 25), .ref (g 26), .int fa_1, .int pl_1]) := FR_at hF_73 (gs_13 hG) (show (13 : Nat) ∉ ([0, 1] : List Nat) by decide) fb_62
      have fb_75 : f_73 (g 22) = .inl (cR, 6, .inr (.inr (.inr (.inr c_2)))) := FR_at hF_73 (gs_22 hG) (show (22 : Nat) ∉ ([0, 1] : List Nat) by decide) fb_63
      refine lv_goto (tgt := 169) hx hb dX4_joinGroup_161 (by decide) ?_
      exact g_zret (r_73, f_73) hx hb hr hlocks hS (b01 (by subst hj1; omega)) rfl (⟨hI, hF, show (r_73.toInt = 1 ∧ n0 + m0 ≤ 24 ∧ ∃ v9 : Int → Int, ChI a8 d wi m0 v9 ∧ RWf cI jn S f_73 (lv y.toInt.toNat) (n0 + m0) (fun j => if j < 2 * n0 then wr j else v9 (j - 2 * n0))) ∨ (r_73.toInt = 0 ∧ (24 < n0 + m0 ∨ ChIF a8 wi m0)) from (by
        rcases hp_73 with ⟨h5, h6, h7⟩ | ⟨h5, h6⟩
        · rw [hl_6, hl_71, show n0 + (m0 - (0 : Int32).toInt) = n0 + m0 by rw [show (0 : Int32).toInt = 0 from rfl]; omega] at h7
          refine Or.inl ⟨h5, by omega, wi, hch_61, RWf_e (RWf_c h7 (fun i9 j0 j1 => by exact ap_1 (w := wr) (v := wi) (n := n0) (i := i9) (z := (0 : Int32).toInt) rfl)) hh_3.symm⟩
        · exfalso
          rw [hl_6, hl_71, show (0 : Int32).toInt = 0 from rfl] at h6
          omega), show FX S (fun a9 => a9 = lv y.toInt.toNat ∨ a9 = g 25) [13] f f_73 from (by first | assumption | omega | (subst hj1; omega)), show r_73.toInt = 0 ∨ r_73.toInt = 1 from (by first | assumption | omega | (subst hj1; omega))⟩) hP hD hQ (Nat.le_of_ble_eq_true rfl) (Nat.le_of_ble_eq_true rfl) dX4_joinGroup_169
    · refine lv_tableIn (off := 56) (tgt := 98) hx hb dX4_joinGroup_42 (by subst hj1; omega) (by subst hj1; omega) (by rw [show (x.toInt - 6).toNat = 2 by omega]; rfl) (by decide) ?_
      refine lv_aload_n hx hb dX4_joinGroup_98 rfl (lv_at hl 3 rfl) ?_
      refine t_get (D := D) (L := L) (f := f) (ci := 4) (v := .ref (g 25)) (C := RX4) (T := TX4) (N := 11) hx hb hts (by decide +kernel) hown hK.1 hP (gm_13 hG) fg_1 rfl 7 (by decide) (hts (.fieldLink RX4 56 "JugglingHall$Reader" "changed" "LJugglingHall$Row;") (by decide +kernel)) (fun _ h9 => h9) rfl dX4_joinGroup_99 ?_
      refine lv_aload hx hb dX4_joinGroup_102 (lv_at hl 1 rfl) ?_
      obtain ⟨p_76, n_76, m_76, s_76⟩ := hG.2.2.1
      obtain ⟨len_77, fg_77, v1_77, v2_77, v3_77, mp_77, sp_77⟩ := op_0 hI m_76 s_76
      obtain ⟨w1_77, w2_77, w3_77, w4_77, w5_77⟩ := lenw hj v1_77 v2_77 v3_77
      obtain ⟨c_78, fg_78, iv0_78⟩ := op_1 hI mp_77 sp_77
      have hN25 := cap_of (S := S) (a := g 25) (k := 48) hRD.1.2.1 s_76
      refine call_p (va_runV (As := [.ref r_8]) (rest := []) ⟨hx, hb, hml, hown, hts⟩ (t_X5_takeDualm l D cI cR cM _ (v := wi)  hj hG hI m_76 s_76 fg_77 fg_78 m_8 s_8 fg_9 fg_10 (by first | assumption | omega | (subst hj1; omega)) (hq_8) (by rw [hl_11]; exact hc_11) (by subst hj1; omega) (by subst hj1; omega)) (cwV 1 hts gX4_joinGroup_X5_takeDual rfl rfl rfl (by decide +kernel) ⟨Nat.le_of_ble_eq_true rfl, Nat.le_of_ble_eq_true rfl⟩) (pre_T hK hP hD m_76 fg_77 rfl) rfl rfl hl.1 rfl (lv_room (Nat.le_of_ble_eq_true rfl)) dX4_joinGroup_104 ⟨Nat.le_of_ble_eq_true rfl, Nat.le_of_ble_eq_true rfl⟩) hD hS hA (fun u_79 H locs hw hP hD hS => ?_)
      obtain ⟨r_79, f_79⟩ := u_79
      obtain ⟨hI, hF_79, hp_79, hfx_79, h01_79⟩ : IN jn cI cR cM g L S f_79 ∧ FR S [0, 1] f f_79 ∧ ((r_79.toInt = 1 ∧ plW wi 0 len_9.toInt ∧ RWf cI jn S f_79 (g 25) len_9.toInt (fun j => if j % 2 = 1 then 0 else 9 - wi (2 * ((-(j / 2)) % len_9.toInt)))) ∨ (r_79.toInt = 0 ∧ ¬ plW wi 0 len_9.toInt)) ∧ (FX S (fun a9 => a9 = (g 25)) [] f f_79) ∧ (r_79.toInt = 0 ∨ r_79.toInt = 1) := hw
      have hP : va_P D vwCl (va_pl L f_79) H := hP
      have hD : va_D A (va_pl L f_79) := hD
      have hF := FR_tr hF hF_79 (by decide)
      have hFX := FX_tr hFX hfx_79 (fun a9 h9 => Or.inr h9) (by decide)
      have fb_80 : f_79 (g 13) = .inr (4, [.int (nI jn), .ref (g 14), .ref (g 12), .ref (g 22), .ref (g 34), .ref (g 23), .ref (g 24), .ref (g 25), .ref (g 26), .int fa_1, .int pl_1]) := FR_at hF_79 (gs_13 hG) (show (13 : Nat) ∉ ([0, 1] : List Nat) by decide) fg_1
      have fb_81 : f_79 (g 22) = .inl (cR, 6, .inr (.inr (.inr (.inr c_2)))) := FR_at hF_79 (gs_22 hG) (show (22 : Nat) ∉ ([0, 1] : List Nat) by decide) fg_2
      have fb_82 : f_79 r_3 = .inr (5, [.int (nI jn), .int (nI (2 * jn)), .ref p_3, .int len_4]) := (hfx_79 r_3 (by rw [own_0 s_3]; exact hq_3) (by rw [s_3]; exact (show (0 : Nat) ∉ ([] : List Nat) by decide))).trans fg_4
      have fb_83 : f_79 p_3 = .inl (cI, n_3, .inl c_5) := (hfx_79 p_3 (by rw [own_1 sp_4]; exact hq_3) (by rw [sp_4]; exact (show (1 : Nat) ∉ ([] : List Nat) by decide))).trans fg_5
      have fb_84 : f_79 r_8 = .inr (5, [.int (nI jn), .int (nI (2 * jn)), .ref p_8, .int len_9]) := (hfx_79 r_8 (by rw [own_0 s_8]; exact hq_8) (by rw [s_8]; exact (show (0 : Nat) ∉ ([] : List Nat) by decide))).trans fg_9
      have fb_85 : f_79 p_8 = .inl (cI, n_8, .inl c_10) := (hfx_79 p_8 (by rw [own_1 sp_9]; exact hq_8) (by rw [sp_9]; exact (show (1 : Nat) ∉ ([] : List Nat) by decide))).trans fg_10
      have ha9 : a8 = 9 := by have h9 := cK_f hka.1; have h8 := hka.2; omega
      rw [hl_11] at hp_79
      refine lv_istore (lv' := [(5, .int r_79), (4, .ref r_8), (3, .ref r_3), (0, .ref (g 13)), (1, .int x), (2, .int y)]) hx hb dX4_joinGroup_107 hl (by decide) rfl (fun ls hl => ?_)
      refine lv_goto (tgt := 140) hx hb dX4_joinGroup_109 (by decide) ?_
      refine lv_iload hx hb dX4_joinGroup_140 (lv_at hl 0 rfl) ?_
      refine a_if_eq (u := r_79.toInt) (tgt := 164) hx hb dX4_joinGroup_142 (by decide) (rfl) (fun c_86 => ?_) (fun c_86 => ?_)
      · refine lv_aload_n hx hb dX4_joinGroup_164 rfl (lv_at hl 3 rfl) ?_
        refine lv_iconst (v := 5) hx hb dX4_joinGroup_165 (by decide) ?_
        have hz_87 : (5 : Int32).toInt = 5 := by decide
        refine call_p (va_runV (As := [.int 5]) (rest := []) ⟨hx, hb, hml, hown, hts⟩ (t_X4_failBehind l D cI cR cM _   hj hG hI  ) (cwV 1 hts gX4_joinGroup_X4_failBehind rfl rfl rfl (by decide +kernel) ⟨Nat.le_of_ble_eq_true rfl, Nat.le_of_ble_eq_true rfl⟩) (pre_T hK hP hD (gm_13 hG) fb_80 rfl) rfl rfl hl.1 rfl (lv_room (Nat.le_of_ble_eq_true rfl)) dX4_joinGroup_166 ⟨Nat.le_of_ble_eq_true rfl, Nat.le_of_ble_eq_true rfl⟩) hD hS hA (fun u_88 H locs hw hP hD hS => ?_)
        obtain ⟨r_88, f_88⟩ := u_88
        obtain ⟨hI, hF_88, h0_88, h01_88⟩ : IN jn cI cR cM g L S f_88 ∧ FR S [13] f_79 f_88 ∧ (r_88.toInt = 0) ∧ (r_88.toInt = 0 ∨ r_88.toInt = 1) := hw
        have hP : va_P D vwCl (va_pl L f_88) H := hP
        have hD : va_D A (va_pl L f_88) := hD
        have hF := FR_tr hF hF_88 (by decide)
        have hFX := FX_trR hFX hF_88 (by decide) (by decide)
        have fb_89 : f_88 (g 22) = .inl (cR, 6, .inr (.inr (.inr (.inr c_2)))) := FR_at hF_88 (gs_22 hG) (show (22 : Nat) ∉ ([13] : List Nat) by decide) fb_81
        have fb_90 : f_88 r_3 = .inr (5, [.int (nI jn), .int (nI (2 * jn)), .ref p_3, .int len_4]) := FR_at hF_88 s_3 (show (0 : Nat) ∉ ([13] : List Nat) by decide) fb_82
        have fb_91 : f_88 p_3 = .inl (cI, n_3, .inl c_5) := FR_at hF_88 sp_4 (show (1 : Nat) ∉ ([13] : List Nat) by decide) fb_83
        have fb_92 : f_88 r_8 = .inr (5, [.int (nI jn), .int (nI (2 * jn)), .ref p_8, .int len_9]) := FR_at hF_88 s_8 (show (0 : Nat) ∉ ([13] : List Nat) by decide) fb_84
        have fb_93 : f_88 p_8 = .inl (cI, n_8, .inl c_10) := FR_at hF_88 sp_9 (show (1 : Nat) ∉ ([13] : List Nat) by decide) fb_85
        exact g_zret (r_88, f_88) hx hb hr hlocks hS (b01 (by subst hj1; omega)) rfl (⟨hI, hF, show (r_88.toInt = 1 ∧ n0 + m0 ≤ 24 ∧ ∃ v9 : Int → Int, ChI a8 d wi m0 v9 ∧ RWf cI jn S f_88 (lv y.toInt.toNat) (n0 + m0) (fun j => if j < 2 * n0 then wr j else v9 (j - 2 * n0))) ∨ (r_88.toInt = 0 ∧ (24 < n0 + m0 ∨ ChIF a8 wi m0)) from (Or.inr ⟨h0_88, Or.inr (Or.inr ⟨ha9, (hp_79.resolve_left (fun q9 => by have := q9.1; omega)).2⟩)⟩), show FX S (fun a9 => a9 = lv y.toInt.toNat ∨ a9 = g 25) [13] f f_88 from (by first | assumption | omega | (subst hj1; omega)), show r_88.toInt = 0 ∨ r_88.toInt = 1 from (by first | assumption | omega | (subst hj1; omega))⟩) hP hD hQ (Nat.le_of_ble_eq_true rfl) (Nat.le_of_ble_eq_true rfl) dX4_joinGroup_169
      · obtain ⟨-, hs_79, hX_79⟩ := hp_79.resolve_right (fun q9 => by have := q9.1; omega)
        have hch_79 : ChI a8 d wi m0 (fun j => if j % 2 = 1 then 0 else 9 - wi (2 * ((-(j / 2)) % m0))) := Or.inr (Or.inr (Or.inr (Or.inl ⟨ha9, hs_79, rfl⟩)))
        refine lv_aload_n hx hb dX4_joinGroup_145 rfl (lv_at hl 2 rfl) ?_
        refine lv_aload_n hx hb dX4_joinGroup_146 rfl (lv_at hl 3 rfl) ?_
        refine t_get (D := D) (L := L) (f := f_79) (ci := 4) (v := .ref (g 25)) (C := RX4) (T := TX4) (N := 11) hx hb hts (by decide +kernel) hown hK.1 hP (gm_13 hG) fb_80 rfl 7 (by decide) (hts (.fieldLink RX4 56 "JugglingHall$Reader" "changed" "LJugglingHall$Row;") (by decide +kernel)) (fun _ h9 => h9) rfl dX4_joinGroup_147 ?_
        refine lv_iconst (v := 0) hx hb dX4_joinGroup_150 (by decide) ?_
        refine lv_aload_n hx hb dX4_joinGroup_151 rfl (lv_at hl 3 rfl) ?_
        refine t_get (D := D) (L := L) (f := f_79) (ci := 4) (v := .ref (g 25)) (C := RX4) (T := TX4) (N := 11) hx hb hts (by decide +kernel) hown hK.1 hP (gm_13 hG) fb_80 rfl 7 (by decide) (hts (.fieldLink RX4 56 "JugglingHall$Reader" "changed" "LJugglingHall$Row;") (by decide +kernel)) (fun _ h9 => h9) rfl dX4_joinGroup_152 ?_
        obtain ⟨len_94, fg_94, v1_94, v2_94, v3_94, mp_94, sp_94⟩ := op_0 hI m_76 s_76
        obtain ⟨w1_94, w2_94, w3_94, w4_94, w5_94⟩ := lenw hj v1_94 v2_94 v3_94
        refine t_getN (D := D) (L := L) (f := f_79) (ci := 5) (v := .int len_94) (C := RX5) (T := TX5) (N := 4) (host := "JugglingHall") hx hb hts (by decide +kernel) hown hK.1 hP m_76 fg_94 rfl 3 (by decide) (hK.nw (.fieldLinkNest RX4 62 "JugglingHall$Row" "length" "I" "JugglingHall") (by decide +kernel) rfl) (fun _ h9 => h9) rfl dX4_joinGroup_155 ?_
        obtain ⟨c_95, fg_95, iv0_95⟩ := op_1 hI mp_77 sp_77
        obtain ⟨hl_96, hc_96⟩ := RWf_at hX_79 s_76 fg_94 fg_95
        have hz_97 : (0 : Int32).toInt = 0 := by decide
        refine call_p (va_runV (As := [.ref (g 25), .int 0, .int len_94]) (rest := []) ⟨hx, hb, hml, hown, hts⟩ (t_X5_appendm l D cI cR cM _ (w := wr) (v := (fun j => if j % 2 = 1 then 0 else 9 - wi (2 * ((-(j / 2)) % m0))))  hj hG hI m_3 s_3 fb_82 fb_83 m_76 s_76 fg_94 fg_95 (by first | assumption | omega | (subst hj1; omega)) (by rw [show (0 : Int32).toInt = 0 from rfl]; omega) (by rw [hl_6]; exact hc_6) (by rw [hl_96]; exact hc_96)) (cwV 3 hts gX4_joinGroup_X5_append rfl rfl rfl (by decide +kernel) ⟨Nat.le_of_ble_eq_true rfl, Nat.le_of_ble_eq_true rfl⟩) (pre_T hK hP hD m_3 fb_82 rfl) rfl rfl hl.1 rfl (lv_room (Nat.le_of_ble_eq_true rfl)) dX4_joinGroup_158 ⟨Nat.le_of_ble_eq_true rfl, Nat.le_of_ble_eq_true rfl⟩) hD hS hA (fun u_98 H locs hw hP hD hS => ?_)
        obtain ⟨r_98, f_98⟩ := u_98
        obtain ⟨hI, hF_98, hp_98, hfx_98, h01_98⟩ : IN jn cI cR cM g L S f_98 ∧ FR S [0, 1] f_79 f_98 ∧ ((r_98.toInt = 1 ∧ 2 * (len_4.toInt + (len_94.toInt - (0 : Int32).toInt)) ≤ (n_3 : Int) ∧ RWf cI jn S f_98 r_3 (len_4.toInt + (len_94.toInt - (0 : Int32).toInt)) (fun j => if j < 2 * len_4.toInt then wr j else (fun j => if j % 2 = 1 then 0 else 9 - wi (2 * ((-(j / 2)) % m0))) (2 * (0 : Int32).toInt + (j - 2 * len_4.toInt)))) ∨ (r_98.toInt = 0 ∧ (n_3 : Int) < 2 * (len_4.toInt + (len_94.toInt - (0 : Int32).toInt)))) ∧ (FX S (fun a9 => a9 = r_3) [] f_79 f_98) ∧ (r_98.toInt = 0 ∨ r_98.toInt = 1) := hw
        have hP : va_P D vwCl (va_pl L f_98) H := hP
        have hD : va_D A (va_pl L f_98) := hD
        have hF := FR_tr hF hF_98 (by decide)
        have hFX := FX_tr hFX hfx_98 (fun a9 h9 => Or.inl (h9.trans hh_3)) (by decide)
        have fb_99 : f_98 (g 13) = .inr (4, [.int (nI jn), .ref (g 14), .ref (g 12), .ref (g 22), .ref (g 34), .ref (g 23), .ref (g 24), .ref (g 25), .ref (g 26), .int fa_1, .int pl_1]) := FR_at hF_98 (gs_13 hG) (show (13 : Nat) ∉ ([0, 1] : List Nat) by decide) fb_80
        have fb_100 : f_98 (g 22) = .inl (cR, 6, .inr (.inr (.inr (.inr c_2)))) := FR_at hF_98 (gs_22 hG) (show (22 : Nat) ∉ ([0, 1] : List Nat) by decide) fb_81
        refine lv_goto (tgt := 169) hx hb dX4_joinGroup_161 (by decide) ?_
        exact g_zret (r_98, f_98) hx hb hr hlocks hS (b01 (by subst hj1; omega)) rfl (⟨hI, hF, show (r_98.toInt = 1 ∧ n0 + m0 ≤ 24 ∧ ∃ v9 : Int → Int, ChI a8 d wi m0 v9 ∧ RWf cI jn S f_98 (lv y.toInt.toNat) (n0 + m0) (fun j => if j < 2 * n0 then wr j else v9 (j - 2 * n0))) ∨ (r_98.toInt = 0 ∧ (24 < n0 + m0 ∨ ChIF a8 wi m0)) from (by
          rcases hp_98 with ⟨h5, h6, h7⟩ | ⟨h5, h6⟩
          · rw [hl_6, hl_96, show n0 + (m0 - (0 : Int32).toInt) = n0 + m0 by rw [show (0 : Int32).toInt = 0 from rfl]; omega] at h7
            refine Or.inl ⟨h5, by omega, (fun j => if j % 2 = 1 then 0 else 9 - wi (2 * ((-(j / 2)) % m0))), hch_79, RWf_e (RWf_c h7 (fun i9 j0 j1 => by exact ap_1 (w := wr) (v := (fun j => if j % 2 = 1 then 0 else 9 - wi (2 * ((-(j / 2)) % m0)))) (n := n0) (i := i9) (z := (0 : Int32).toInt) rfl)) hh_3.symm⟩
          · exfalso
            rw [hl_6, hl_96, show (0 : Int32).toInt = 0 from rfl] at h6
            omega), show FX S (fun a9 => a9 = lv y.toInt.toNat ∨ a9 = g 25) [13] f f_98 from (by first | assumption | omega | (subst hj1; omega)), show r_98.toInt = 0 ∨ r_98.toInt = 1 from (by first | assumption | omega | (subst hj1; omega))⟩) hP hD hQ (Nat.le_of_ble_eq_true rfl) (Nat.le_of_ble_eq_true rfl) dX4_joinGroup_169
    · refine lv_tableIn (off := 70) (tgt := 112) hx hb dX4_joinGroup_42 (by subst hj1; omega) (by subst hj1; omega) (by rw [show (x.toInt - 6).toNat = 3 by omega]; rfl) (by decide) ?_
      have ha9x : a8 = 10 := by have h9 := cK_f hka.1; have h8 := hka.2; omega
      refine lv_aload_n hx hb dX4_joinGroup_112 rfl (lv_at hl 3 rfl) ?_
      refine t_get (D := D) (L := L) (f := f) (ci := 4) (v := .ref (g 25)) (C := RX4) (T := TX4) (N := 11) hx hb hts (by decide +kernel) hown hK.1 hP (gm_13 hG) fg_1 rfl 7 (by decide) (hts (.fieldLink RX4 56 "JugglingHall$Reader" "changed" "LJugglingHall$Row;") (by decide +kernel)) (fun _ h9 => h9) rfl dX4_joinGroup_113 ?_
      refine lv_aload hx hb dX4_joinGroup_116 (lv_at hl 1 rfl) ?_
      obtain ⟨c_101, fg_101⟩ := op_34 hI (gm_34 hG) (gs_34 hG)
      refine lv_aload_n hx hb dX4_joinGroup_118 rfl (lv_at hl 3 rfl) ?_
      refine t_get (D := D) (L := L) (f := f) (ci := 4) (v := .ref (g 34)) (C := RX4) (T := TX4) (N := 11) hx hb hts (by decide +kernel) hown hK.1 hP (gm_13 hG) fg_1 rfl 4 (by decide) (hts (.fieldLink RX4 17 "JugglingHall$Reader" "turns" "[I") (by decide +kernel)) (fun _ h9 => h9) rfl dX4_joinGroup_119 ?_
      refine lv_iload_n hx hb dX4_joinGroup_122 rfl (lv_at hl 5 rfl) ?_
      refine t_iald (L := L) (f := f) (y := c_101) (u := y.toInt) hx hb hK.1 hP (gm_34 hG) 0 fg_101 rfl dX4_joinGroup_123 (rfl) (by subst hj1; omega) (fun z_102 q_102 e_102 => ?_)
      have htv : z_102.toInt = d := by
        obtain ⟨ct, t1, t2⟩ := hTN ha9x
        rw [fg_101] at t1
        cases t1
        rw [q_102, ← t2]
      obtain ⟨p_103, n_103, m_103, s_103⟩ := hG.2.2.1
      obtain ⟨len_104, fg_104, v1_104, v2_104, v3_104, mp_104, sp_104⟩ := op_0 hI m_103 s_103
      obtain ⟨w1_104, w2_104, w3_104, w4_104, w5_104⟩ := lenw hj v1_104 v2_104 v3_104
      obtain ⟨c_105, fg_105, iv0_105⟩ := op_1 hI mp_104 sp_104
      have hN25 := cap_of (S := S) (a := g 25) (k := 48) hRD.1.2.1 s_103
      refine call_p (va_runV (As := [.ref r_8, .int z_102]) (rest := []) ⟨hx, hb, hml, hown, hts⟩ (t_X5_takeTurnedm l D cI cR cM _ (v := wi)  hj hG hI m_103 s_103 fg_104 fg_105 m_8 s_8 fg_9 fg_10 (by first | assumption | omega | (subst hj1; omega)) (hq_8) (by rw [hl_11]; exact hc_11) (by subst hj1; omega) (by subst hj1; omega)) (cwV 2 hts gX4_joinGroup_X5_takeTurned rfl rfl rfl (by decide +kernel) ⟨Nat.le_of_ble_eq_true rfl, Nat.le_of_ble_eq_true rfl⟩) (pre_T hK hP hD m_103 fg_104 rfl) rfl rfl hl.1 rfl (lv_room (Nat.le_of_ble_eq_true rfl)) dX4_joinGroup_124 ⟨Nat.le_of_ble_eq_true rfl, Nat.le_of_ble_eq_true rfl⟩) hD hS hA (fun u_106 H locs hw hP hD hS => ?_)
      obtain ⟨f_106, e0_106⟩ : ∃ x, x = u_106 := ⟨_, rfl⟩
      subst e0_106
      obtain ⟨hI, hF_106, hp_106, hfx_106⟩ : IN jn cI cR cM g L S f_106 ∧ FR S [0, 1] f f_106 ∧ (RWf cI jn S f_106 (g 25) len_9.toInt (fun j => wi (2 * ((j / 2 + z_102.toInt) % len_9.toInt) + j % 2))) ∧ (FX S (fun a9 => a9 = (g 25)) [] f f_106) := hw
      have hP : va_P D vwCl (va_pl L f_106) H := hP
      have hD : va_D A (va_pl L f_106) := hD
      have hF := FR_tr hF hF_106 (by decide)
      have hFX := FX_tr hFX hfx_106 (fun a9 h9 => Or.inr h9) (by decide)
      have fb_107 : f_106 (g 13) = .inr (4, [.int (nI jn), .ref (g 14), .ref (g 12), .ref (g 22), .ref (g 34), .ref (g 23), .ref (g 24), .ref (g 25), .ref (g 26), .int fa_1, .int pl_1]) := FR_at hF_106 (gs_13 hG) (show (13 : Nat) ∉ ([0, 1] : List Nat) by decide) fg_1
      have fb_108 : f_106 (g 22) = .inl (cR, 6, .inr (.inr (.inr (.inr c_2)))) := FR_at hF_106 (gs_22 hG) (show (22 : Nat) ∉ ([0, 1] : List Nat) by decide) fg_2
      have fb_109 : f_106 r_3 = .inr (5, [.int (nI jn), .int (nI (2 * jn)), .ref p_3, .int len_4]) := (hfx_106 r_3 (by rw [own_0 s_3]; exact hq_3) (by rw [s_3]; exact (show (0 : Nat) ∉ ([] : List Nat) by decide))).trans fg_4
      have fb_110 : f_106 p_3 = .inl (cI, n_3, .inl c_5) := (hfx_106 p_3 (by rw [own_1 sp_4]; exact hq_3) (by rw [sp_4]; exact (show (1 : Nat) ∉ ([] : List Nat) by decide))).trans fg_5
      have fb_111 : f_106 r_8 = .inr (5, [.int (nI jn), .int (nI (2 * jn)), .ref p_8, .int len_9]) := (hfx_106 r_8 (by rw [own_0 s_8]; exact hq_8) (by rw [s_8]; exact (show (0 : Nat) ∉ ([] : List Nat) by decide))).trans fg_9
      have fb_112 : f_106 p_8 = .inl (cI, n_8, .inl c_10) := (hfx_106 p_8 (by rw [own_1 sp_9]; exact hq_8) (by rw [sp_9]; exact (show (1 : Nat) ∉ ([] : List Nat) by decide))).trans fg_10
      have fb_113 : f_106 (g 34) = .inl (cI, 6, .inl c_101) := FR_at hF_106 (gs_34 hG) (show (34 : Nat) ∉ ([0, 1] : List Nat) by decide) fg_101
      have ha9 : a8 = 10 := by have h9 := cK_f hka.1; have h8 := hka.2; omega
      have hX_106 : RWf cI jn S f_106 (g 25) m0 (fun j => wi (2 * ((j / 2 + d) % m0) + j % 2)) := by have h9 := hp_106; rw [hl_11, htv] at h9; exact h9
      have hch_106 : ChI a8 d wi m0 (fun j => wi (2 * ((j / 2 + d) % m0) + j % 2)) := Or.inr (Or.inr (Or.inr (Or.inr ⟨ha9, rfl⟩)))
      refine lv_goto (tgt := 140) hx hb dX4_joinGroup_127 (by decide) ?_
      refine lv_iload hx hb dX4_joinGroup_140 (lv_at hl 0 rfl) ?_
      refine a_if_eq (u := 1) (tgt := 164) hx hb dX4_joinGroup_142 (by decide) (by decide) (fun c_114 => absurd c_114 (by subst hj1; omega)) (fun c_114 => ?_)
      refine lv_aload_n hx hb dX4_joinGroup_145 rfl (lv_at hl 2 rfl) ?_
      refine lv_aload_n hx hb dX4_joinGroup_146 rfl (lv_at hl 3 rfl) ?_
      refine t_get (D := D) (L := L) (f := f_106) (ci := 4) (v := .ref (g 25)) (C := RX4) (T := TX4) (N := 11) hx hb hts (by decide +kernel) hown hK.1 hP (gm_13 hG) fb_107 rfl 7 (by decide) (hts (.fieldLink RX4 56 "JugglingHall$Reader" "changed" "LJugglingHall$Row;") (by decide +kernel)) (fun _ h9 => h9) rfl dX4_joinGroup_147 ?_
      refine lv_iconst (v := 0) hx hb dX4_joinGroup_150 (by decide) ?_
      refine lv_aload_n hx hb dX4_joinGroup_151 rfl (lv_at hl 3 rfl) ?_
      refine t_get (D := D) (L := L) (f := f_106) (ci := 4) (v := .ref (g 25)) (C := RX4) (T := TX4) (N := 11) hx hb hts (by decide +kernel) hown hK.1 hP (gm_13 hG) fb_107 rfl 7 (by decide) (hts (.fieldLink RX4 56 "JugglingHall$Reader" "changed" "LJugglingHall$Row;") (by decide +kernel)) (fun _ h9 => h9) rfl dX4_joinGroup_152 ?_
      obtain ⟨len_115, fg_115, v1_115, v2_115, v3_115, mp_115, sp_115⟩ := op_0 hI m_103 s_103
      obtain ⟨w1_115, w2_115, w3_115, w4_115, w5_115⟩ := lenw hj v1_115 v2_115 v3_115
      refine t_getN (D := D) (L := L) (f := f_106) (ci := 5) (v := .int len_115) (C := RX5) (T := TX5) (N := 4) (host := "JugglingHall") hx hb hts (by decide +kernel) hown hK.1 hP m_103 fg_115 rfl 3 (by decide) (hK.nw (.fieldLinkNest RX4 62 "JugglingHall$Row" "length" "I" "JugglingHall") (by decide +kernel) rfl) (fun _ h9 => h9) rfl dX4_joinGroup_155 ?_
      obtain ⟨c_116, fg_116, iv0_116⟩ := op_1 hI mp_104 sp_104
      obtain ⟨hl_117, hc_117⟩ := RWf_at hX_106 s_103 fg_115 fg_116
      have hz_118 : (0 : Int32).toInt = 0 := by decide
      refine call_p (va_runV (As := [.ref (g 25), .int 0, .int len_115]) (rest := []) ⟨hx, hb, hml, hown, hts⟩ (t_X5_appendm l D cI cR cM _ (w := wr) (v := (fun j => wi (2 * ((j / 2 + d) % m0) + j % 2)))  hj hG hI m_3 s_3 fb_109 fb_110 m_103 s_103 fg_115 fg_116 (by first | assumption | omega | (subst hj1; omega)) (by rw [show (0 : Int32).toInt = 0 from rfl]; omega) (by rw [hl_6]; exact hc_6) (by rw [hl_117]; exact hc_117)) (cwV 3 hts gX4_joinGroup_X5_append rfl rfl rfl (by decide +kernel) ⟨Nat.le_of_ble_eq_true rfl, Nat.le_of_ble_eq_true rfl⟩) (pre_T hK hP hD m_3 fb_109 rfl) rfl rfl hl.1 rfl (lv_room (Nat.le_of_ble_eq_true rfl)) dX4_joinGroup_158 ⟨Nat.le_of_ble_eq_true rfl, Nat.le_of_ble_eq_true rfl⟩) hD hS hA (fun u_119 H locs hw hP hD hS => ?_)
      obtain ⟨r_119, f_119⟩ := u_119
      obtain ⟨hI, hF_119, hp_119, hfx_119, h01_119⟩ : IN jn cI cR cM g L S f_119 ∧ FR S [0, 1] f_106 f_119 ∧ ((r_119.toInt = 1 ∧ 2 * (len_4.toInt + (len_115.toInt - (0 : Int32).toInt)) ≤ (n_3 : Int) ∧ RWf cI jn S f_119 r_3 (len_4.toInt + (len_115.toInt - (0 : Int32).toInt)) (fun j => if j < 2 * len_4.toInt then wr j else (fun j => wi (2 * ((j / 2 + d) % m0) + j % 2)) (2 * (0 : Int32).toInt + (j - 2 * len_4.toInt)))) ∨ (r_119.toInt = 0 ∧ (n_3 : Int) < 2 * (len_4.toInt + (len_115.toInt - (0 : Int32).toInt)))) ∧ (FX S (fun a9 => a9 = r_3) [] f_106 f_119) ∧ (r_119.toInt = 0 ∨ r_119.toInt = 1) := hw
      have hP : va_P D vwCl (va_pl L f_119) H := hP
      have hD : va_D A (va_pl L f_119) := hD
      have hF := FR_tr hF hF_119 (by decide)
      have hFX := FX_tr hFX hfx_119 (fun a9 h9 => Or.inl (h9.trans hh_3)) (by decide)
      have fb_120 : f_119 (g 13) = .inr (4, [.int (nI jn), .ref (g 14), .ref (g 12), .ref (g 22), .ref (g 34), .ref (g 23), .ref (g 24), .ref (g 25), .ref (g 26), .int fa_1, .int pl_1]) := FR_at hF_119 (gs_13 hG) (show (13 : Nat) ∉ ([0, 1] : List Nat) by decide) fb_107
      have fb_121 : f_119 (g 22) = .inl (cR, 6, .inr (.inr (.inr (.inr c_2)))) := FR_at hF_119 (gs_22 hG) (show (22 : Nat) ∉ ([0, 1] : List Nat) by decide) fb_108
      have fb_122 : f_119 (g 34) = .inl (cI, 6, .inl c_101) := FR_at hF_119 (gs_34 hG) (show (34 : Nat) ∉ ([0, 1] : List Nat) by decide) fb_113
      refine lv_goto (tgt := 169) hx hb dX4_joinGroup_161 (by decide) ?_
      exact g_zret (r_119, f_119) hx hb hr hlocks hS (b01 (by subst hj1; omega)) rfl (⟨hI, hF, show (r_119.toInt = 1 ∧ n0 + m0 ≤ 24 ∧ ∃ v9 : Int → Int, ChI a8 d wi m0 v9 ∧ RWf cI jn S f_119 (lv y.toInt.toNat) (n0 + m0) (fun j => if j < 2 * n0 then wr j else v9 (j - 2 * n0))) ∨ (r_119.toInt = 0 ∧ (24 < n0 + m0 ∨ ChIF a8 wi m0)) from (by
        rcases hp_119 with ⟨h5, h6, h7⟩ | ⟨h5, h6⟩
        · rw [hl_6, hl_117, show n0 + (m0 - (0 : Int32).toInt) = n0 + m0 by rw [show (0 : Int32).toInt = 0 from rfl]; omega] at h7
          refine Or.inl ⟨h5, by omega, (fun j => wi (2 * ((j / 2 + d) % m0) + j % 2)), hch_106, RWf_e (RWf_c h7 (fun i9 j0 j1 => by exact ap_1 (w := wr) (v := (fun j => wi (2 * ((j / 2 + d) % m0) + j % 2))) (n := n0) (i := i9) (z := (0 : Int32).toInt) rfl)) hh_3.symm⟩
        · exfalso
          rw [hl_6, hl_117, show (0 : Int32).toInt = 0 from rfl] at h6
          omega), show FX S (fun a9 => a9 = lv y.toInt.toNat ∨ a9 = g 25) [13] f f_119 from (by first | assumption | omega | (subst hj1; omega)), show r_119.toInt = 0 ∨ r_119.toInt = 1 from (by first | assumption | omega | (subst hj1; omega))⟩) hP hD hQ (Nat.le_of_ble_eq_true rfl) (Nat.le_of_ble_eq_true rfl) dX4_joinGroup_169
  · refine lv_aload_n hx hb dX4_joinGroup_32 rfl (lv_at hl 2 rfl) ?_
    refine lv_iconst (v := 4) hx hb dX4_joinGroup_33 (by decide) ?_
    have hz_123 : (4 : Int32).toInt = 4 := by decide
    refine call_p (va_runV (As := [.int 4]) (rest := []) ⟨hx, hb, hml, hown, hts⟩ (t_X4_failBehind l D cI cR cM _   hj hG hI  ) (cwV 1 hts gX4_joinGroup_X4_failBehind rfl rfl rfl (by decide +kernel) ⟨Nat.le_of_ble_eq_true rfl, Nat.le_of_ble_eq_true rfl⟩) (pre_T hK hP hD (gm_13 hG) fg_1 rfl) rfl rfl hl.1 rfl (lv_room (Nat.le_of_ble_eq_true rfl)) dX4_joinGroup_34 ⟨Nat.le_of_ble_eq_true rfl, Nat.le_of_ble_eq_true rfl⟩) hD hS hA (fun u_124 H locs hw hP hD hS => ?_)
    obtain ⟨r_124, f_124⟩ := u_124
    obtain ⟨hI, hF_124, h0_124, h01_124⟩ : IN jn cI cR cM g L S f_124 ∧ FR S [13] f f_124 ∧ (r_124.toInt = 0) ∧ (r_124.toInt = 0 ∨ r_124.toInt = 1) := hw
    have hP : va_P D vwCl (va_pl L f_124) H := hP
    have hD : va_D A (va_pl L f_124) := hD
    have hF := FR_tr hF hF_124 (by decide)
    have hFX := FX_trR hFX hF_124 (by decide) (by decide)
    have fb_125 : f_124 (g 22) = .inl (cR, 6, .inr (.inr (.inr (.inr c_2)))) := FR_at hF_124 (gs_22 hG) (show (22 : Nat) ∉ ([13] : List Nat) by decide) fg_2
    have fb_126 : f_124 r_3 = .inr (5, [.int (nI jn), .int (nI (2 * jn)), .ref p_3, .int len_4]) := FR_at hF_124 s_3 (show (0 : Nat) ∉ ([13] : List Nat) by decide) fg_4
    have fb_127 : f_124 p_3 = .inl (cI, n_3, .inl c_5) := FR_at hF_124 sp_4 (show (1 : Nat) ∉ ([13] : List Nat) by decide) fg_5
    have fb_128 : f_124 r_8 = .inr (5, [.int (nI jn), .int (nI (2 * jn)), .ref p_8, .int len_9]) := FR_at hF_124 s_8 (show (0 : Nat) ∉ ([13] : List Nat) by decide) fg_9
    have fb_129 : f_124 p_8 = .inl (cI, n_8, .inl c_10) := FR_at hF_124 sp_9 (show (1 : Nat) ∉ ([13] : List Nat) by decide) fg_10
    exact g_zret (r_124, f_124) hx hb hr hlocks hS (b01 (by subst hj1; omega)) rfl (⟨hI, hF, show (r_124.toInt = 1 ∧ n0 + m0 ≤ 24 ∧ ∃ v9 : Int → Int, ChI a8 d wi m0 v9 ∧ RWf cI jn S f_124 (lv y.toInt.toNat) (n0 + m0) (fun j => if j < 2 * n0 then wr j else v9 (j - 2 * n0))) ∨ (r_124.toInt = 0 ∧ (24 < n0 + m0 ∨ ChIF a8 wi m0)) from (Or.inr ⟨h0_124, Or.inl (by subst hj1; omega)⟩), show FX S (fun a9 => a9 = lv y.toInt.toNat ∨ a9 = g 25) [13] f f_124 from (by first | assumption | omega | (subst hj1; omega)), show r_124.toInt = 0 ∨ r_124.toInt = 1 from (by first | assumption | omega | (subst hj1; omega))⟩) hP hD hQ (Nat.le_of_ble_eq_true rfl) (Nat.le_of_ble_eq_true rfl) dX4_joinGroup_37
