theorem cK_p {k l c d : Int} (h : kOK k) (hl : kOK l) (e : d = cK k) (hc : d = c) (hcl : c = cK l) : k = l := cK_i h hl (by omega)
theorem cK_n {k l c d : Int} (e : d = cK k) (hc : d ≠ c) (hcl : c = cK l) : k ≠ l := fun q => hc (by rw [e, q, hcl])
theorem ins_z (h : Int) (h0 : 0 ≤ h) : ∃ v, insW (fun _ => 0) 0 h = some v ∧ v 0 = h ∧ v 1 = 0 := by
  unfold insW
  by_cases e : h = 0
  · exact ⟨_, if_pos e, e.symm, rfl⟩
  · rw [if_neg e, if_neg (by decide), if_pos (show (0 : Int) < h by omega)]
    exact ⟨_, rfl, rfl, rfl⟩
theorem ins_2 {v : Int → Int} {h k : Int} (h0 : 0 ≤ h) (k0 : 0 ≤ k) (v0 : v 0 = h) (v1 : v 1 = 0) : ∃ u, insW v 0 k = some u ∧ ((h ≥ k ∧ u 0 = h ∧ u 1 = k) ∨ (h < k ∧ u 0 = k ∧ u 1 = h)) := by
  unfold insW
  by_cases e : k = 0
  · exact ⟨_, if_pos e, Or.inl ⟨by omega, v0, by rw [v1, e]⟩⟩
  · rw [if_neg e]
    rw [show (2 : Int) * 0 + 1 = 1 by omega, show (2 : Int) * 0 = 0 by omega, if_neg (by rw [v1]; decide), v0]
    by_cases q : h < k
    · rw [if_pos q]
      exact ⟨_, rfl, Or.inr ⟨q, rfl, rfl⟩⟩
    · rw [if_neg q]
      exact ⟨_, rfl, Or.inl ⟨by omega, by rw [fu_n (by decide)]; exact v0, rfl⟩⟩
theorem ap_b {w v : Int → Int} {n a b i z y : Int} (hz : z = 0) (ha : v 0 = a) (hb : v 1 = b) (i0 : 0 ≤ i) (i1 : i < 2 * (n + 1)) : (if i < 2 * n then w i else v (2 * z + (i - 2 * n))) = fupd (fupd w (2 * n) a) (2 * n + 1) b i := by
  by_cases q : i < 2 * n
  · rw [if_pos q, fu_n (by omega), fu_n (by omega)]
  · rw [if_neg q]
    by_cases q2 : i = 2 * n
    · rw [q2, fu_n (by omega), fu_s, show 2 * z + (2 * n - 2 * n) = 0 by omega]; exact ha
    · rw [show i = 2 * n + 1 by omega, fu_s, show 2 * z + (2 * n + 1 - 2 * n) = 1 by omega]; exact hb
set_option maxRecDepth 100000 in
set_option maxHeartbeats 4000000 in
theorem t_X4_readThrowm (l : Launch) (D : va_G) (cI cR cM : ClassId) (sz : Nat) {jn : Nat} {g : Nat → Nat} {L : List Nat} {S : Sg} {f : Nat → va_E} {x : Int32} {ks vs : Nat → Int} {i : Nat} {w : Int → Int} (hj : 1 ≤ jn ∧ jn ≤ 3) (hG : SG g L S) (hI : IN jn cI cR cM g L S f) (hj1 : jn = 1) (hC : TKm cI g ks vs f i) (hKO : KO ks vs) (hx0 : x.toInt = 0) (hRW : RWf cI jn S f (g 24) 1 w) : Met l yX4_readThrow wsX4_readThrow ({ frames := 1, cells := 0, slots := 0, locals := 26 }) (P0 D cI cR cM [.ref (g 13), .int x] sz (va_pl L f)) (QG (S := Int32 × (Nat → va_E)) (fun u => some (.int u.1)) (fun u => va_pl L u.2) (fun u => IN jn cI cR cM g L S u.2 ∧ FR S [1, 13, 14] f u.2 ∧ ((u.1.toInt = 1 ∧ ThOk ks vs i ∧ TKm cI g ks vs u.2 (thN ks i) ∧ ∃ v9, insW w 0 (vs i) = some v9 ∧ RWf cI jn S u.2 (g 24) 1 v9) ∨ (u.1.toInt = 0 ∧ (¬ ThOk ks vs i ∨ insW w 0 (vs i) = none))) ∧ (FX S (fun a9 => a9 = g 24) [13, 14] f u.2) ∧ (u.1.toInt = 0 ∨ u.1.toInt = 1)) D (va_A (va_pl L f) sz)) 0 0 (va_A (va_pl L f) sz) := by
  refine go (cc := cX4_readThrow) (maxL := 4) (ret := (some .boolean)) (by decide +kernel) rfl (Nat.le_of_ble_eq_true rfl) ?_
  intro p e s m below meth c ls args Q hQ hsz hx hb hr hml hts hown hlocks hnm hP hK hD hl
  subst hsz
  have hD := hD.self (sz := s.heap.size)
  generalize hAe : va_A (va_pl L f) s.heap.size = A at hD hQ
  have hA : ∀ q, s.heap.size ≤ q → A q := fun q h => by rw [← hAe]; exact Or.inr h
  have hS : va_S A s.heap s.heap [] := va_S.rf
  have hFX : FX S (fun a9 => a9 = g 24) [13, 14] f f := FX_rf
  have hF : FR S [1, 13, 14] f f := FR_rf
  have hl : lv_has ls 4 [(0, .ref (g 13)), (1, .int x)] := hl
  obtain ⟨cnt_1, nx_1, kd_1, vl_1, st_1, ls_1, fg_1, iv0_1, iv1_1, iv2_1⟩ := op_14 hI (gm_14 hG) (gs_14 hG)
  obtain ⟨kk_2, kv_2⟩ := TKm_k hC fg_1
  refine lv_aload_n hx hb dX4_readThrow_0 rfl (lv_at hl 0 rfl) ?_
  obtain ⟨fa_3, pl_3, fg_3⟩ := op_13 hI (gm_13 hG) (gs_13 hG)
  refine t_get (D := D) (L := L) (f := f) (ci := 4) (v := .ref (g 14)) (C := RX4) (T := TX4) (N := 11) hx hb hts (by decide +kernel) hown hK.1 hP (gm_13 hG) fg_3 rfl 1 (by decide) (hts (.fieldLink RX4 41 "JugglingHall$Reader" "tokens" "LJugglingHall$Tokens;") (by decide +kernel)) (fun _ h9 => h9) rfl dX4_readThrow_1 ?_
  refine t_getN (D := D) (L := L) (f := f) (ci := 8) (v := .int kd_1) (C := RX8) (T := TX8) (N := 10) (host := "JugglingHall") hx hb hts (by decide +kernel) hown hK.1 hP (gm_14 hG) fg_1 rfl 6 (by decide) (hK.nw (.fieldLinkNest RX4 70 "JugglingHall$Tokens" "kind" "I" "JugglingHall") (by decide +kernel) rfl) (fun _ h9 => h9) rfl dX4_readThrow_4 ?_
  refine lv_iconst (v := 2) hx hb dX4_readThrow_7 (by decide) ?_
  refine a_icmp_eq (u := kd_1.toInt) (v := 2) (tgt := 17) hx hb dX4_readThrow_8 (by decide) (rfl) (by decide) (fun c_4 => ?_) (fun c_4 => ?_)
  · have kb_5 : ks (i) = 1 := cK_p (hKO (i)).1 (Or.inl ⟨by decide, by decide⟩) kk_2 c_4 (by decide)
    refine lv_aload_n hx hb dX4_readThrow_17 rfl (lv_at hl 0 rfl) ?_
    refine t_get (D := D) (L := L) (f := f) (ci := 4) (v := .ref (g 14)) (C := RX4) (T := TX4) (N := 11) hx hb hts (by decide +kernel) hown hK.1 hP (gm_13 hG) fg_3 rfl 1 (by decide) (hts (.fieldLink RX4 41 "JugglingHall$Reader" "tokens" "LJugglingHall$Tokens;") (by decide +kernel)) (fun _ h9 => h9) rfl dX4_readThrow_18 ?_
    refine t_getN (D := D) (L := L) (f := f) (ci := 8) (v := .int vl_1) (C := RX8) (T := TX8) (N := 10) (host := "JugglingHall") hx hb hts (by decide +kernel) hown hK.1 hP (gm_14 hG) fg_1 rfl 7 (by decide) (hK.nw (.fieldLinkNest RX4 113 "JugglingHall$Tokens" "value" "I" "JugglingHall") (by decide +kernel) rfl) (fun _ h9 => h9) rfl dX4_readThrow_21 ?_
    have hv9 := kv_2 (Or.inl (by subst hj1; omega))
    have hv8 := (hKO i).2.1 (by subst hj1; omega)
    refine lv_istore_n (lv' := [(2, .int vl_1), (0, .ref (g 13)), (1, .int x)]) hx hb dX4_readThrow_24 rfl hl (by decide) rfl (fun ls hl => ?_)
    refine lv_iload_n hx hb dX4_readThrow_25 rfl (lv_at hl 2 rfl) ?_
    refine lv_istore_n (lv' := [(3, .int x), (2, .int vl_1), (0, .ref (g 13)), (1, .int x)]) hx hb dX4_readThrow_26 rfl hl (by decide) rfl (fun ls hl => ?_)
    refine lv_aload_n hx hb dX4_readThrow_27 rfl (lv_at hl 2 rfl) ?_
    refine t_get (D := D) (L := L) (f := f) (ci := 4) (v := .ref (g 14)) (C := RX4) (T := TX4) (N := 11) hx hb hts (by decide +kernel) hown hK.1 hP (gm_13 hG) fg_3 rfl 1 (by decide) (hts (.fieldLink RX4 41 "JugglingHall$Reader" "tokens" "LJugglingHall$Tokens;") (by decide +kernel)) (fun _ h9 => h9) rfl dX4_readThrow_28 ?_
    refine call_p (va_runV (As := []) (rest := []) ⟨hx, hb, hml, hown, hts⟩ (t_X8_advancem l D cI cR cM _ (ks := ks) (vs := vs) (i := i)  hj hG hI  (by first | assumption | omega | (subst hj1; omega)) (hC)) (cwV 0 hts gX4_readThrow_X8_advance rfl rfl rfl (by decide +kernel) ⟨Nat.le_of_ble_eq_true rfl, Nat.le_of_ble_eq_true rfl⟩) (pre_T hK hP hD (gm_14 hG) fg_1 rfl) rfl rfl hl.1 rfl (lv_room (Nat.le_of_ble_eq_true rfl)) dX4_readThrow_31 ⟨Nat.le_of_ble_eq_true rfl, Nat.le_of_ble_eq_true rfl⟩) hD hS hA (fun u_6 H locs hw hP hD hS => ?_)
    obtain ⟨f_6, e0_6⟩ : ∃ x, x = u_6 := ⟨_, rfl⟩
    subst e0_6
    obtain ⟨hI, hF_6, hC_6, hfx_6⟩ : IN jn cI cR cM g L S f_6 ∧ FR S [14] f f_6 ∧ (TKm cI g ks vs f_6 ((i) + 1)) ∧ (FX S (fun _ => False) [14] f f_6) := hw
    have hP : va_P D vwCl (va_pl L f_6) H := hP
    have hD : va_D A (va_pl L f_6) := hD
    have hF := FR_tr hF hF_6 (by decide)
    have hFX := FX_tr hFX hfx_6 (fun _ h9 => h9.elim) (by decide)
    have fb_7 : f_6 (g 13) = .inr (4, [.int (nI jn), .ref (g 14), .ref (g 12), .ref (g 22), .ref (g 34), .ref (g 23), .ref (g 24), .ref (g 25), .ref (g 26), .int fa_3, .int pl_3]) := FR_at hF_6 (gs_13 hG) (show (13 : Nat) ∉ ([14] : List Nat) by decide) fg_3
    have hCm_6 : TKm cI g ks vs f_6 (i + 1) := hC_6
    have hRW_6 : RWf cI jn S f_6 (g 24) 1 w := RWf_fx hRW hfx_6 (fun h9 => h9) (by decide)
    obtain ⟨cnt_8, nx_8, kd_8, vl_8, st_8, ls_8, fg_8, iv0_8, iv1_8, iv2_8⟩ := op_14 hI (gm_14 hG) (gs_14 hG)
    obtain ⟨kk_9, kv_9⟩ := TKm_k hCm_6 fg_8
    refine lv_aload_n hx hb dX4_readThrow_34 rfl (lv_at hl 2 rfl) ?_
    refine t_get (D := D) (L := L) (f := f_6) (ci := 4) (v := .ref (g 14)) (C := RX4) (T := TX4) (N := 11) hx hb hts (by decide +kernel) hown hK.1 hP (gm_13 hG) fb_7 rfl 1 (by decide) (hts (.fieldLink RX4 41 "JugglingHall$Reader" "tokens" "LJugglingHall$Tokens;") (by decide +kernel)) (fun _ h9 => h9) rfl dX4_readThrow_35 ?_
    refine t_getN (D := D) (L := L) (f := f_6) (ci := 8) (v := .int kd_8) (C := RX8) (T := TX8) (N := 10) (host := "JugglingHall") hx hb hts (by decide +kernel) hown hK.1 hP (gm_14 hG) fg_8 rfl 6 (by decide) (hK.nw (.fieldLinkNest RX4 70 "JugglingHall$Tokens" "kind" "I" "JugglingHall") (by decide +kernel) rfl) (fun _ h9 => h9) rfl dX4_readThrow_38 ?_
    refine lv_bipush (v := 10) hx hb dX4_readThrow_41 (by decide) ?_
    refine a_icmp_ne (u := kd_8.toInt) (v := 10) (tgt := 99) hx hb dX4_readThrow_43 (by decide) (rfl) (by decide) (fun c_10 => ?_) (fun c_10 => ?_)
    · have kb_11 : ks (i + 1) ≠ 4 := cK_n kk_9 c_10 (by decide)
      refine lv_aload_n hx hb dX4_readThrow_99 rfl (lv_at hl 2 rfl) ?_
      refine t_get (D := D) (L := L) (f := f_6) (ci := 4) (v := .ref (g 24)) (C := RX4) (T := TX4) (N := 11) hx hb hts (by decide +kernel) hown hK.1 hP (gm_13 hG) fb_7 rfl 6 (by decide) (hts (.fieldLink RX4 52 "JugglingHall$Reader" "beat" "LJugglingHall$Row;") (by decide +kernel)) (fun _ h9 => h9) rfl dX4_readThrow_100 ?_
      refine lv_iconst (v := 0) hx hb dX4_readThrow_103 (by decide) ?_
      refine lv_iload_n hx hb dX4_readThrow_104 rfl (lv_at hl 3 rfl) ?_
      refine lv_iload_n hx hb dX4_readThrow_105 rfl (lv_at hl 1 rfl) ?_
      refine lv_iload_n hx hb dX4_readThrow_106 rfl (lv_at hl 0 rfl) ?_
      obtain ⟨p_12, n_12, m_12, s_12⟩ := hG.2.1
      obtain ⟨len_13, fg_13, v1_13, v2_13, v3_13, mp_13, sp_13⟩ := op_0 hI m_12 s_12
      obtain ⟨w1_13, w2_13, w3_13, w4_13, w5_13⟩ := lenw hj v1_13 v2_13 v3_13
      obtain ⟨c_14, fg_14, iv0_14⟩ := op_1 hI mp_13 sp_13
      obtain ⟨hl_15, hc_15⟩ := RWf_at hRW_6 s_12 fg_13 fg_14
      have hz_16 : (0 : Int32).toInt = 0 := by decide
      refine call_p (va_runV (As := [.int 0, .int x, .int vl_1, .int x]) (rest := []) ⟨hx, hb, hml, hown, hts⟩ (t_X5_putm l D cI cR cM _ (w := w)  hj hG hI m_12 s_12 fg_13 fg_14 (by first | assumption | omega | (subst hj1; omega)) (by rw [show (0 : Int32).toInt = 0 from rfl]; omega) (Or.inr ⟨by omega, by subst hj1; omega⟩) (by subst hj1; omega) (by rw [hl_15]; exact hc_15)) (cwV 4 hts gX4_readThrow_X5_put rfl rfl rfl (by decide +kernel) ⟨Nat.le_of_ble_eq_true rfl, Nat.le_of_ble_eq_true rfl⟩) (pre_T hK hP hD m_12 fg_13 rfl) rfl rfl hl.1 rfl (lv_room (Nat.le_of_ble_eq_true rfl)) dX4_readThrow_107 ⟨Nat.le_of_ble_eq_true rfl, Nat.le_of_ble_eq_true rfl⟩) hD hS hA (fun u_17 H locs hw hP hD hS => ?_)
      obtain ⟨r_17, f_17⟩ := u_17
      obtain ⟨hI, hF_17, hp_17, hfx_17, h01_17⟩ : IN jn cI cR cM g L S f_17 ∧ FR S [1] f_6 f_17 ∧ ((r_17.toInt = 1 ∧ ∃ v9, insW w (0 : Int32).toInt vl_1.toInt = some v9 ∧ RWf cI jn S f_17 (g 24) len_13.toInt v9) ∨ (r_17.toInt = 0 ∧ insW w (0 : Int32).toInt vl_1.toInt = none)) ∧ (FX S (fun a9 => a9 = (g 24)) [] f_6 f_17) ∧ (r_17.toInt = 0 ∨ r_17.toInt = 1) := hw
      have hP : va_P D vwCl (va_pl L f_17) H := hP
      have hD : va_D A (va_pl L f_17) := hD
      have hF := FR_tr hF hF_17 (by decide)
      have hFX := FX_tr hFX hfx_17 (fun _ h9 => h9) (by decide)
      have fb_18 : f_17 (g 13) = .inr (4, [.int (nI jn), .ref (g 14), .ref (g 12), .ref (g 22), .ref (g 34), .ref (g 23), .ref (g 24), .ref (g 25), .ref (g 26), .int fa_3, .int pl_3]) := FR_at hF_17 (gs_13 hG) (show (13 : Nat) ∉ ([1] : List Nat) by decide) fb_7
      have fb_19 : f_17 (g 14) = .inr (8, [.ref (g 11), .ref (g 31), .ref (g 32), .ref (g 33), .int cnt_8, .int nx_8, .int kd_8, .int vl_8, .int st_8, .int ls_8]) := FR_at hF_17 (gs_14 hG) (show (14 : Nat) ∉ ([1] : List Nat) by decide) fg_8
      have fb_20 : f_17 (g 24) = .inr (5, [.int (nI jn), .int (nI (2 * jn)), .ref p_12, .int len_13]) := FR_at hF_17 s_12 (show (0 : Nat) ∉ ([1] : List Nat) by decide) fg_13
      exact g_zret (r_17, f_17) hx hb hr hlocks hS (b01 (by subst hj1; omega)) rfl (⟨hI, hF, show (r_17.toInt = 1 ∧ ThOk ks vs i ∧ TKm cI g ks vs f_17 (thN ks i) ∧ ∃ v9, insW w 0 (vs i) = some v9 ∧ RWf cI jn S f_17 (g 24) 1 v9) ∨ (r_17.toInt = 0 ∧ (¬ ThOk ks vs i ∨ insW w 0 (vs i) = none)) from (by
        have h5 : vl_1.toInt = vs i := by omega
        rw [h5, show (0 : Int32).toInt = 0 from rfl, hl_15] at hp_17
        rcases hp_17 with ⟨h6, v9, h7, h8⟩ | ⟨h6, h7⟩
        · exact Or.inl ⟨h6, ⟨by omega, fun q9 => absurd q9 (by subst hj1; omega)⟩, by rw [show thN ks i = i + 1 from if_neg (by subst hj1; omega)]; exact TKm_fr hCm_6 hG hF_17 (by decide), v9, h7, h8⟩
        · exact Or.inr ⟨h6, Or.inr h7⟩), show FX S (fun a9 => a9 = g 24) [13, 14] f f_17 from (by first | assumption | omega | (subst hj1; omega)), show r_17.toInt = 0 ∨ r_17.toInt = 1 from (by first | assumption | omega | (subst hj1; omega))⟩) hP hD hQ (Nat.le_of_ble_eq_true rfl) (Nat.le_of_ble_eq_true rfl) dX4_readThrow_110
    · have kb_21 : ks (i + 1) = 4 := cK_p (hKO (i + 1)).1 (Or.inl ⟨by decide, by decide⟩) kk_9 c_10 (by decide)
      refine lv_aload_n hx hb dX4_readThrow_46 rfl (lv_at hl 2 rfl) ?_
      refine t_get (D := D) (L := L) (f := f_6) (ci := 4) (v := .ref (g 14)) (C := RX4) (T := TX4) (N := 11) hx hb hts (by decide +kernel) hown hK.1 hP (gm_13 hG) fb_7 rfl 1 (by decide) (hts (.fieldLink RX4 41 "JugglingHall$Reader" "tokens" "LJugglingHall$Tokens;") (by decide +kernel)) (fun _ h9 => h9) rfl dX4_readThrow_47 ?_
      refine call_p (va_runV (As := []) (rest := []) ⟨hx, hb, hml, hown, hts⟩ (t_X8_advancem l D cI cR cM _ (ks := ks) (vs := vs) (i := i + 1)  hj hG hI  (by first | assumption | omega | (subst hj1; omega)) (hCm_6)) (cwV 0 hts gX4_readThrow_X8_advance rfl rfl rfl (by decide +kernel) ⟨Nat.le_of_ble_eq_true rfl, Nat.le_of_ble_eq_true rfl⟩) (pre_T hK hP hD (gm_14 hG) fg_8 rfl) rfl rfl hl.1 rfl (lv_room (Nat.le_of_ble_eq_true rfl)) dX4_readThrow_50 ⟨Nat.le_of_ble_eq_true rfl, Nat.le_of_ble_eq_true rfl⟩) hD hS hA (fun u_22 H locs hw hP hD hS => ?_)
      obtain ⟨f_22, e0_22⟩ : ∃ x, x = u_22 := ⟨_, rfl⟩
      subst e0_22
      obtain ⟨hI, hF_22, hC_22, hfx_22⟩ : IN jn cI cR cM g L S f_22 ∧ FR S [14] f_6 f_22 ∧ (TKm cI g ks vs f_22 ((i + 1) + 1)) ∧ (FX S (fun _ => False) [14] f_6 f_22) := hw
      have hP : va_P D vwCl (va_pl L f_22) H := hP
      have hD : va_D A (va_pl L f_22) := hD
      have hF := FR_tr hF hF_22 (by decide)
      have hFX := FX_tr hFX hfx_22 (fun _ h9 => h9.elim) (by decide)
      have fb_23 : f_22 (g 13) = .inr (4, [.int (nI jn), .ref (g 14), .ref (g 12), .ref (g 22), .ref (g 34), .ref (g 23), .ref (g 24), .ref (g 25), .ref (g 26), .int fa_3, .int pl_3]) := FR_at hF_22 (gs_13 hG) (show (13 : Nat) ∉ ([14] : List Nat) by decide) fb_7
      have hCm_22 : TKm cI g ks vs f_22 (i + 2) := hC_22
      have hRW_22 : RWf cI jn S f_22 (g 24) 1 w := RWf_fx hRW_6 hfx_22 (fun h9 => h9) (by decide)
      obtain ⟨cnt_24, nx_24, kd_24, vl_24, st_24, ls_24, fg_24, iv0_24, iv1_24, iv2_24⟩ := op_14 hI (gm_14 hG) (gs_14 hG)
      obtain ⟨kk_25, kv_25⟩ := TKm_k hCm_22 fg_24
      refine lv_aload_n hx hb dX4_readThrow_53 rfl (lv_at hl 2 rfl) ?_
      refine t_get (D := D) (L := L) (f := f_22) (ci := 4) (v := .ref (g 14)) (C := RX4) (T := TX4) (N := 11) hx hb hts (by decide +kernel) hown hK.1 hP (gm_13 hG) fb_23 rfl 1 (by decide) (hts (.fieldLink RX4 41 "JugglingHall$Reader" "tokens" "LJugglingHall$Tokens;") (by decide +kernel)) (fun _ h9 => h9) rfl dX4_readThrow_54 ?_
      refine t_getN (D := D) (L := L) (f := f_22) (ci := 8) (v := .int kd_24) (C := RX8) (T := TX8) (N := 10) (host := "JugglingHall") hx hb hts (by decide +kernel) hown hK.1 hP (gm_14 hG) fg_24 rfl 6 (by decide) (hK.nw (.fieldLinkNest RX4 70 "JugglingHall$Tokens" "kind" "I" "JugglingHall") (by decide +kernel) rfl) (fun _ h9 => h9) rfl dX4_readThrow_57 ?_
      refine lv_iconst (v := 2) hx hb dX4_readThrow_60 (by decide) ?_
      refine a_icmp_eq (u := kd_24.toInt) (v := 2) (tgt := 70) hx hb dX4_readThrow_61 (by decide) (rfl) (by decide) (fun c_26 => ?_) (fun c_26 => ?_)
      · have kb_27 : ks (i + 2) = 1 := cK_p (hKO (i + 2)).1 (Or.inl ⟨by decide, by decide⟩) kk_25 c_26 (by decide)
        refine lv_aload_n hx hb dX4_readThrow_70 rfl (lv_at hl 2 rfl) ?_
        refine t_get (D := D) (L := L) (f := f_22) (ci := 4) (v := .ref (g 14)) (C := RX4) (T := TX4) (N := 11) hx hb hts (by decide +kernel) hown hK.1 hP (gm_13 hG) fb_23 rfl 1 (by decide) (hts (.fieldLink RX4 41 "JugglingHall$Reader" "tokens" "LJugglingHall$Tokens;") (by decide +kernel)) (fun _ h9 => h9) rfl dX4_readThrow_71 ?_
        refine t_getN (D := D) (L := L) (f := f_22) (ci := 8) (v := .int vl_24) (C := RX8) (T := TX8) (N := 10) (host := "JugglingHall") hx hb hts (by decide +kernel) hown hK.1 hP (gm_14 hG) fg_24 rfl 7 (by decide) (hK.nw (.fieldLinkNest RX4 113 "JugglingHall$Tokens" "value" "I" "JugglingHall") (by decide +kernel) rfl) (fun _ h9 => h9) rfl dX4_readThrow_74 ?_
        have ht9 := kv_25 (Or.inl (by subst hj1; omega))
        have ht8 := (hKO (i + 2)).2.1 (by subst hj1; omega)
        refine lv_istore_n (lv' := [(3, .int vl_24), (2, .int vl_1), (0, .ref (g 13)), (1, .int x)]) hx hb dX4_readThrow_77 rfl hl (by decide) rfl (fun ls hl => ?_)
        refine lv_iload_n hx hb dX4_readThrow_78 rfl (lv_at hl 0 rfl) ?_
        refine lv_aload_n hx hb dX4_readThrow_79 rfl (lv_at hl 2 rfl) ?_
        refine t_get (D := D) (L := L) (f := f_22) (ci := 4) (v := .int (nI jn)) (C := RX4) (T := TX4) (N := 11) hx hb hts (by decide +kernel) hown hK.1 hP (gm_13 hG) fb_23 rfl 0 (by decide) (hts (.fieldLink RX4 38 "JugglingHall$Reader" "jugglers" "I") (by decide +kernel)) (fun _ h9 => h9) rfl dX4_readThrow_80 ?_
        refine a_icmp_lt (u := vl_24.toInt) (v := (jn : Int)) (tgt := 92) hx hb dX4_readThrow_83 (by decide) (rfl) (nI_toInt (by subst hj1; omega)) (fun c_28 => ?_) (fun c_28 => ?_)
        · refine lv_aload_n hx hb dX4_readThrow_92 rfl (lv_at hl 2 rfl) ?_
          refine t_get (D := D) (L := L) (f := f_22) (ci := 4) (v := .ref (g 14)) (C := RX4) (T := TX4) (N := 11) hx hb hts (by decide +kernel) hown hK.1 hP (gm_13 hG) fb_23 rfl 1 (by decide) (hts (.fieldLink RX4 41 "JugglingHall$Reader" "tokens" "LJugglingHall$Tokens;") (by decide +kernel)) (fun _ h9 => h9) rfl dX4_readThrow_93 ?_
          refine call_p (va_runV (As := []) (rest := []) ⟨hx, hb, hml, hown, hts⟩ (t_X8_advancem l D cI cR cM _ (ks := ks) (vs := vs) (i := i + 2)  hj hG hI  (by first | assumption | omega | (subst hj1; omega)) (hCm_22)) (cwV 0 hts gX4_readThrow_X8_advance rfl rfl rfl (by decide +kernel) ⟨Nat.le_of_ble_eq_true rfl, Nat.le_of_ble_eq_true rfl⟩) (pre_T hK hP hD (gm_14 hG) fg_24 rfl) rfl rfl hl.1 rfl (lv_room (Nat.le_of_ble_eq_true rfl)) dX4_readThrow_96 ⟨Nat.le_of_ble_eq_true rfl, Nat.le_of_ble_eq_true rfl⟩) hD hS hA (fun u_29 H locs hw hP hD hS => ?_)
          obtain ⟨f_29, e0_29⟩ : ∃ x, x = u_29 := ⟨_, rfl⟩
          subst e0_29
          obtain ⟨hI, hF_29, hC_29, hfx_29⟩ : IN jn cI cR cM g L S f_29 ∧ FR S [14] f_22 f_29 ∧ (TKm cI g ks vs f_29 ((i + 2) + 1)) ∧ (FX S (fun _ => False) [14] f_22 f_29) := hw
          have hP : va_P D vwCl (va_pl L f_29) H := hP
          have hD : va_D A (va_pl L f_29) := hD
          have hF := FR_tr hF hF_29 (by decide)
          have hFX := FX_tr hFX hfx_29 (fun _ h9 => h9.elim) (by decide)
          have fb_30 : f_29 (g 13) = .inr (4, [.int (nI jn), .ref (g 14), .ref (g 12), .ref (g 22), .ref (g 34), .ref (g 23), .ref (g 24), .ref (g 25), .ref (g 26), .int fa_3, .int pl_3]) := FR_at hF_29 (gs_13 hG) (show (13 : Nat) ∉ ([14] : List Nat) by decide) fb_23
          have hCm_29 : TKm cI g ks vs f_29 (i + 3) := hC_29
          have hRW_29 : RWf cI jn S f_29 (g 24) 1 w := RWf_fx hRW_22 hfx_29 (fun h9 => h9) (by decide)
          refine lv_aload_n hx hb dX4_readThrow_99 rfl (lv_at hl 2 rfl) ?_
          refine t_get (D := D) (L := L) (f := f_29) (ci := 4) (v := .ref (g 24)) (C := RX4) (T := TX4) (N := 11) hx hb hts (by decide +kernel) hown hK.1 hP (gm_13 hG) fb_30 rfl 6 (by decide) (hts (.fieldLink RX4 52 "JugglingHall$Reader" "beat" "LJugglingHall$Row;") (by decide +kernel)) (fun _ h9 => h9) rfl dX4_readThrow_100 ?_
          refine lv_iconst (v := 0) hx hb dX4_readThrow_103 (by decide) ?_
          refine lv_iload_n hx hb dX4_readThrow_104 rfl (lv_at hl 3 rfl) ?_
          refine lv_iload_n hx hb dX4_readThrow_105 rfl (lv_at hl 1 rfl) ?_
          refine lv_iload_n hx hb dX4_readThrow_106 rfl (lv_at hl 0 rfl) ?_
          obtain ⟨p_31, n_31, m_31, s_31⟩ := hG.2.1
          obtain ⟨len_32, fg_32, v1_32, v2_32, v3_32, mp_32, sp_32⟩ := op_0 hI m_31 s_31
          obtain ⟨w1_32, w2_32, w3_32, w4_32, w5_32⟩ := lenw hj v1_32 v2_32 v3_32
          obtain ⟨c_33, fg_33, iv0_33⟩ := op_1 hI mp_32 sp_32
          obtain ⟨hl_34, hc_34⟩ := RWf_at hRW_29 s_31 fg_32 fg_33
          have hz_35 : (0 : Int32).toInt = 0 := by decide
          refine call_p (va_runV (As := [.int 0, .int x, .int vl_1, .int vl_24]) (rest := []) ⟨hx, hb, hml, hown, hts⟩ (t_X5_putm l D cI cR cM _ (w := w)  hj hG hI m_31 s_31 fg_32 fg_33 (by first | assumption | omega | (subst hj1; omega)) (by rw [show (0 : Int32).toInt = 0 from rfl]; omega) (Or.inr ⟨by omega, by subst hj1; omega⟩) (by subst hj1; omega) (by rw [hl_34]; exact hc_34)) (cwV 4 hts gX4_readThrow_X5_put rfl rfl rfl (by decide +kernel) ⟨Nat.le_of_ble_eq_true rfl, Nat.le_of_ble_eq_true rfl⟩) (pre_T hK hP hD m_31 fg_32 rfl) rfl rfl hl.1 rfl (lv_room (Nat.le_of_ble_eq_true rfl)) dX4_readThrow_107 ⟨Nat.le_of_ble_eq_true rfl, Nat.le_of_ble_eq_true rfl⟩) hD hS hA (fun u_36 H locs hw hP hD hS => ?_)
          obtain ⟨r_36, f_36⟩ := u_36
          obtain ⟨hI, hF_36, hp_36, hfx_36, h01_36⟩ : IN jn cI cR cM g L S f_36 ∧ FR S [1] f_29 f_36 ∧ ((r_36.toInt = 1 ∧ ∃ v9, insW w (0 : Int32).toInt vl_1.toInt = some v9 ∧ RWf cI jn S f_36 (g 24) len_32.toInt v9) ∨ (r_36.toInt = 0 ∧ insW w (0 : Int32).toInt vl_1.toInt = none)) ∧ (FX S (fun a9 => a9 = (g 24)) [] f_29 f_36) ∧ (r_36.toInt = 0 ∨ r_36.toInt = 1) := hw
          have hP : va_P D vwCl (va_pl L f_36) H := hP
          have hD : va_D A (va_pl L f_36) := hD
          have hF := FR_tr hF hF_36 (by decide)
          have hFX := FX_tr hFX hfx_36 (fun _ h9 => h9) (by decide)
          have fb_37 : f_36 (g 13) = .inr (4, [.int (nI jn), .ref (g 14), .ref (g 12), .ref (g 22), .ref (g 34), .ref (g 23), .ref (g 24), .ref (g 25), .ref (g 26), .int fa_3, .int pl_3]) := FR_at hF_36 (gs_13 hG) (show (13 : Nat) ∉ ([1] : List Nat) by decide) fb_30
          have fb_38 : f_36 (g 24) = .inr (5, [.int (nI jn), .int (nI (2 * jn)), .ref p_31, .int len_32]) := FR_at hF_36 s_31 (show (0 : Nat) ∉ ([1] : List Nat) by decide) fg_32
          exact g_zret (r_36, f_36) hx hb hr hlocks hS (b01 (by subst hj1; omega)) rfl (⟨hI, hF, show (r_36.toInt = 1 ∧ ThOk ks vs i ∧ TKm cI g ks vs f_36 (thN ks i) ∧ ∃ v9, insW w 0 (vs i) = some v9 ∧ RWf cI jn S f_36 (g 24) 1 v9) ∨ (r_36.toInt = 0 ∧ (¬ ThOk ks vs i ∨ insW w 0 (vs i) = none)) from (by
            have h5 : vl_1.toInt = vs i := by omega
            rw [h5, show (0 : Int32).toInt = 0 from rfl, hl_34] at hp_36
            rcases hp_36 with ⟨h6, v9, h7, h8⟩ | ⟨h6, h7⟩
            · exact Or.inl ⟨h6, ⟨by omega, fun q9 => ⟨by omega, by subst hj1; omega⟩⟩, by rw [show thN ks i = i + 3 from if_pos (by subst hj1; omega)]; exact TKm_fr hCm_29 hG hF_36 (by decide), v9, h7, h8⟩
            · exact Or.inr ⟨h6, Or.inr h7⟩), show FX S (fun a9 => a9 = g 24) [13, 14] f f_36 from (by first | assumption | omega | (subst hj1; omega)), show r_36.toInt = 0 ∨ r_36.toInt = 1 from (by first | assumption | omega | (subst hj1; omega))⟩) hP hD hQ (Nat.le_of_ble_eq_true rfl) (Nat.le_of_ble_eq_true rfl) dX4_readThrow_110
        · refine lv_aload_n hx hb dX4_readThrow_86 rfl (lv_at hl 2 rfl) ?_
          refine lv_iconst (v := 2) hx hb dX4_readThrow_87 (by decide) ?_
          have hz_39 : (2 : Int32).toInt = 2 := by decide
          refine call_p (va_runV (As := [.int 2]) (rest := []) ⟨hx, hb, hml, hown, hts⟩ (t_X4_fail l D cI cR cM _   hj hG hI  ) (cwV 1 hts gX4_readThrow_X4_fail rfl rfl rfl (by decide +kernel) ⟨Nat.le_of_ble_eq_true rfl, Nat.le_of_ble_eq_true rfl⟩) (pre_T hK hP hD (gm_13 hG) fb_23 rfl) rfl rfl hl.1 rfl (lv_room (Nat.le_of_ble_eq_true rfl)) dX4_readThrow_88 ⟨Nat.le_of_ble_eq_true rfl, Nat.le_of_ble_eq_true rfl⟩) hD hS hA (fun u_40 H locs hw hP hD hS => ?_)
          obtain ⟨r_40, f_40⟩ := u_40
          obtain ⟨hI, hF_40, h0_40, h01_40⟩ : IN jn cI cR cM g L S f_40 ∧ FR S [13] f_22 f_40 ∧ (r_40.toInt = 0) ∧ (r_40.toInt = 0 ∨ r_40.toInt = 1) := hw
          have hP : va_P D vwCl (va_pl L f_40) H := hP
          have hD : va_D A (va_pl L f_40) := hD
          have hF := FR_tr hF hF_40 (by decide)
          have hFX := FX_trR hFX hF_40 (by decide) (by decide)
          have fb_41 : f_40 (g 14) = .inr (8, [.ref (g 11), .ref (g 31), .ref (g 32), .ref (g 33), .int cnt_24, .int nx_24, .int kd_24, .int vl_24, .int st_24, .int ls_24]) := FR_at hF_40 (gs_14 hG) (show (14 : Nat) ∉ ([13] : List Nat) by decide) fg_24
          exact g_zret (r_40, f_40) hx hb hr hlocks hS (b01 (by subst hj1; omega)) rfl (⟨hI, hF, show (r_40.toInt = 1 ∧ ThOk ks vs i ∧ TKm cI g ks vs f_40 (thN ks i) ∧ ∃ v9, insW w 0 (vs i) = some v9 ∧ RWf cI jn S f_40 (g 24) 1 v9) ∨ (r_40.toInt = 0 ∧ (¬ ThOk ks vs i ∨ insW w 0 (vs i) = none)) from (Or.inr ⟨h0_40, Or.inl (fun q9 => by have := q9.2 (by subst hj1; omega); omega)⟩), show FX S (fun a9 => a9 = g 24) [13, 14] f f_40 from (by first | assumption | omega | (subst hj1; omega)), show r_40.toInt = 0 ∨ r_40.toInt = 1 from (by first | assumption | omega | (subst hj1; omega))⟩) hP hD hQ (Nat.le_of_ble_eq_true rfl) (Nat.le_of_ble_eq_true rfl) dX4_readThrow_91
      · have kb_42 : ks (i + 2) ≠ 1 := cK_n kk_25 c_26 (by decide)
        refine lv_aload_n hx hb dX4_readThrow_64 rfl (lv_at hl 2 rfl) ?_
        refine lv_iconst (v := 1) hx hb dX4_readThrow_65 (by decide) ?_
        have hz_43 : (1 : Int32).toInt = 1 := by decide
        refine call_p (va_runV (As := [.int 1]) (rest := []) ⟨hx, hb, hml, hown, hts⟩ (t_X4_fail l D cI cR cM _   hj hG hI  ) (cwV 1 hts gX4_readThrow_X4_fail rfl rfl rfl (by decide +kernel) ⟨Nat.le_of_ble_eq_true rfl, Nat.le_of_ble_eq_true rfl⟩) (pre_T hK hP hD (gm_13 hG) fb_23 rfl) rfl rfl hl.1 rfl (lv_room (Nat.le_of_ble_eq_true rfl)) dX4_readThrow_66 ⟨Nat.le_of_ble_eq_true rfl, Nat.le_of_ble_eq_true rfl⟩) hD hS hA (fun u_44 H locs hw hP hD hS => ?_)
        obtain ⟨r_44, f_44⟩ := u_44
        obtain ⟨hI, hF_44, h0_44, h01_44⟩ : IN jn cI cR cM g L S f_44 ∧ FR S [13] f_22 f_44 ∧ (r_44.toInt = 0) ∧ (r_44.toInt = 0 ∨ r_44.toInt = 1) := hw
        have hP : va_P D vwCl (va_pl L f_44) H := hP
        have hD : va_D A (va_pl L f_44) := hD
        have hF := FR_tr hF hF_44 (by decide)
        have hFX := FX_trR hFX hF_44 (by decide) (by decide)
        have fb_45 : f_44 (g 14) = .inr (8, [.ref (g 11), .ref (g 31), .ref (g 32), .ref (g 33), .int cnt_24, .int nx_24, .int kd_24, .int vl_24, .int st_24, .int ls_24]) := FR_at hF_44 (gs_14 hG) (show (14 : Nat) ∉ ([13] : List Nat) by decide) fg_24
        exact g_zret (r_44, f_44) hx hb hr hlocks hS (b01 (by subst hj1; omega)) rfl (⟨hI, hF, show (r_44.toInt = 1 ∧ ThOk ks vs i ∧ TKm cI g ks vs f_44 (thN ks i) ∧ ∃ v9, insW w 0 (vs i) = some v9 ∧ RWf cI jn S f_44 (g 24) 1 v9) ∨ (r_44.toInt = 0 ∧ (¬ ThOk ks vs i ∨ insW w 0 (vs i) = none)) from (Or.inr ⟨h0_44, Or.inl (fun q9 => by have := q9.2 (by subst hj1; omega); omega)⟩), show FX S (fun a9 => a9 = g 24) [13, 14] f f_44 from (by first | assumption | omega | (subst hj1; omega)), show r_44.toInt = 0 ∨ r_44.toInt = 1 from (by first | assumption | omega | (subst hj1; omega))⟩) hP hD hQ (Nat.le_of_ble_eq_true rfl) (Nat.le_of_ble_eq_true rfl) dX4_readThrow_69
  · have kb_46 : ks (i) ≠ 1 := cK_n kk_2 c_4 (by decide)
    refine lv_aload_n hx hb dX4_readThrow_11 rfl (lv_at hl 0 rfl) ?_
    refine lv_iconst (v := 1) hx hb dX4_readThrow_12 (by decide) ?_
    have hz_47 : (1 : Int32).toInt = 1 := by decide
    refine call_p (va_runV (As := [.int 1]) (rest := []) ⟨hx, hb, hml, hown, hts⟩ (t_X4_fail l D cI cR cM _   hj hG hI  ) (cwV 1 hts gX4_readThrow_X4_fail rfl rfl rfl (by decide +kernel) ⟨Nat.le_of_ble_eq_true rfl, Nat.le_of_ble_eq_true rfl⟩) (pre_T hK hP hD (gm_13 hG) fg_3 rfl) rfl rfl hl.1 rfl (lv_room (Nat.le_of_ble_eq_true rfl)) dX4_readThrow_13 ⟨Nat.le_of_ble_eq_true rfl, Nat.le_of_ble_eq_true rfl⟩) hD hS hA (fun u_48 H locs hw hP hD hS => ?_)
    obtain ⟨r_48, f_48⟩ := u_48
    obtain ⟨hI, hF_48, h0_48, h01_48⟩ : IN jn cI cR cM g L S f_48 ∧ FR S [13] f f_48 ∧ (r_48.toInt = 0) ∧ (r_48.toInt = 0 ∨ r_48.toInt = 1) := hw
    have hP : va_P D vwCl (va_pl L f_48) H := hP
    have hD : va_D A (va_pl L f_48) := hD
    have hF := FR_tr hF hF_48 (by decide)
    have hFX := FX_trR hFX hF_48 (by decide) (by decide)
    have fb_49 : f_48 (g 14) = .inr (8, [.ref (g 11), .ref (g 31), .ref (g 32), .ref (g 33), .int cnt_1, .int nx_1, .int kd_1, .int vl_1, .int st_1, .int ls_1]) := FR_at hF_48 (gs_14 hG) (show (14 : Nat) ∉ ([13] : List Nat) by decide) fg_1
    exact g_zret (r_48, f_48) hx hb hr hlocks hS (b01 (by subst hj1; omega)) rfl (⟨hI, hF, show (r_48.toInt = 1 ∧ ThOk ks vs i ∧ TKm cI g ks vs f_48 (thN ks i) ∧ ∃ v9, insW w 0 (vs i) = some v9 ∧ RWf cI jn S f_48 (g 24) 1 v9) ∨ (r_48.toInt = 0 ∧ (¬ ThOk ks vs i ∨ insW w 0 (vs i) = none)) from (Or.inr ⟨h0_48, Or.inl (fun q9 => by have := q9.1; omega)⟩), show FX S (fun a9 => a9 = g 24) [13, 14] f f_48 from (by first | assumption | omega | (subst hj1; omega)), show r_48.toInt = 0 ∨ r_48.toInt = 1 from (by first | assumption | omega | (subst hj1; omega))⟩) hP hD hQ (Nat.le_of_ble_eq_true rfl) (Nat.le_of_ble_eq_true rfl) dX4_readThrow_16
set_option maxRecDepth 100000 in
set_option maxHeartbeats 4000000 in
theorem t_X4_readBeatm (l : Launch) (D : va_G) (cI cR cM : ClassId) (sz : Nat) {jn : Nat} {g : Nat → Nat} {L : List Nat} {S : Sg} {f : Nat → va_E} {b b_p b_n : Nat} {b_l : Int32} {b_c : Nat → Int32} {ks vs : Nat → Int} {i : Nat} {w : Int → Int} (hj : 1 ≤ jn ∧ jn ≤ 3) (hG : SG g L S) (hI : IN jn cI cR cM g L S f) (m_b : b ∈ L) (s_b : S b = (0, b_p, b_n)) (f_b : f b = .inr (5, [.int (nI jn), .int (nI (2 * jn)), .ref b_p, .int b_l])) (f_b_p : f b_p = .inl (cI, b_n, .inl b_c)) (hj1 : jn = 1) (hC : TKm cI g ks vs f i) (hKO : KO ks vs) (hne : b ≠ g 24) (hcb : (S (g 24)).2.2 = 2) (hw : RC b_c w b_l.toInt) : Met l yX4_readBeat wsX4_readBeat ({ frames := 2, cells := 0, slots := 0, locals := 88 }) (P0 D cI cR cM [.ref (g 13), .ref b] sz (va_pl L f)) (QG (S := Int32 × (Nat → va_E)) (fun u => some (.int u.1)) (fun u => va_pl L u.2) (fun u => IN jn cI cR cM g L S u.2 ∧ FR S [0, 1, 13, 14] f u.2 ∧ ((u.1.toInt = 1 ∧ ∃ (a9 b9 : Int) (j9 : Nat), BtR ks vs i a9 b9 j9 ∧ TKm cI g ks vs u.2 j9 ∧ 2 * (b_l.toInt + 1) ≤ (b_n : Int) ∧ RWf cI jn S u.2 b (b_l.toInt + 1) (fupd (fupd w (2 * b_l.toInt) a9) (2 * b_l.toInt + 1) b9)) ∨ (u.1.toInt = 0 ∧ (BtF ks vs i ∨ (b_n : Int) < 2 * (b_l.toInt + 1)))) ∧ (FX S (fun a9 => a9 = b ∨ a9 = g 24) [13, 14] f u.2) ∧ (u.1.toInt = 0 ∨ u.1.toInt = 1)) D (va_A (va_pl L f) sz)) 0 0 (va_A (va_pl L f) sz) := by
  refine go (cc := cX4_readBeat) (maxL := 4) (ret := (some .boolean)) (by decide +kernel) rfl (Nat.le_of_ble_eq_true rfl) ?_
  intro p e s m below meth c ls args Q hQ hsz hx hb hr hml hts hown hlocks hnm hP hK hD hl
  subst hsz
  have hD := hD.self (sz := s.heap.size)
  generalize hAe : va_A (va_pl L f) s.heap.size = A at hD hQ
  have hA : ∀ q, s.heap.size ≤ q → A q := fun q h => by rw [← hAe]; exact Or.inr h
  have hS : va_S A s.heap s.heap [] := va_S.rf
  have hFX : FX S (fun a9 => a9 = b ∨ a9 = g 24) [13, 14] f f := FX_rf
  have hF : FR S [0, 1, 13, 14] f f := FR_rf
  have hl : lv_has ls 4 [(0, .ref (g 13)), (1, .ref b)] := hl
  obtain ⟨v1_b, v2_b, v3_b, m_b_p, s_b_p⟩ := iv_0 hI m_b s_b f_b
  obtain ⟨w1_b, w2_b, w3_b, w4_b, w5_b⟩ := lenw hj v1_b v2_b v3_b
  have k_b := iv_1 hI m_b_p s_b_p f_b_p
  refine lv_aload_n hx hb dX4_readBeat_0 rfl (lv_at hl 0 rfl) ?_
  obtain ⟨fa_1, pl_1, fg_1⟩ := op_13 hI (gm_13 hG) (gs_13 hG)
  refine t_get (D := D) (L := L) (f := f) (ci := 4) (v := .ref (g 24)) (C := RX4) (T := TX4) (N := 11) hx hb hts (by decide +kernel) hown hK.1 hP (gm_13 hG) fg_1 rfl 6 (by decide) (hts (.fieldLink RX4 52 "JugglingHall$Reader" "beat" "LJugglingHall$Row;") (by decide +kernel)) (fun _ h9 => h9) rfl dX4_readBeat_1 ?_
  refine lv_iconst (v := 1) hx hb dX4_readBeat_4 (by decide) ?_
  have hz_2 : (1 : Int32).toInt = 1 := by decide
  obtain ⟨p_3, n_3, m_3, s_3⟩ := hG.2.1
  obtain ⟨len_4, fg_4, v1_4, v2_4, v3_4, mp_4, sp_4⟩ := op_0 hI m_3 s_3
  obtain ⟨w1_4, w2_4, w3_4, w4_4, w5_4⟩ := lenw hj v1_4 v2_4 v3_4
  obtain ⟨c_5, fg_5, iv0_5⟩ := op_1 hI mp_4 sp_4
  have hn24 : n_3 = 2 := by have h9 := hcb; rw [s_3] at h9; exact h9
  refine call_p (va_runV (As := [.int 1]) (rest := []) ⟨hx, hb, hml, hown, hts⟩ (t_X5_resetm l D cI cR cM _   hj hG hI m_3 s_3 fg_4 fg_5 (by first | assumption | omega | (subst hj1; omega)) (by rw [show (1 : Int32).toInt = 1 from rfl]; omega)) (cwV 1 hts gX4_readBeat_X5_reset rfl rfl rfl (by decide +kernel) ⟨Nat.le_of_ble_eq_true rfl, Nat.le_of_ble_eq_true rfl⟩) (pre_T hK hP hD m_3 fg_4 rfl) rfl rfl hl.1 rfl (lv_room (Nat.le_of_ble_eq_true rfl)) dX4_readBeat_5 ⟨Nat.le_of_ble_eq_true rfl, Nat.le_of_ble_eq_true rfl⟩) hD hS hA (fun u_6 H locs hw hP hD hS => ?_)
  obtain ⟨f_6, e0_6⟩ : ∃ x, x = u_6 := ⟨_, rfl⟩
  subst e0_6
  obtain ⟨hI, hF_6, hp_6, hfx_6⟩ : IN jn cI cR cM g L S f_6 ∧ FR S [0, 1] f f_6 ∧ (RWf cI jn S f_6 (g 24) (1 : Int32).toInt (fun _ => 0)) ∧ (FX S (fun a9 => a9 = (g 24)) [] f f_6) := hw
  have hP : va_P D vwCl (va_pl L f_6) H := hP
  have hD : va_D A (va_pl L f_6) := hD
  have hF := FR_tr hF hF_6 (by decide)
  have hFX := FX_tr hFX hfx_6 (fun a9 h9 => Or.inr h9) (by decide)
  have fb_7 : f_6 b = .inr (5, [.int (nI jn), .int (nI (2 * jn)), .ref b_p, .int b_l]) := (hfx_6 b (by rw [own_0 s_b]; exact hne) (by rw [s_b]; exact (show (0 : Nat) ∉ ([] : List Nat) by decide))).trans f_b
  have fb_8 : f_6 b_p = .inl (cI, b_n, .inl b_c) := (hfx_6 b_p (by rw [own_1 s_b_p]; exact hne) (by rw [s_b_p]; exact (show (1 : Nat) ∉ ([] : List Nat) by decide))).trans f_b_p
  have fb_9 : f_6 (g 13) = .inr (4, [.int (nI jn), .ref (g 14), .ref (g 12), .ref (g 22), .ref (g 34), .ref (g 23), .ref (g 24), .ref (g 25), .ref (g 26), .int fa_1, .int pl_1]) := FR_at hF_6 (gs_13 hG) (show (13 : Nat) ∉ ([0, 1] : List Nat) by decide) fg_1
  have hC0 : TKm cI g ks vs f_6 i := TKm_fr hC hG hF_6 (by decide)
  have hR0 : RWf cI jn S f_6 (g 24) 1 (fun _ => 0) := by have h9 := hp_6; rw [show (1 : Int32).toInt = 1 from rfl] at h9; exact h9
  refine lv_iconst (v := 0) hx hb dX4_readBeat_8 (by decide) ?_
  refine lv_istore_n (lv' := [(2, .int 0), (0, .ref (g 13)), (1, .ref b)]) hx hb dX4_readBeat_9 rfl hl (by decide) rfl (fun ls hl => ?_)
  refine lv_iload_n hx hb dX4_readBeat_10 rfl (lv_at hl 0 rfl) ?_
  refine lv_aload_n hx hb dX4_readBeat_11 rfl (lv_at hl 1 rfl) ?_
  refine t_get (D := D) (L := L) (f := f_6) (ci := 4) (v := .int (nI jn)) (C := RX4) (T := TX4) (N := 11) hx hb hts (by decide +kernel) hown hK.1 hP (gm_13 hG) fb_9 rfl 0 (by decide) (hts (.fieldLink RX4 38 "JugglingHall$Reader" "jugglers" "I") (by decide +kernel)) (fun _ h9 => h9) rfl dX4_readBeat_12 ?_
  refine a_icmp_ge (u := 0) (v := (jn : Int)) (tgt := 112) hx hb dX4_readBeat_15 (by decide) (by decide) (nI_toInt (by subst hj1; omega)) (fun c_10 => absurd c_10 (by subst hj1; omega)) (fun c_10 => ?_)
  refine lv_aload_n hx hb dX4_readBeat_18 rfl (lv_at hl 1 rfl) ?_
  refine t_get (D := D) (L := L) (f := f_6) (ci := 4) (v := .int (nI jn)) (C := RX4) (T := TX4) (N := 11) hx hb hts (by decide +kernel) hown hK.1 hP (gm_13 hG) fb_9 rfl 0 (by decide) (hts (.fieldLink RX4 38 "JugglingHall$Reader" "jugglers" "I") (by decide +kernel)) (fun _ h9 => h9) rfl dX4_readBeat_19 ?_
  refine lv_iconst (v := 1) hx hb dX4_readBeat_22 (by decide) ?_
  refine a_icmp_le (u := (jn : Int)) (v := 1) (tgt := 46) hx hb dX4_readBeat_23 (by decide) (nI_toInt (by subst hj1; omega)) (by decide) (fun c_11 => ?_) (fun c_11 => absurd c_11 (by subst hj1; omega))
  refine lv_aload_n hx hb dX4_readBeat_46 rfl (lv_at hl 1 rfl) ?_
  obtain ⟨cnt_12, nx_12, kd_12, vl_12, st_12, ls_12, fg_12, iv0_12, iv1_12, iv2_12⟩ := op_14 hI (gm_14 hG) (gs_14 hG)
  obtain ⟨kk_13, kv_13⟩ := TKm_k hC0 fg_12
  refine t_get (D := D) (L := L) (f := f_6) (ci := 4) (v := .ref (g 14)) (C := RX4) (T := TX4) (N := 11) hx hb hts (by decide +kernel) hown hK.1 hP (gm_13 hG) fb_9 rfl 1 (by decide) (hts (.fieldLink RX4 41 "JugglingHall$Reader" "tokens" "LJugglingHall$Tokens;") (by decide +kernel)) (fun _ h9 => h9) rfl dX4_readBeat_47 ?_
  refine t_getN (D := D) (L := L) (f := f_6) (ci := 8) (v := .int kd_12) (C := RX8) (T := TX8) (N := 10) (host := "JugglingHall") hx hb hts (by decide +kernel) hown hK.1 hP (gm_14 hG) fg_12 rfl 6 (by decide) (hK.nw (.fieldLinkNest RX4 70 "JugglingHall$Tokens" "kind" "I" "JugglingHall") (by decide +kernel) rfl) (fun _ h9 => h9) rfl dX4_readBeat_50 ?_
  refine lv_bipush (v := 91) hx hb dX4_readBeat_53 (by decide) ?_
  refine a_icmp_ne (u := kd_12.toInt) (v := 91) (tgt := 62) hx hb dX4_readBeat_55 (by decide) (rfl) (by decide) (fun c_14 => ?_) (fun c_14 => ?_)
  · have kb_15 : ks (i) ≠ 91 := cK_n kk_13 c_14 (by decide)
    refine lv_iconst (v := 0) hx hb dX4_readBeat_62 (by decide) ?_
    refine lv_istore_n (lv' := [(3, .int 0), (2, .int 0), (0, .ref (g 13)), (1, .ref b)]) hx hb dX4_readBeat_63 rfl hl (by decide) rfl (fun ls hl => ?_)
    refine lv_iload_n hx hb dX4_readBeat_64 rfl (lv_at hl 0 rfl) ?_
    refine a_if_eq (u := 0) (tgt := 75) hx hb dX4_readBeat_65 (by decide) (by decide) (fun c_16 => ?_) (fun c_16 => absurd c_16 (by subst hj1; omega))
    refine lv_aload_n hx hb dX4_readBeat_75 rfl (lv_at hl 2 rfl) ?_
    refine lv_iload_n hx hb dX4_readBeat_76 rfl (lv_at hl 1 rfl) ?_
    have hz_17 : (0 : Int32).toInt = 0 := by decide
    refine call_p (va_runV (As := [.int 0]) (rest := []) ⟨hx, hb, hml, hown, hts⟩ (t_X4_readThrowm l D cI cR cM _ (ks := ks) (vs := vs) (i := i) (w := (fun _ => 0))  hj hG hI  (by first | assumption | omega | (subst hj1; omega)) (hC0) (by first | assumption | omega | (subst hj1; omega)) (by decide) (hR0)) (cwV 1 hts gX4_readBeat_X4_readThrow rfl rfl rfl (by decide +kernel) ⟨Nat.le_of_ble_eq_true rfl, Nat.le_of_ble_eq_true rfl⟩) (pre_T hK hP hD (gm_13 hG) fb_9 rfl) rfl rfl hl.1 rfl (lv_room (Nat.le_of_ble_eq_true rfl)) dX4_readBeat_77 ⟨Nat.le_of_ble_eq_true rfl, Nat.le_of_ble_eq_true rfl⟩) hD hS hA (fun u_18 H locs hw hP hD hS => ?_)
    obtain ⟨r_18, f_18⟩ := u_18
    obtain ⟨hI, hF_18, hp_18, hfx_18, h01_18⟩ : IN jn cI cR cM g L S f_18 ∧ FR S [1, 13, 14] f_6 f_18 ∧ ((r_18.toInt = 1 ∧ ThOk ks vs (i) ∧ TKm cI g ks vs f_18 (thN ks (i)) ∧ ∃ v9, insW (fun _ => 0) 0 (vs (i)) = some v9 ∧ RWf cI jn S f_18 (g 24) 1 v9) ∨ (r_18.toInt = 0 ∧ (¬ ThOk ks vs (i) ∨ insW (fun _ => 0) 0 (vs (i)) = none))) ∧ (FX S (fun a9 => a9 = g 24) [13, 14] f_6 f_18) ∧ (r_18.toInt = 0 ∨ r_18.toInt = 1) := hw
    have hP : va_P D vwCl (va_pl L f_18) H := hP
    have hD : va_D A (va_pl L f_18) := hD
    have hF := FR_tr hF hF_18 (by decide)
    have hFX := FX_tr hFX hfx_18 (fun a9 h9 => Or.inr h9) (by decide)
    have fb_19 : f_18 b = .inr (5, [.int (nI jn), .int (nI (2 * jn)), .ref b_p, .int b_l]) := FR_at hF_18 s_b (show (0 : Nat) ∉ ([1, 13, 14] : List Nat) by decide) fb_7
    have fb_20 : f_18 b_p = .inl (cI, b_n, .inl b_c) := (hfx_18 b_p (by rw [own_1 s_b_p]; exact hne) (by rw [s_b_p]; exact (show (1 : Nat) ∉ ([13, 14] : List Nat) by decide))).trans fb_8
    refine a_if_eq (u := r_18.toInt) (tgt := 104) hx hb dX4_readBeat_80 (by decide) (rfl) (fun c_21 => ?_) (fun c_21 => ?_)
    · have hbt_18 : ¬ ThOk ks vs (i) := by
        intro q8
        rcases hp_18 with h9 | h9
        · have := h9.1; omega
        · rcases h9.2 with h8 | h8
          · exact h8 q8
          · obtain ⟨u9, hu9, -⟩ := ins_z (vs (i)) (by have := (hKO (i)).2.1 q8.1; omega)
            rw [h8] at hu9; cases hu9
      refine lv_iconst (v := 0) hx hb dX4_readBeat_104 (by decide) ?_
      have hz_22 : (0 : Int32).toInt = 0 := by decide
      exact g_zret ((0 : Int32), f_18) hx hb hr hlocks hS (by first | exact Or.inl rfl | exact Or.inr rfl) rfl (⟨hI, hF, show ((0 : Int32).toInt = 1 ∧ ∃ (a9 b9 : Int) (j9 : Nat), BtR ks vs i a9 b9 j9 ∧ TKm cI g ks vs f_18 j9 ∧ 2 * (b_l.toInt + 1) ≤ (b_n : Int) ∧ RWf cI jn S f_18 b (b_l.toInt + 1) (fupd (fupd w (2 * b_l.toInt) a9) (2 * b_l.toInt + 1) b9)) ∨ ((0 : Int32).toInt = 0 ∧ (BtF ks vs i ∨ (b_n : Int) < 2 * (b_l.toInt + 1))) from (Or.inr ⟨rfl, Or.inl (Or.inl ⟨by omega, hbt_18⟩)⟩), show FX S (fun a9 => a9 = b ∨ a9 = g 24) [13, 14] f f_18 from (by first | assumption | omega | (subst hj1; omega)), show (0 : Int32).toInt = 0 ∨ (0 : Int32).toInt = 1 from (by first | assumption | omega | (subst hj1; omega))⟩) hP hD hQ (Nat.le_of_ble_eq_true rfl) (Nat.le_of_ble_eq_true rfl) dX4_readBeat_105
    · obtain ⟨ht1_18, ht2_18, ht3_18, v_18, ht4_18, ht5_18⟩ := hp_18.resolve_right (fun q9 => by have := q9.1; omega)
      obtain ⟨u_18, hu1_18, hu2_18, hu3_18⟩ := (ins_z (vs (i)) (by have := (hKO (i)).2.1 ht2_18.1; omega))
      rw [ht4_18] at hu1_18
      cases hu1_18
      refine lv_iload_n hx hb dX4_readBeat_83 rfl (lv_at hl 0 rfl) ?_
      refine a_if_eq (u := 0) (tgt := 106) hx hb dX4_readBeat_84 (by decide) (by decide) (fun c_23 => ?_) (fun c_23 => absurd c_23 (by subst hj1; omega))
      refine lv_iinc (v := 1) (lv' := [(2, .int 1), (3, .int 0), (0, .ref (g 13)), (1, .ref b)]) hx hb dX4_readBeat_106 hl (k := 1) rfl (by decide) (by decide) rfl (fun ls hl => ?_)
      refine lv_goto (tgt := 10) hx hb dX4_readBeat_109 (by decide) ?_
      refine lv_iload_n hx hb dX4_readBeat_10 rfl (lv_at hl 0 rfl) ?_
      refine lv_aload_n hx hb dX4_readBeat_11 rfl (lv_at hl 2 rfl) ?_
      obtain ⟨fa_24, pl_24, fg_24⟩ := op_13 hI (gm_13 hG) (gs_13 hG)
      refine t_get (D := D) (L := L) (f := f_18) (ci := 4) (v := .int (nI jn)) (C := RX4) (T := TX4) (N := 11) hx hb hts (by decide +kernel) hown hK.1 hP (gm_13 hG) fg_24 rfl 0 (by decide) (hts (.fieldLink RX4 38 "JugglingHall$Reader" "jugglers" "I") (by decide +kernel)) (fun _ h9 => h9) rfl dX4_readBeat_12 ?_
      refine a_icmp_ge (u := 1) (v := (jn : Int)) (tgt := 112) hx hb dX4_readBeat_15 (by decide) (by decide) (nI_toInt (by subst hj1; omega)) (fun c_25 => ?_) (fun c_25 => absurd c_25 (by subst hj1; omega))
      refine lv_aload_n hx hb dX4_readBeat_112 rfl (lv_at hl 2 rfl) ?_
      refine t_get (D := D) (L := L) (f := f_18) (ci := 4) (v := .int (nI jn)) (C := RX4) (T := TX4) (N := 11) hx hb hts (by decide +kernel) hown hK.1 hP (gm_13 hG) fg_24 rfl 0 (by decide) (hts (.fieldLink RX4 38 "JugglingHall$Reader" "jugglers" "I") (by decide +kernel)) (fun _ h9 => h9) rfl dX4_readBeat_113 ?_
      refine lv_iconst (v := 1) hx hb dX4_readBeat_116 (by decide) ?_
      refine a_icmp_le (u := (jn : Int)) (v := 1) (tgt := 131) hx hb dX4_readBeat_117 (by decide) (nI_toInt (by subst hj1; omega)) (by decide) (fun c_26 => ?_) (fun c_26 => absurd c_26 (by subst hj1; omega))
      refine lv_aload_n hx hb dX4_readBeat_131 rfl (lv_at hl 3 rfl) ?_
      refine lv_aload_n hx hb dX4_readBeat_132 rfl (lv_at hl 2 rfl) ?_
      refine t_get (D := D) (L := L) (f := f_18) (ci := 4) (v := .ref (g 24)) (C := RX4) (T := TX4) (N := 11) hx hb hts (by decide +kernel) hown hK.1 hP (gm_13 hG) fg_24 rfl 6 (by decide) (hts (.fieldLink RX4 52 "JugglingHall$Reader" "beat" "LJugglingHall$Row;") (by decide +kernel)) (fun _ h9 => h9) rfl dX4_readBeat_133 ?_
      refine lv_iconst (v := 0) hx hb dX4_readBeat_136 (by decide) ?_
      refine lv_iconst (v := 1) hx hb dX4_readBeat_137 (by decide) ?_
      obtain ⟨len_27, fg_27, v1_27, v2_27, v3_27, mp_27, sp_27⟩ := op_0 hI m_3 s_3
      obtain ⟨w1_27, w2_27, w3_27, w4_27, w5_27⟩ := lenw hj v1_27 v2_27 v3_27
      obtain ⟨c_28, fg_28, iv0_28⟩ := op_1 hI mp_4 sp_4
      obtain ⟨hl_29, hc_29⟩ := RWf_at ht5_18 s_3 fg_27 fg_28
      have hz_30 : (0 : Int32).toInt = 0 := by decide
      have hz_31 : (1 : Int32).toInt = 1 := by decide
      refine call_p (va_runV (As := [.ref (g 24), .int 0, .int 1]) (rest := []) ⟨hx, hb, hml, hown, hts⟩ (t_X5_appendm l D cI cR cM _ (w := w) (v := v_18)  hj hG hI m_b s_b fb_19 fb_20 m_3 s_3 fg_27 fg_28 (by first | assumption | omega | (subst hj1; omega)) (by rw [show (0 : Int32).toInt = 0 from rfl, show (1 : Int32).toInt = 1 from rfl]; omega) (hw) (by rw [hl_29]; exact hc_29)) (cwV 3 hts gX4_readBeat_X5_append rfl rfl rfl (by decide +kernel) ⟨Nat.le_of_ble_eq_true rfl, Nat.le_of_ble_eq_true rfl⟩) (pre_T hK hP hD m_b fb_19 rfl) rfl rfl hl.1 rfl (lv_room (Nat.le_of_ble_eq_true rfl)) dX4_readBeat_138 ⟨Nat.le_of_ble_eq_true rfl, Nat.le_of_ble_eq_true rfl⟩) hD hS hA (fun u_32 H locs hw hP hD hS => ?_)
      obtain ⟨r_32, f_32⟩ := u_32
      obtain ⟨hI, hF_32, hp_32, hfx_32, h01_32⟩ : IN jn cI cR cM g L S f_32 ∧ FR S [0, 1] f_18 f_32 ∧ ((r_32.toInt = 1 ∧ 2 * (b_l.toInt + ((1 : Int32).toInt - (0 : Int32).toInt)) ≤ (b_n : Int) ∧ RWf cI jn S f_32 b (b_l.toInt + ((1 : Int32).toInt - (0 : Int32).toInt)) (fun j => if j < 2 * b_l.toInt then w j else v_18 (2 * (0 : Int32).toInt + (j - 2 * b_l.toInt)))) ∨ (r_32.toInt = 0 ∧ (b_n : Int) < 2 * (b_l.toInt + ((1 : Int32).toInt - (0 : Int32).toInt)))) ∧ (FX S (fun a9 => a9 = b) [] f_18 f_32) ∧ (r_32.toInt = 0 ∨ r_32.toInt = 1) := hw
      have hP : va_P D vwCl (va_pl L f_32) H := hP
      have hD : va_D A (va_pl L f_32) := hD
      have hF := FR_tr hF hF_32 (by decide)
      have hFX := FX_tr hFX hfx_32 (fun a9 h9 => Or.inl h9) (by decide)
      have fb_33 : f_32 (g 13) = .inr (4, [.int (nI jn), .ref (g 14), .ref (g 12), .ref (g 22), .ref (g 34), .ref (g 23), .ref (g 24), .ref (g 25), .ref (g 26), .int fa_24, .int pl_24]) := FR_at hF_32 (gs_13 hG) (show (13 : Nat) ∉ ([0, 1] : List Nat) by decide) fg_24
      refine a_if_ne (u := r_32.toInt) (tgt := 152) hx hb dX4_readBeat_141 (by decide) (rfl) (fun c_34 => ?_) (fun c_34 => ?_)
      · refine lv_iconst (v := 1) hx hb dX4_readBeat_152 (by decide) ?_
        refine lv_goto (tgt := 157) hx hb dX4_readBeat_153 (by decide) ?_
        have hz_35 : (1 : Int32).toInt = 1 := by decide
        exact g_zret ((1 : Int32), f_32) hx hb hr hlocks hS (by first | exact Or.inl rfl | exact Or.inr rfl) rfl (⟨hI, hF, show ((1 : Int32).toInt = 1 ∧ ∃ (a9 b9 : Int) (j9 : Nat), BtR ks vs i a9 b9 j9 ∧ TKm cI g ks vs f_32 j9 ∧ 2 * (b_l.toInt + 1) ≤ (b_n : Int) ∧ RWf cI jn S f_32 b (b_l.toInt + 1) (fupd (fupd w (2 * b_l.toInt) a9) (2 * b_l.toInt + 1) b9)) ∨ ((1 : Int32).toInt = 0 ∧ (BtF ks vs i ∨ (b_n : Int) < 2 * (b_l.toInt + 1))) from (by
          obtain ⟨-, h7, h8⟩ := hp_32.resolve_right (fun q7 => by have := q7.1; omega)
          rw [show (0 : Int32).toInt = 0 from rfl, show (1 : Int32).toInt = 1 from rfl, show b_l.toInt + (1 - 0) = b_l.toInt + 1 by omega] at h7
          rw [show b_l.toInt + ((1 : Int32).toInt - (0 : Int32).toInt) = b_l.toInt + 1 by rw [show (0 : Int32).toInt = 0 from rfl, show (1 : Int32).toInt = 1 from rfl]; omega] at h8
          have hC9 := TKm_fr ht3_18 hG hF_32 (by decide)
          exact Or.inl ⟨rfl, vs i, 0, _, Or.inl ⟨by omega, ht2_18, rfl, rfl, rfl⟩, hC9, h7, RWf_c h8 (fun i9 j0 j1 => ap_b (y := 0) rfl hu2_18 hu3_18 j0 j1)⟩), show FX S (fun a9 => a9 = b ∨ a9 = g 24) [13, 14] f f_32 from (by first | assumption | omega | (subst hj1; omega)), show (1 : Int32).toInt = 0 ∨ (1 : Int32).toInt = 1 from (by first | assumption | omega | (subst hj1; omega))⟩) hP hD hQ (Nat.le_of_ble_eq_true rfl) (Nat.le_of_ble_eq_true rfl) dX4_readBeat_157
      · refine lv_aload_n hx hb dX4_readBeat_144 rfl (lv_at hl 2 rfl) ?_
        refine lv_iconst (v := 4) hx hb dX4_readBeat_145 (by decide) ?_
        have hz_36 : (4 : Int32).toInt = 4 := by decide
        refine call_p (va_runV (As := [.int 4]) (rest := []) ⟨hx, hb, hml, hown, hts⟩ (t_X4_failBehind l D cI cR cM _   hj hG hI  ) (cwV 1 hts gX4_readBeat_X4_failBehind rfl rfl rfl (by decide +kernel) ⟨Nat.le_of_ble_eq_true rfl, Nat.le_of_ble_eq_true rfl⟩) (pre_T hK hP hD (gm_13 hG) fb_33 rfl) rfl rfl hl.1 rfl (lv_room (Nat.le_of_ble_eq_true rfl)) dX4_readBeat_146 ⟨Nat.le_of_ble_eq_true rfl, Nat.le_of_ble_eq_true rfl⟩) hD hS hA (fun u_37 H locs hw hP hD hS => ?_)
        obtain ⟨r_37, f_37⟩ := u_37
        obtain ⟨hI, hF_37, h0_37, h01_37⟩ : IN jn cI cR cM g L S f_37 ∧ FR S [13] f_32 f_37 ∧ (r_37.toInt = 0) ∧ (r_37.toInt = 0 ∨ r_37.toInt = 1) := hw
        have hP : va_P D vwCl (va_pl L f_37) H := hP
        have hD : va_D A (va_pl L f_37) := hD
        have hF := FR_tr hF hF_37 (by decide)
        have hFX := FX_trR hFX hF_37 (by decide) (by decide)
        refine a_if_eq (u := r_37.toInt) (tgt := 156) hx hb dX4_readBeat_149 (by decide) (rfl) (fun c_38 => ?_) (fun c_38 => ?_)
        · refine lv_iconst (v := 0) hx hb dX4_readBeat_156 (by decide) ?_
          have hz_39 : (0 : Int32).toInt = 0 := by decide
          exact g_zret ((0 : Int32), f_37) hx hb hr hlocks hS (by first | exact Or.inl rfl | exact Or.inr rfl) rfl (⟨hI, hF, show ((0 : Int32).toInt = 1 ∧ ∃ (a9 b9 : Int) (j9 : Nat), BtR ks vs i a9 b9 j9 ∧ TKm cI g ks vs f_37 j9 ∧ 2 * (b_l.toInt + 1) ≤ (b_n : Int) ∧ RWf cI jn S f_37 b (b_l.toInt + 1) (fupd (fupd w (2 * b_l.toInt) a9) (2 * b_l.toInt + 1) b9)) ∨ ((0 : Int32).toInt = 0 ∧ (BtF ks vs i ∨ (b_n : Int) < 2 * (b_l.toInt + 1))) from (Or.inr ⟨rfl, Or.inr (by have h8 := (hp_32.resolve_left (fun q7 => by have := q7.1; omega)).2; rw [show (0 : Int32).toInt = 0 from rfl, show (1 : Int32).toInt = 1 from rfl] at h8; omega)⟩), show FX S (fun a9 => a9 = b ∨ a9 = g 24) [13, 14] f f_37 from (by first | assumption | omega | (subst hj1; omega)), show (0 : Int32).toInt = 0 ∨ (0 : Int32).toInt = 1 from (by first | assumption | omega | (subst hj1; omega))⟩) hP hD hQ (Nat.le_of_ble_eq_true rfl) (Nat.le_of_ble_eq_true rfl) dX4_readBeat_157
        · refine lv_iconst (v := 1) hx hb dX4_readBeat_152 (by decide) ?_
          refine lv_goto (tgt := 157) hx hb dX4_readBeat_153 (by decide) ?_
          have hz_40 : (1 : Int32).toInt = 1 := by decide
          exact g_zret ((1 : Int32), f_37) hx hb hr hlocks hS (by first | exact Or.inl rfl | exact Or.inr rfl) rfl (⟨hI, hF, show ((1 : Int32).toInt = 1 ∧ ∃ (a9 b9 : Int) (j9 : Nat), BtR ks vs i a9 b9 j9 ∧ TKm cI g ks vs f_37 j9 ∧ 2 * (b_l.toInt + 1) ≤ (b_n : Int) ∧ RWf cI jn S f_37 b (b_l.toInt + 1) (fupd (fupd w (2 * b_l.toInt) a9) (2 * b_l.toInt + 1) b9)) ∨ ((1 : Int32).toInt = 0 ∧ (BtF ks vs i ∨ (b_n : Int) < 2 * (b_l.toInt + 1))) from (by exfalso; omega), show FX S (fun a9 => a9 = b ∨ a9 = g 24) [13, 14] f f_37 from (by first | assumption | omega | (subst hj1; omega)), show (1 : Int32).toInt = 0 ∨ (1 : Int32).toInt = 1 from (by first | assumption | omega | (subst hj1; omega))⟩) hP hD hQ (Nat.le_of_ble_eq_true rfl) (Nat.le_of_ble_eq_true rfl) dX4_readBeat_157
  · have kb_41 : ks (i) = 91 := cK_p (hKO (i)).1 (Or.inr ⟨by decide, by decide⟩) kk_13 c_14 (by decide)
    refine lv_iconst (v := 1) hx hb dX4_readBeat_58 (by decide) ?_
    refine lv_goto (tgt := 63) hx hb dX4_readBeat_59 (by decide) ?_
    refine lv_istore_n (lv' := [(3, .int 1), (2, .int 0), (0, .ref (g 13)), (1, .ref b)]) hx hb dX4_readBeat_63 rfl hl (by decide) rfl (fun ls hl => ?_)
    refine lv_iload_n hx hb dX4_readBeat_64 rfl (lv_at hl 0 rfl) ?_
    refine a_if_eq (u := 1) (tgt := 75) hx hb dX4_readBeat_65 (by decide) (by decide) (fun c_42 => absurd c_42 (by subst hj1; omega)) (fun c_42 => ?_)
    refine lv_aload_n hx hb dX4_readBeat_68 rfl (lv_at hl 2 rfl) ?_
    refine t_get (D := D) (L := L) (f := f_6) (ci := 4) (v := .ref (g 14)) (C := RX4) (T := TX4) (N := 11) hx hb hts (by decide +kernel) hown hK.1 hP (gm_13 hG) fb_9 rfl 1 (by decide) (hts (.fieldLink RX4 41 "JugglingHall$Reader" "tokens" "LJugglingHall$Tokens;") (by decide +kernel)) (fun _ h9 => h9) rfl dX4_readBeat_69 ?_
    refine call_p (va_runV (As := []) (rest := []) ⟨hx, hb, hml, hown, hts⟩ (t_X8_advancem l D cI cR cM _ (ks := ks) (vs := vs) (i := i)  hj hG hI  (by first | assumption | omega | (subst hj1; omega)) (hC0)) (cwV 0 hts gX4_readBeat_X8_advance rfl rfl rfl (by decide +kernel) ⟨Nat.le_of_ble_eq_true rfl, Nat.le_of_ble_eq_true rfl⟩) (pre_T hK hP hD (gm_14 hG) fg_12 rfl) rfl rfl hl.1 rfl (lv_room (Nat.le_of_ble_eq_true rfl)) dX4_readBeat_72 ⟨Nat.le_of_ble_eq_true rfl, Nat.le_of_ble_eq_true rfl⟩) hD hS hA (fun u_43 H locs hw hP hD hS => ?_)
    obtain ⟨f_43, e0_43⟩ : ∃ x, x = u_43 := ⟨_, rfl⟩
    subst e0_43
    obtain ⟨hI, hF_43, hC_43, hfx_43⟩ : IN jn cI cR cM g L S f_43 ∧ FR S [14] f_6 f_43 ∧ (TKm cI g ks vs f_43 ((i) + 1)) ∧ (FX S (fun _ => False) [14] f_6 f_43) := hw
    have hP : va_P D vwCl (va_pl L f_43) H := hP
    have hD : va_D A (va_pl L f_43) := hD
    have hF := FR_tr hF hF_43 (by decide)
    have hFX := FX_tr hFX hfx_43 (fun _ h9 => h9.elim) (by decide)
    have fb_44 : f_43 b = .inr (5, [.int (nI jn), .int (nI (2 * jn)), .ref b_p, .int b_l]) := FR_at hF_43 s_b (show (0 : Nat) ∉ ([14] : List Nat) by decide) fb_7
    have fb_45 : f_43 b_p = .inl (cI, b_n, .inl b_c) := FR_at hF_43 s_b_p (show (1 : Nat) ∉ ([14] : List Nat) by decide) fb_8
    have fb_46 : f_43 (g 13) = .inr (4, [.int (nI jn), .ref (g 14), .ref (g 12), .ref (g 22), .ref (g 34), .ref (g 23), .ref (g 24), .ref (g 25), .ref (g 26), .int fa_1, .int pl_1]) := FR_at hF_43 (gs_13 hG) (show (13 : Nat) ∉ ([14] : List Nat) by decide) fb_9
    have hCm_43 : TKm cI g ks vs f_43 (i + 1) := hC_43
    have hRW_43 : RWf cI jn S f_43 (g 24) 1 (fun _ => 0) := RWf_fx hR0 hfx_43 (fun h9 => h9) (by decide)
    refine lv_aload_n hx hb dX4_readBeat_75 rfl (lv_at hl 2 rfl) ?_
    refine lv_iload_n hx hb dX4_readBeat_76 rfl (lv_at hl 1 rfl) ?_
    have hz_47 : (0 : Int32).toInt = 0 := by decide
    refine call_p (va_runV (As := [.int 0]) (rest := []) ⟨hx, hb, hml, hown, hts⟩ (t_X4_readThrowm l D cI cR cM _ (ks := ks) (vs := vs) (i := i + 1) (w := (fun _ => 0))  hj hG hI  (by first | assumption | omega | (subst hj1; omega)) (hCm_43) (by first | assumption | omega | (subst hj1; omega)) (by decide) (hRW_43)) (cwV 1 hts gX4_readBeat_X4_readThrow rfl rfl rfl (by decide +kernel) ⟨Nat.le_of_ble_eq_true rfl, Nat.le_of_ble_eq_true rfl⟩) (pre_T hK hP hD (gm_13 hG) fb_46 rfl) rfl rfl hl.1 rfl (lv_room (Nat.le_of_ble_eq_true rfl)) dX4_readBeat_77 ⟨Nat.le_of_ble_eq_true rfl, Nat.le_of_ble_eq_true rfl⟩) hD hS hA (fun u_48 H locs hw hP hD hS => ?_)
    obtain ⟨r_48, f_48⟩ := u_48
    obtain ⟨hI, hF_48, hp_48, hfx_48, h01_48⟩ : IN jn cI cR cM g L S f_48 ∧ FR S [1, 13, 14] f_43 f_48 ∧ ((r_48.toInt = 1 ∧ ThOk ks vs (i + 1) ∧ TKm cI g ks vs f_48 (thN ks (i + 1)) ∧ ∃ v9, insW (fun _ => 0) 0 (vs (i + 1)) = some v9 ∧ RWf cI jn S f_48 (g 24) 1 v9) ∨ (r_48.toInt = 0 ∧ (¬ ThOk ks vs (i + 1) ∨ insW (fun _ => 0) 0 (vs (i + 1)) = none))) ∧ (FX S (fun a9 => a9 = g 24) [13, 14] f_43 f_48) ∧ (r_48.toInt = 0 ∨ r_48.toInt = 1) := hw
    have hP : va_P D vwCl (va_pl L f_48) H := hP
    have hD : va_D A (va_pl L f_48) := hD
    have hF := FR_tr hF hF_48 (by decide)
    have hFX := FX_tr hFX hfx_48 (fun a9 h9 => Or.inr h9) (by decide)
    have fb_49 : f_48 b = .inr (5, [.int (nI jn), .int (nI (2 * jn)), .ref b_p, .int b_l]) := FR_at hF_48 s_b (show (0 : Nat) ∉ ([1, 13, 14] : List Nat) by decide) fb_44
    have fb_50 : f_48 b_p = .inl (cI, b_n, .inl b_c) := (hfx_48 b_p (by rw [own_1 s_b_p]; exact hne) (by rw [s_b_p]; exact (show (1 : Nat) ∉ ([13, 14] : List Nat) by decide))).trans fb_45
    refine a_if_eq (u := r_48.toInt) (tgt := 104) hx hb dX4_readBeat_80 (by decide) (rfl) (fun c_51 => ?_) (fun c_51 => ?_)
    · have hbt_48 : ¬ ThOk ks vs (i + 1) := by
        intro q8
        rcases hp_48 with h9 | h9
        · have := h9.1; omega
        · rcases h9.2 with h8 | h8
          · exact h8 q8
          · obtain ⟨u9, hu9, -⟩ := ins_z (vs (i + 1)) (by have := (hKO (i + 1)).2.1 q8.1; omega)
            rw [h8] at hu9; cases hu9
      refine lv_iconst (v := 0) hx hb dX4_readBeat_104 (by decide) ?_
      have hz_52 : (0 : Int32).toInt = 0 := by decide
      exact g_zret ((0 : Int32), f_48) hx hb hr hlocks hS (by first | exact Or.inl rfl | exact Or.inr rfl) rfl (⟨hI, hF, show ((0 : Int32).toInt = 1 ∧ ∃ (a9 b9 : Int) (j9 : Nat), BtR ks vs i a9 b9 j9 ∧ TKm cI g ks vs f_48 j9 ∧ 2 * (b_l.toInt + 1) ≤ (b_n : Int) ∧ RWf cI jn S f_48 b (b_l.toInt + 1) (fupd (fupd w (2 * b_l.toInt) a9) (2 * b_l.toInt + 1) b9)) ∨ ((0 : Int32).toInt = 0 ∧ (BtF ks vs i ∨ (b_n : Int) < 2 * (b_l.toInt + 1))) from (Or.inr ⟨rfl, Or.inl (Or.inr ⟨by omega, fun q9 => hbt_48 q9.1⟩)⟩), show FX S (fun a9 => a9 = b ∨ a9 = g 24) [13, 14] f f_48 from (by first | assumption | omega | (subst hj1; omega)), show (0 : Int32).toInt = 0 ∨ (0 : Int32).toInt = 1 from (by first | assumption | omega | (subst hj1; omega))⟩) hP hD hQ (Nat.le_of_ble_eq_true rfl) (Nat.le_of_ble_eq_true rfl) dX4_readBeat_105
    · obtain ⟨ht1_48, ht2_48, ht3_48, v_48, ht4_48, ht5_48⟩ := hp_48.resolve_right (fun q9 => by have := q9.1; omega)
      obtain ⟨u_48, hu1_48, hu2_48, hu3_48⟩ := (ins_z (vs (i + 1)) (by have := (hKO (i + 1)).2.1 ht2_48.1; omega))
      rw [ht4_48] at hu1_48
      cases hu1_48
      refine lv_iload_n hx hb dX4_readBeat_83 rfl (lv_at hl 0 rfl) ?_
      refine a_if_eq (u := 1) (tgt := 106) hx hb dX4_readBeat_84 (by decide) (by decide) (fun c_53 => absurd c_53 (by subst hj1; omega)) (fun c_53 => ?_)
      refine lv_aload_n hx hb dX4_readBeat_87 rfl (lv_at hl 2 rfl) ?_
      refine lv_iload_n hx hb dX4_readBeat_88 rfl (lv_at hl 1 rfl) ?_
      have hz_54 : (0 : Int32).toInt = 0 := by decide
      obtain ⟨fa_55, pl_55, fg_55⟩ := op_13 hI (gm_13 hG) (gs_13 hG)
      refine call_p (va_runV (As := [.int 0]) (rest := []) ⟨hx, hb, hml, hown, hts⟩ (t_X4_readThrowm l D cI cR cM _ (ks := ks) (vs := vs) (i := thN ks (i + 1)) (w := v_48)  hj hG hI  (by first | assumption | omega | (subst hj1; omega)) (ht3_48) (by first | assumption | omega | (subst hj1; omega)) (by decide) (ht5_48)) (cwV 1 hts gX4_readBeat_X4_readThrow rfl rfl rfl (by decide +kernel) ⟨Nat.le_of_ble_eq_true rfl, Nat.le_of_ble_eq_true rfl⟩) (pre_T hK hP hD (gm_13 hG) fg_55 rfl) rfl rfl hl.1 rfl (lv_room (Nat.le_of_ble_eq_true rfl)) dX4_readBeat_89 ⟨Nat.le_of_ble_eq_true rfl, Nat.le_of_ble_eq_true rfl⟩) hD hS hA (fun u_56 H locs hw hP hD hS => ?_)
      obtain ⟨r_56, f_56⟩ := u_56
      obtain ⟨hI, hF_56, hp_56, hfx_56, h01_56⟩ : IN jn cI cR cM g L S f_56 ∧ FR S [1, 13, 14] f_48 f_56 ∧ ((r_56.toInt = 1 ∧ ThOk ks vs (thN ks (i + 1)) ∧ TKm cI g ks vs f_56 (thN ks (thN ks (i + 1))) ∧ ∃ v9, insW v_48 0 (vs (thN ks (i + 1))) = some v9 ∧ RWf cI jn S f_56 (g 24) 1 v9) ∨ (r_56.toInt = 0 ∧ (¬ ThOk ks vs (thN ks (i + 1)) ∨ insW v_48 0 (vs (thN ks (i + 1))) = none))) ∧ (FX S (fun a9 => a9 = g 24) [13, 14] f_48 f_56) ∧ (r_56.toInt = 0 ∨ r_56.toInt = 1) := hw
      have hP : va_P D vwCl (va_pl L f_56) H := hP
      have hD : va_D A (va_pl L f_56) := hD
      have hF := FR_tr hF hF_56 (by decide)
      have hFX := FX_tr hFX hfx_56 (fun a9 h9 => Or.inr h9) (by decide)
      have fb_57 : f_56 b = .inr (5, [.int (nI jn), .int (nI (2 * jn)), .ref b_p, .int b_l]) := FR_at hF_56 s_b (show (0 : Nat) ∉ ([1, 13, 14] : List Nat) by decide) fb_49
      have fb_58 : f_56 b_p = .inl (cI, b_n, .inl b_c) := (hfx_56 b_p (by rw [own_1 s_b_p]; exact hne) (by rw [s_b_p]; exact (show (1 : Nat) ∉ ([13, 14] : List Nat) by decide))).trans fb_50
      refine a_if_eq (u := r_56.toInt) (tgt := 104) hx hb dX4_readBeat_92 (by decide) (rfl) (fun c_59 => ?_) (fun c_59 => ?_)
      · have hbt_56 : ¬ ThOk ks vs (thN ks (i + 1)) := by
          intro q8
          rcases hp_56 with h9 | h9
          · have := h9.1; omega
          · rcases h9.2 with h8 | h8
            · exact h8 q8
            · obtain ⟨u9, hu9, -⟩ := ins_2 (h := vs (i + 1)) (k := vs (thN ks (i + 1))) (by have := (hKO (i + 1)).2.1 ht2_48.1; omega) (by have := (hKO (thN ks (i + 1))).2.1 q8.1; omega) hu2_48 hu3_48
              rw [h8] at hu9; cases hu9
        refine lv_iconst (v := 0) hx hb dX4_readBeat_104 (by decide) ?_
        have hz_60 : (0 : Int32).toInt = 0 := by decide
        exact g_zret ((0 : Int32), f_56) hx hb hr hlocks hS (by first | exact Or.inl rfl | exact Or.inr rfl) rfl (⟨hI, hF, show ((0 : Int32).toInt = 1 ∧ ∃ (a9 b9 : Int) (j9 : Nat), BtR ks vs i a9 b9 j9 ∧ TKm cI g ks vs f_56 j9 ∧ 2 * (b_l.toInt + 1) ≤ (b_n : Int) ∧ RWf cI jn S f_56 b (b_l.toInt + 1) (fupd (fupd w (2 * b_l.toInt) a9) (2 * b_l.toInt + 1) b9)) ∨ ((0 : Int32).toInt = 0 ∧ (BtF ks vs i ∨ (b_n : Int) < 2 * (b_l.toInt + 1))) from (Or.inr ⟨rfl, Or.inl (Or.inr ⟨by omega, fun q9 => hbt_56 q9.2.1⟩)⟩), show FX S (fun a9 => a9 = b ∨ a9 = g 24) [13, 14] f f_56 from (by first | assumption | omega | (subst hj1; omega)), show (0 : Int32).toInt = 0 ∨ (0 : Int32).toInt = 1 from (by first | assumption | omega | (subst hj1; omega))⟩) hP hD hQ (Nat.le_of_ble_eq_true rfl) (Nat.le_of_ble_eq_true rfl) dX4_readBeat_105
      · obtain ⟨ht1_56, ht2_56, ht3_56, v_56, ht4_56, ht5_56⟩ := hp_56.resolve_right (fun q9 => by have := q9.1; omega)
        obtain ⟨u_56, hu1_56, hu2_56⟩ := (ins_2 (h := vs (i + 1)) (k := vs (thN ks (i + 1))) (by have := (hKO (i + 1)).2.1 ht2_48.1; omega) (by have := (hKO (thN ks (i + 1))).2.1 ht2_56.1; omega) hu2_48 hu3_48)
        rw [ht4_56] at hu1_56
        cases hu1_56
        refine lv_aload_n hx hb dX4_readBeat_95 rfl (lv_at hl 2 rfl) ?_
        refine lv_bipush (v := 93) hx hb dX4_readBeat_96 (by decide) ?_
        have hz_61 : (93 : Int32).toInt = 93 := by decide
        obtain ⟨fa_62, pl_62, fg_62⟩ := op_13 hI (gm_13 hG) (gs_13 hG)
        refine call_p (va_runV (As := [.int 93]) (rest := []) ⟨hx, hb, hml, hown, hts⟩ (t_X4_expectm l D cI cR cM _ (ks := ks) (vs := vs) (i := thN ks (thN ks (i + 1))) (K9 := 93)  hj hG hI  (by first | assumption | omega | (subst hj1; omega)) (ht3_56) (by first | assumption | omega | (subst hj1; omega)) (by decide) (Or.inr ⟨by decide, by decide⟩)) (cwV 1 hts gX4_readBeat_X4_expect rfl rfl rfl (by decide +kernel) ⟨Nat.le_of_ble_eq_true rfl, Nat.le_of_ble_eq_true rfl⟩) (pre_T hK hP hD (gm_13 hG) fg_62 rfl) rfl rfl hl.1 rfl (lv_room (Nat.le_of_ble_eq_true rfl)) dX4_readBeat_98 ⟨Nat.le_of_ble_eq_true rfl, Nat.le_of_ble_eq_true rfl⟩) hD hS hA (fun u_63 H locs hw hP hD hS => ?_)
        obtain ⟨r_63, f_63⟩ := u_63
        obtain ⟨hI, hF_63, hp_63, hfx_63, h01_63⟩ : IN jn cI cR cM g L S f_63 ∧ FR S [13, 14] f_56 f_63 ∧ ((r_63.toInt = 1 ∧ ks (thN ks (thN ks (i + 1))) = 93 ∧ TKm cI g ks vs f_63 ((thN ks (thN ks (i + 1))) + 1)) ∨ (r_63.toInt = 0 ∧ ks (thN ks (thN ks (i + 1))) ≠ 93)) ∧ (FX S (fun _ => False) [13, 14] f_56 f_63) ∧ (r_63.toInt = 0 ∨ r_63.toInt = 1) := hw
        have hP : va_P D vwCl (va_pl L f_63) H := hP
        have hD : va_D A (va_pl L f_63) := hD
        have hF := FR_tr hF hF_63 (by decide)
        have hFX := FX_tr hFX hfx_63 (fun _ h9 => h9.elim) (by decide)
        have fb_64 : f_63 b = .inr (5, [.int (nI jn), .int (nI (2 * jn)), .ref b_p, .int b_l]) := FR_at hF_63 s_b (show (0 : Nat) ∉ ([13, 14] : List Nat) by decide) fb_57
        have fb_65 : f_63 b_p = .inl (cI, b_n, .inl b_c) := FR_at hF_63 s_b_p (show (1 : Nat) ∉ ([13, 14] : List Nat) by decide) fb_58
        refine a_if_ne (u := r_63.toInt) (tgt := 106) hx hb dX4_readBeat_101 (by decide) (rfl) (fun c_66 => ?_) (fun c_66 => ?_)
        · obtain ⟨hq1_63, hq2_63, hq3_63⟩ := hp_63.resolve_right (fun q9 => by have := q9.1; omega)
          have hRW_63 : RWf cI jn S f_63 (g 24) 1 v_56 := RWf_fx ht5_56 hfx_63 (fun h9 => h9) (by decide)
          refine lv_iinc (v := 1) (lv' := [(2, .int 1), (3, .int 1), (0, .ref (g 13)), (1, .ref b)]) hx hb dX4_readBeat_106 hl (k := 1) rfl (by decide) (by decide) rfl (fun ls hl => ?_)
          refine lv_goto (tgt := 10) hx hb dX4_readBeat_109 (by decide) ?_
          refine lv_iload_n hx hb dX4_readBeat_10 rfl (lv_at hl 0 rfl) ?_
          refine lv_aload_n hx hb dX4_readBeat_11 rfl (lv_at hl 2 rfl) ?_
          obtain ⟨fa_67, pl_67, fg_67⟩ := op_13 hI (gm_13 hG) (gs_13 hG)
          refine t_get (D := D) (L := L) (f := f_63) (ci := 4) (v := .int (nI jn)) (C := RX4) (T := TX4) (N := 11) hx hb hts (by decide +kernel) hown hK.1 hP (gm_13 hG) fg_67 rfl 0 (by decide) (hts (.fieldLink RX4 38 "JugglingHall$Reader" "jugglers" "I") (by decide +kernel)) (fun _ h9 => h9) rfl dX4_readBeat_12 ?_
          refine a_icmp_ge (u := 1) (v := (jn : Int)) (tgt := 112) hx hb dX4_readBeat_15 (by decide) (by decide) (nI_toInt (by subst hj1; omega)) (fun c_68 => ?_) (fun c_68 => absurd c_68 (by subst hj1; omega))
          refine lv_aload_n hx hb dX4_readBeat_112 rfl (lv_at hl 2 rfl) ?_
          refine t_get (D := D) (L := L) (f := f_63) (ci := 4) (v := .int (nI jn)) (C := RX4) (T := TX4) (N := 11) hx hb hts (by decide +kernel) hown hK.1 hP (gm_13 hG) fg_67 rfl 0 (by decide) (hts (.fieldLink RX4 38 "JugglingHall$Reader" "jugglers" "I") (by decide +kernel)) (fun _ h9 => h9) rfl dX4_readBeat_113 ?_
          refine lv_iconst (v := 1) hx hb dX4_readBeat_116 (by decide) ?_
          refine a_icmp_le (u := (jn : Int)) (v := 1) (tgt := 131) hx hb dX4_readBeat_117 (by decide) (nI_toInt (by subst hj1; omega)) (by decide) (fun c_69 => ?_) (fun c_69 => absurd c_69 (by subst hj1; omega))
          refine lv_aload_n hx hb dX4_readBeat_131 rfl (lv_at hl 3 rfl) ?_
          refine lv_aload_n hx hb dX4_readBeat_132 rfl (lv_at hl 2 rfl) ?_
          refine t_get (D := D) (L := L) (f := f_63) (ci := 4) (v := .ref (g 24)) (C := RX4) (T := TX4) (N := 11) hx hb hts (by decide +kernel) hown hK.1 hP (gm_13 hG) fg_67 rfl 6 (by decide) (hts (.fieldLink RX4 52 "JugglingHall$Reader" "beat" "LJugglingHall$Row;") (by decide +kernel)) (fun _ h9 => h9) rfl dX4_readBeat_133 ?_
          refine lv_iconst (v := 0) hx hb dX4_readBeat_136 (by decide) ?_
          refine lv_iconst (v := 1) hx hb dX4_readBeat_137 (by decide) ?_
          obtain ⟨len_70, fg_70, v1_70, v2_70, v3_70, mp_70, sp_70⟩ := op_0 hI m_3 s_3
          obtain ⟨w1_70, w2_70, w3_70, w4_70, w5_70⟩ := lenw hj v1_70 v2_70 v3_70
          obtain ⟨c_71, fg_71, iv0_71⟩ := op_1 hI mp_4 sp_4
          obtain ⟨hl_72, hc_72⟩ := RWf_at hRW_63 s_3 fg_70 fg_71
          have hz_73 : (0 : Int32).toInt = 0 := by decide
          have hz_74 : (1 : Int32).toInt = 1 := by decide
          refine call_p (va_runV (As := [.ref (g 24), .int 0, .int 1]) (rest := []) ⟨hx, hb, hml, hown, hts⟩ (t_X5_appendm l D cI cR cM _ (w := w) (v := v_56)  hj hG hI m_b s_b fb_64 fb_65 m_3 s_3 fg_70 fg_71 (by first | assumption | omega | (subst hj1; omega)) (by rw [show (0 : Int32).toInt = 0 from rfl, show (1 : Int32).toInt = 1 from rfl]; omega) (hw) (by rw [hl_72]; exact hc_72)) (cwV 3 hts gX4_readBeat_X5_append rfl rfl rfl (by decide +kernel) ⟨Nat.le_of_ble_eq_true rfl, Nat.le_of_ble_eq_true rfl⟩) (pre_T hK hP hD m_b fb_64 rfl) rfl rfl hl.1 rfl (lv_room (Nat.le_of_ble_eq_true rfl)) dX4_readBeat_138 ⟨Nat.le_of_ble_eq_true rfl, Nat.le_of_ble_eq_true rfl⟩) hD hS hA (fun u_75 H locs hw hP hD hS => ?_)
          obtain ⟨r_75, f_75⟩ := u_75
          obtain ⟨hI, hF_75, hp_75, hfx_75, h01_75⟩ : IN jn cI cR cM g L S f_75 ∧ FR S [0, 1] f_63 f_75 ∧ ((r_75.toInt = 1 ∧ 2 * (b_l.toInt + ((1 : Int32).toInt - (0 : Int32).toInt)) ≤ (b_n : Int) ∧ RWf cI jn S f_75 b (b_l.toInt + ((1 : Int32).toInt - (0 : Int32).toInt)) (fun j => if j < 2 * b_l.toInt then w j else v_56 (2 * (0 : Int32).toInt + (j - 2 * b_l.toInt)))) ∨ (r_75.toInt = 0 ∧ (b_n : Int) < 2 * (b_l.toInt + ((1 : Int32).toInt - (0 : Int32).toInt)))) ∧ (FX S (fun a9 => a9 = b) [] f_63 f_75) ∧ (r_75.toInt = 0 ∨ r_75.toInt = 1) := hw
          have hP : va_P D vwCl (va_pl L f_75) H := hP
          have hD : va_D A (va_pl L f_75) := hD
          have hF := FR_tr hF hF_75 (by decide)
          have hFX := FX_tr hFX hfx_75 (fun a9 h9 => Or.inl h9) (by decide)
          have fb_76 : f_75 (g 13) = .inr (4, [.int (nI jn), .ref (g 14), .ref (g 12), .ref (g 22), .ref (g 34), .ref (g 23), .ref (g 24), .ref (g 25), .ref (g 26), .int fa_67, .int pl_67]) := FR_at hF_75 (gs_13 hG) (show (13 : Nat) ∉ ([0, 1] : List Nat) by decide) fg_67
          refine a_if_ne (u := r_75.toInt) (tgt := 152) hx hb dX4_readBeat_141 (by decide) (rfl) (fun c_77 => ?_) (fun c_77 => ?_)
          · refine lv_iconst (v := 1) hx hb dX4_readBeat_152 (by decide) ?_
            refine lv_goto (tgt := 157) hx hb dX4_readBeat_153 (by decide) ?_
            have hz_78 : (1 : Int32).toInt = 1 := by decide
            exact g_zret ((1 : Int32), f_75) hx hb hr hlocks hS (by first | exact Or.inl rfl | exact Or.inr rfl) rfl (⟨hI, hF, show ((1 : Int32).toInt = 1 ∧ ∃ (a9 b9 : Int) (j9 : Nat), BtR ks vs i a9 b9 j9 ∧ TKm cI g ks vs f_75 j9 ∧ 2 * (b_l.toInt + 1) ≤ (b_n : Int) ∧ RWf cI jn S f_75 b (b_l.toInt + 1) (fupd (fupd w (2 * b_l.toInt) a9) (2 * b_l.toInt + 1) b9)) ∨ ((1 : Int32).toInt = 0 ∧ (BtF ks vs i ∨ (b_n : Int) < 2 * (b_l.toInt + 1))) from (by
              obtain ⟨-, h7, h8⟩ := hp_75.resolve_right (fun q7 => by have := q7.1; omega)
              rw [show (0 : Int32).toInt = 0 from rfl, show (1 : Int32).toInt = 1 from rfl, show b_l.toInt + (1 - 0) = b_l.toInt + 1 by omega] at h7
              rw [show b_l.toInt + ((1 : Int32).toInt - (0 : Int32).toInt) = b_l.toInt + 1 by rw [show (0 : Int32).toInt = 0 from rfl, show (1 : Int32).toInt = 1 from rfl]; omega] at h8
              have hC9 := TKm_fr hq3_63 hG hF_75 (by decide)
              rcases hu2_56 with ⟨h4, h5, h6⟩ | ⟨h4, h5, h6⟩
              · exact Or.inl ⟨rfl, vs (i + 1), vs (thN ks (i + 1)), _, Or.inr ⟨by omega, ht2_48, ht2_56, hq2_63, rfl, Or.inl ⟨h4, rfl, rfl⟩⟩, hC9, h7, RWf_c h8 (fun i9 j0 j1 => ap_b (y := 0) rfl h5 h6 j0 j1)⟩
              · exact Or.inl ⟨rfl, vs (thN ks (i + 1)), vs (i + 1), _, Or.inr ⟨by omega, ht2_48, ht2_56, hq2_63, rfl, Or.inr ⟨h4, rfl, rfl⟩⟩, hC9, h7, RWf_c h8 (fun i9 j0 j1 => ap_b (y := 0) rfl h5 h6 j0 j1)⟩), show FX S (fun a9 => a9 = b ∨ a9 = g 24) [13, 14] f f_75 from (by first | assumption | omega | (subst hj1; omega)), show (1 : Int32).toInt = 0 ∨ (1 : Int32).toInt = 1 from (by first | assumption | omega | (subst hj1; omega))⟩) hP hD hQ (Nat.le_of_ble_eq_true rfl) (Nat.le_of_ble_eq_true rfl) dX4_readBeat_157
          · refine lv_aload_n hx hb dX4_readBeat_144 rfl (lv_at hl 2 rfl) ?_
            refine lv_iconst (v := 4) hx hb dX4_readBeat_145 (by decide) ?_
            have hz_79 : (4 : Int32).toInt = 4 := by decide
            refine call_p (va_runV (As := [.int 4]) (rest := []) ⟨hx, hb, hml, hown, hts⟩ (t_X4_failBehind l D cI cR cM _   hj hG hI  ) (cwV 1 hts gX4_readBeat_X4_failBehind rfl rfl rfl (by decide +kernel) ⟨Nat.le_of_ble_eq_true rfl, Nat.le_of_ble_eq_true rfl⟩) (pre_T hK hP hD (gm_13 hG) fb_76 rfl) rfl rfl hl.1 rfl (lv_room (Nat.le_of_ble_eq_true rfl)) dX4_readBeat_146 ⟨Nat.le_of_ble_eq_true rfl, Nat.le_of_ble_eq_true rfl⟩) hD hS hA (fun u_80 H locs hw hP hD hS => ?_)
            obtain ⟨r_80, f_80⟩ := u_80
            obtain ⟨hI, hF_80, h0_80, h01_80⟩ : IN jn cI cR cM g L S f_80 ∧ FR S [13] f_75 f_80 ∧ (r_80.toInt = 0) ∧ (r_80.toInt = 0 ∨ r_80.toInt = 1) := hw
            have hP : va_P D vwCl (va_pl L f_80) H := hP
            have hD : va_D A (va_pl L f_80) := hD
            have hF := FR_tr hF hF_80 (by decide)
            have hFX := FX_trR hFX hF_80 (by decide) (by decide)
            refine a_if_eq (u := r_80.toInt) (tgt := 156) hx hb dX4_readBeat_149 (by decide) (rfl) (fun c_81 => ?_) (fun c_81 => ?_)
            · refine lv_iconst (v := 0) hx hb dX4_readBeat_156 (by decide) ?_
              have hz_82 : (0 : Int32).toInt = 0 := by decide
              exact g_zret ((0 : Int32), f_80) hx hb hr hlocks hS (by first | exact Or.inl rfl | exact Or.inr rfl) rfl (⟨hI, hF, show ((0 : Int32).toInt = 1 ∧ ∃ (a9 b9 : Int) (j9 : Nat), BtR ks vs i a9 b9 j9 ∧ TKm cI g ks vs f_80 j9 ∧ 2 * (b_l.toInt + 1) ≤ (b_n : Int) ∧ RWf cI jn S f_80 b (b_l.toInt + 1) (fupd (fupd w (2 * b_l.toInt) a9) (2 * b_l.toInt + 1) b9)) ∨ ((0 : Int32).toInt = 0 ∧ (BtF ks vs i ∨ (b_n : Int) < 2 * (b_l.toInt + 1))) from (Or.inr ⟨rfl, Or.inr (by have h8 := (hp_75.resolve_left (fun q7 => by have := q7.1; omega)).2; rw [show (0 : Int32).toInt = 0 from rfl, show (1 : Int32).toInt = 1 from rfl] at h8; omega)⟩), show FX S (fun a9 => a9 = b ∨ a9 = g 24) [13, 14] f f_80 from (by first | assumption | omega | (subst hj1; omega)), show (0 : Int32).toInt = 0 ∨ (0 : Int32).toInt = 1 from (by first | assumption | omega | (subst hj1; omega))⟩) hP hD hQ (Nat.le_of_ble_eq_true rfl) (Nat.le_of_ble_eq_true rfl) dX4_readBeat_157
            · refine lv_iconst (v := 1) hx hb dX4_readBeat_152 (by decide) ?_
              refine lv_goto (tgt := 157) hx hb dX4_readBeat_153 (by decide) ?_
              have hz_83 : (1 : Int32).toInt = 1 := by decide
              exact g_zret ((1 : Int32), f_80) hx hb hr hlocks hS (by first | exact Or.inl rfl | exact Or.inr rfl) rfl (⟨hI, hF, show ((1 : Int32).toInt = 1 ∧ ∃ (a9 b9 : Int) (j9 : Nat), BtR ks vs i a9 b9 j9 ∧ TKm cI g ks vs f_80 j9 ∧ 2 * (b_l.toInt + 1) ≤ (b_n : Int) ∧ RWf cI jn S f_80 b (b_l.toInt + 1) (fupd (fupd w (2 * b_l.toInt) a9) (2 * b_l.toInt + 1) b9)) ∨ ((1 : Int32).toInt = 0 ∧ (BtF ks vs i ∨ (b_n : Int) < 2 * (b_l.toInt + 1))) from (by exfalso; omega), show FX S (fun a9 => a9 = b ∨ a9 = g 24) [13, 14] f f_80 from (by first | assumption | omega | (subst hj1; omega)), show (1 : Int32).toInt = 0 ∨ (1 : Int32).toInt = 1 from (by first | assumption | omega | (subst hj1; omega))⟩) hP hD hQ (Nat.le_of_ble_eq_true rfl) (Nat.le_of_ble_eq_true rfl) dX4_readBeat_157
        · refine lv_iconst (v := 0) hx hb dX4_readBeat_104 (by decide) ?_
          have hz_84 : (0 : Int32).toInt = 0 := by decide
          exact g_zret ((0 : Int32), f_63) hx hb hr hlocks hS (by first | exact Or.inl rfl | exact Or.inr rfl) rfl (⟨hI, hF, show ((0 : Int32).toInt = 1 ∧ ∃ (a9 b9 : Int) (j9 : Nat), BtR ks vs i a9 b9 j9 ∧ TKm cI g ks vs f_63 j9 ∧ 2 * (b_l.toInt + 1) ≤ (b_n : Int) ∧ RWf cI jn S f_63 b (b_l.toInt + 1) (fupd (fupd w (2 * b_l.toInt) a9) (2 * b_l.toInt + 1) b9)) ∨ ((0 : Int32).toInt = 0 ∧ (BtF ks vs i ∨ (b_n : Int) < 2 * (b_l.toInt + 1))) from (Or.inr ⟨rfl, Or.inl (Or.inr ⟨by omega, fun q9 => by
            have h8 := hp_63.resolve_left (fun q7 => by have := q7.1; omega)
            exact h8.2 q9.2.2⟩)⟩), show FX S (fun a9 => a9 = b ∨ a9 = g 24) [13, 14] f f_63 from (by first | assumption | omega | (subst hj1; omega)), show (0 : Int32).toInt = 0 ∨ (0 : Int32).toInt = 1 from (by first | assumption | omega | (subst hj1; omega))⟩) hP hD hQ (Nat.le_of_ble_eq_true rfl) (Nat.le_of_ble_eq_true rfl) dX4_readBeat_105
