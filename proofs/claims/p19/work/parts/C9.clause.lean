/-- how many marks are held -/
def CNf (f : Nat → va_E) (a : Nat) (n : Int) : Prop := ∃ (p : Nat) (c : Int32), f a = .inr (3, [.ref p, .int c]) ∧ c.toInt = n
theorem CNf_at {f : Nat → va_E} {a p : Nat} {n : Int} {c : Int32} (h : CNf f a n) (hf : f a = .inr (3, [.ref p, .int c])) : c.toInt = n := by
  obtain ⟨q, d, h1, h2⟩ := h
  rw [hf] at h1
  cases h1
  exact h2
theorem CNf_fr {L : List Nat} {S : Sg} {f f1 : Nat → va_E} {T : List Nat} {a p : Nat} {n : Int} (h : CNf f a n) (hs : S a = (2, p, 0)) (hF : FR S T f f1) (ht : 2 ∉ T) : CNf f1 a n := by
  obtain ⟨q, d, h1, h2⟩ := h
  exact ⟨q, d, by rw [hF _ (by rw [hs]; exact ht)]; exact h1, h2⟩
/-- a letter is told anew -/
theorem EnvC_set {cI cR : ClassId} {jn : Nat} {g lv gr : Nat → Nat} {L : List Nat} {S : Sg} {f f1 : Nat → va_E} {E : Env1} {F : Int → Int} {T T2 : List Nat} {l t : Int} {u : Int → Int} {r : Nat} (h : EnvC cI cR jn g lv gr S f E F) (hG : SG g L S) (hRD : RDC g lv gr S) (hF : FR S T f f1) (hX : FX S (fun a => a = r) T2 f f1) (ht : ∀ t ∈ ([12, 20, 23] : List Nat), t ∉ T) (h2 : 0 ∉ T2 ∧ 1 ∉ T2) (hr : r = gr l.toNat) (l0 : 0 ≤ l) (l1 : l < 8) (hw : RWf cI jn S f1 r t u) (t0 : 0 < t) : EnvC cI cR jn g lv gr S f1 (eup E l (t, u)) (fupd F l 1) := by
  obtain ⟨⟨ch, h1, h3⟩, cb, tm, lk, h4, h5, h6⟩ := h
  refine ⟨⟨ch, ?_, h3⟩, cb, tm, lk, ?_, ?_, fun k k0 k1 => ?_⟩
  · rw [hF _ (by rw [gs_23 hG]; exact ht 23 (by decide))]; exact h1
  · rw [hF _ (by rw [gs_20 hG]; exact ht 20 (by decide))]; exact h4
  · rw [hF _ (by rw [gs_12 hG]; exact ht 12 (by decide))]; exact h5
  · by_cases e : k = l
    · subst e
      rw [eu_s, fu_s]
      exact ⟨fun _ => ⟨t0, by rw [← hr]; exact hw⟩, fun q => absurd rfl q⟩
    · rw [eu_n e, fu_n e]
      have ne : gr k.toNat ≠ r := by rw [hr]; exact hRD.2.2.2.2.2 k.toNat l.toNat (by omega) (by omega) (by omega)
      obtain ⟨q1, q2⟩ := h6 k k0 k1
      refine ⟨fun e => ⟨(q1 e).1, RWf_fx (q1 e).2 hX ne h2⟩, fun e => ?_⟩
      obtain ⟨⟨w9, q3⟩, q4⟩ := q2 e
      refine ⟨⟨w9, RWf_fx q3 hX ne h2⟩, ?_⟩
      rcases q4 with q4 | ⟨r9, r1, r2, r3, r4⟩
      · exact Or.inl q4
      · refine Or.inr ⟨r9, r1, r2, RWf_fx r3 hX (fun e9 => r4 ?_) h2, r4⟩
        exact Or.inr (Or.inl ⟨l.toNat, by omega, by rw [e9, hr]⟩)
theorem MSb_0 {cI : ClassId} {jn : Nat} {g lv : Nat → Nat} {S : Sg} {f : Nat → va_E} : MSb cI jn g lv S f 0 0 (fun _ => 0) (fun _ => 0) (fun _ => 0) (fun _ => 0) := ⟨by omega, fun k _ _ => ⟨Int.le_refl _, Int.le_refl _⟩, fun k k0 k1 => absurd k1 (by omega), Int.le_refl _, fun b b0 b1 => absurd b1 (by omega)⟩
/-- a row clause that was read -/
theorem row_ok {ks vs : Nat → Int} {i ic : Nat} {E : Env1} {F : Int → Int} {t o mt : Int} {w st op dg : Int → Int} (h5 : ks i = 5) (h2 : ks (i + 1) = 2) (h61 : ks (i + 2) = 61) (hg : Go ks vs E (Cf0 (i + 3)) (ic, 0, t, o, mt, 1, w, st, op, dg)) (hm : ¬ (mt = 1 ∧ ks ic = 42)) (h59 : ks ic = 59) : Clp ks vs (i, E, F) (ic + 1, eup E (vs (i + 1)) (t, w), fupd F (vs (i + 1)) 1) := by
  unfold Clp
  dsimp only
  refine Or.inl ⟨h5, h2, h61, ic, t, o, mt, w, st, op, dg, ⟨hg, ?_⟩, h59, rfl⟩
  unfold Dne Bgn
  dsimp only
  omega
theorem row_F {ks vs : Nat → Int} {i ic : Nat} {E : Env1} {F : Int → Int} {t o mt : Int} {w st op dg : Int → Int} (h5 : ks i = 5) (hg : Go ks vs E (Cf0 (i + 3)) (ic, 0, t, o, mt, 1, w, st, op, dg)) (hm : ¬ (mt = 1 ∧ ks ic = 42)) (hb : ¬ (ks ic = 1 ∨ ks ic = 2 ∨ ks ic = 91 ∨ ks ic = 40 ∨ (7 ≤ ks ic ∧ ks ic ≤ 10))) (h59 : ks ic ≠ 59) : TFls ks vs (i, E, F) := by
  by_cases e : ks ic = 60
  · refine TF_5b h5 ⟨_, hg, ?_, fun c q => ?_⟩
    · unfold Dne Bgn
      dsimp only
      omega
    · unfold Sqp at q
      dsimp only at q
      rcases q with ⟨h1, _⟩ | ⟨_, h2, _⟩ | ⟨_, _, h3, h4⟩ | ⟨_, h2, _⟩ | ⟨_, h2, _⟩
      · exact hm h1
      · omega
      · rcases h4 with ⟨k1, _⟩ | ⟨k1, k2, _⟩ | ⟨k1, k2, k3, _⟩ <;> omega
      · omega
      · omega
  · refine TF_5c h5 ⟨hg, ?_⟩ h59
    unfold Dne Bgn
    dsimp only
    omega
set_option maxRecDepth 100000 in
set_option maxHeartbeats 4000000 in
theorem t_X3_writem (l : Launch) (D : va_G) (cI cR cM : ClassId) (sz : Nat) {jn : Nat} {g : Nat → Nat} {L : List Nat} {S : Sg} {f : Nat → va_E} {b b_p : Nat} {b_l : Int32} {b_c : Nat → Int32} {x : Int32}  (hj : 1 ≤ jn ∧ jn ≤ 3) (hG : SG g L S) (hI : IN jn cI cR cM g L S f) (m_b : b ∈ L) (s_b : S b = (2, b_p, 0)) (f_b : f b = .inr (3, [.ref b_p, .int b_l])) (f_b_p : f b_p = .inl (cI, 7, .inl b_c)) (hj1 : jn = 1) : Met l yX3_write wsX3_write ({ frames := 0, cells := 0, slots := 0, locals := 0 }) (P0 D cI cR cM [.ref b, .int x] sz (va_pl L f)) (QG (S := Int32 × (Nat → va_E)) (fun u => some (.int u.1)) (fun u => va_pl L u.2) (fun u => IN jn cI cR cM g L S u.2 ∧ FR S [2, 3] f u.2 ∧ ((u.1.toInt = 1 ∧ b_l.toInt < 7 ∧ CNf u.2 b (b_l.toInt + 1)) ∨ (u.1.toInt = 0 ∧ 7 ≤ b_l.toInt)) ∧ (FX S (fun _ => False) [2, 3] f u.2) ∧ (u.1.toInt = 0 ∨ u.1.toInt = 1)) D (va_A (va_pl L f) sz)) 0 0 (va_A (va_pl L f) sz) := by
  refine go (cc := cX3_write) (maxL := 2) (ret := (some .boolean)) (by decide +kernel) rfl (Nat.le_of_ble_eq_true rfl) ?_
  intro p e s m below meth c ls args Q hQ hsz hx hb hr hml hts hown hlocks hnm hP hK hD hl
  subst hsz
  have hD := hD.self (sz := s.heap.size)
  generalize hAe : va_A (va_pl L f) s.heap.size = A at hD hQ
  have hA : ∀ q, s.heap.size ≤ q → A q := fun q h => by rw [← hAe]; exact Or.inr h
  have hS : va_S A s.heap s.heap [] := va_S.rf
  have hFX : FX S (fun _ => False) [2, 3] f f := FX_rf
  have hF : FR S [2, 3] f f := FR_rf
  have hl : lv_has ls 2 [(0, .ref b), (1, .int x)] := hl
  obtain ⟨v1_b, v2_b, m_b_p, s_b_p⟩ := iv_2 hI m_b s_b f_b
  refine lv_aload_n hx hb dX3_write_0 rfl (lv_at hl 0 rfl) ?_
  refine t_get (D := D) (L := L) (f := f) (ci := 3) (v := .int b_l) (C := RX3) (T := TX3) (N := 2) hx hb hts (by decide +kernel) hown hK.1 hP m_b f_b rfl 1 (by decide) (hts (.fieldLink RX3 15 "JugglingHall$Marks" "count" "I") (by decide +kernel)) (fun _ h9 => h9) rfl dX3_write_1 ?_
  refine lv_aload_n hx hb dX3_write_4 rfl (lv_at hl 0 rfl) ?_
  refine t_get (D := D) (L := L) (f := f) (ci := 3) (v := .ref b_p) (C := RX3) (T := TX3) (N := 2) hx hb hts (by decide +kernel) hown hK.1 hP m_b f_b rfl 0 (by decide) (hts (.fieldLink RX3 9 "JugglingHall$Marks" "heights" "[I") (by decide +kernel)) (fun _ h9 => h9) rfl dX3_write_5 ?_
  refine t_alen (L := L) (f := f) (v := 7) hx hb hK.1 hP m_b_p 0 f_b_p rfl rfl dX3_write_8 ?_
  refine a_icmp_lt (u := b_l.toInt) (v := 7) (tgt := 14) hx hb dX3_write_9 (by decide) (rfl) (by decide) (fun c_1 => ?_) (fun c_1 => ?_)
  · refine lv_aload_n hx hb dX3_write_14 rfl (lv_at hl 0 rfl) ?_
    refine t_get (D := D) (L := L) (f := f) (ci := 3) (v := .ref b_p) (C := RX3) (T := TX3) (N := 2) hx hb hts (by decide +kernel) hown hK.1 hP m_b f_b rfl 0 (by decide) (hts (.fieldLink RX3 9 "JugglingHall$Marks" "heights" "[I") (by decide +kernel)) (fun _ h9 => h9) rfl dX3_write_15 ?_
    refine lv_aload_n hx hb dX3_write_18 rfl (lv_at hl 0 rfl) ?_
    refine t_get (D := D) (L := L) (f := f) (ci := 3) (v := .int b_l) (C := RX3) (T := TX3) (N := 2) hx hb hts (by decide +kernel) hown hK.1 hP m_b f_b rfl 1 (by decide) (hts (.fieldLink RX3 15 "JugglingHall$Marks" "count" "I") (by decide +kernel)) (fun _ h9 => h9) rfl dX3_write_19 ?_
    refine lv_iload_n hx hb dX3_write_22 rfl (lv_at hl 1 rfl) ?_
    refine t_iast (L := L) (f := f) (h := b_c) (u := b_l.toInt) hx hb hK.1 hP hD hS m_b_p 0 f_b_p rfl dX3_write_23 (rfl) (by subst hj1; omega) (fun g_2 f_2 H locs eg_2 e9_2 o_2 hP hD hS => ?_)
    have fa_2 : f_2 b_p = .inl (cI, 7, .inl g_2) := e9_2
    have hI := IN_set (e := .inl (cI, 7, .inl g_2)) hI s_b_p (mk_3) fa_2 o_2
    have hF := FR_set hF s_b_p (show (3 : Nat) ∈ ([2, 3] : List Nat) by decide) o_2
    have hFX := FX_setT hFX s_b_p (show (3 : Nat) ∈ ([2, 3] : List Nat) by decide) o_2
    have fb_3 : f_2 b = .inr (3, [.ref b_p, .int b_l]) := f_at o_2 (S_ne s_b s_b_p (show (2 : Nat) ≠ 3 by decide)) f_b
    refine lv_aload_n hx hb dX3_write_24 rfl (lv_at hl 0 rfl) ?_
    refine lv_dup hx hb dX3_write_25 rfl ?_
    refine t_get (D := D) (L := L) (f := f_2) (ci := 3) (v := .int b_l) (C := RX3) (T := TX3) (N := 2) hx hb hts (by decide +kernel) hown hK.1 hP m_b fb_3 rfl 1 (by decide) (hts (.fieldLink RX3 15 "JugglingHall$Marks" "count" "I") (by decide +kernel)) (fun _ h9 => h9) rfl dX3_write_26 ?_
    refine lv_iconst (v := 1) hx hb dX3_write_29 (by decide) ?_
    refine a_iadd (u := b_l.toInt) (v := 1) hx hb dX3_write_30 (rfl) (by decide) (by subst hj1; omega) (fun z_4 e_4 => ?_)
    refine t_put (D := D) (L := L) (f := f_2) (ci := 3) (v := .int z_4) (ty := .int) (C := RX3) (T := TX3) (N := 2) hx hb hts (by decide +kernel) tyX3 tyX3_ok nmX3 hown hK.1 hP hD hS m_b fb_3 rfl 1 (by decide) (hts (.fieldLink RX3 15 "JugglingHall$Marks" "count" "I") (by decide +kernel)) (fun _ h9 => h9) rfl (by decide +kernel) rfl rfl (Nat.le_of_ble_eq_true rfl) dX3_write_31 (fun f_5 H locs e9_5 o_5 hP hD hS => ?_)
    have fa_5 : f_5 b = .inr (3, [.ref b_p, .int z_4]) := e9_5
    have hI := IN_set (e := .inr (3, [.ref b_p, .int z_4])) hI s_b (mk_2 (by first | assumption | omega | (subst hj1; omega)) (by first | assumption | omega | (subst hj1; omega)) (by first | assumption | omega | (subst hj1; omega)) (by first | assumption | omega | (subst hj1; omega))) fa_5 o_5
    have hF := FR_set hF s_b (show (2 : Nat) ∈ ([2, 3] : List Nat) by decide) o_5
    have hFX := FX_setT hFX s_b (show (2 : Nat) ∈ ([2, 3] : List Nat) by decide) o_5
    have fb_6 : f_5 b_p = .inl (cI, 7, .inl g_2) := f_at o_5 (S_ne s_b_p s_b (show (3 : Nat) ≠ 2 by decide)) fa_2
    refine lv_iconst (v := 1) hx hb dX3_write_34 (by decide) ?_
    have hz_7 : (1 : Int32).toInt = 1 := by decide
    exact g_zret ((1 : Int32), f_5) hx hb hr hlocks hS (by first | exact Or.inl rfl | exact Or.inr rfl) rfl (⟨hI, hF, show ((1 : Int32).toInt = 1 ∧ b_l.toInt < 7 ∧ CNf f_5 b (b_l.toInt + 1)) ∨ ((1 : Int32).toInt = 0 ∧ 7 ≤ b_l.toInt) from (Or.inl ⟨rfl, by omega, b_p, _, fa_5, by omega⟩), show FX S (fun _ => False) [2, 3] f f_5 from (by first | assumption | omega | (subst hj1; omega)), show (1 : Int32).toInt = 0 ∨ (1 : Int32).toInt = 1 from (by first | assumption | omega | (subst hj1; omega))⟩) hP hD hQ (Nat.le_of_ble_eq_true rfl) (Nat.le_of_ble_eq_true rfl) dX3_write_35
  · refine lv_iconst (v := 0) hx hb dX3_write_12 (by decide) ?_
    have hz_8 : (0 : Int32).toInt = 0 := by decide
    exact g_zret ((0 : Int32), f) hx hb hr hlocks hS (by first | exact Or.inl rfl | exact Or.inr rfl) rfl (⟨hI, hF, show ((0 : Int32).toInt = 1 ∧ b_l.toInt < 7 ∧ CNf f b (b_l.toInt + 1)) ∨ ((0 : Int32).toInt = 0 ∧ 7 ≤ b_l.toInt) from (Or.inr ⟨rfl, by omega⟩), show FX S (fun _ => False) [2, 3] f f from (by first | assumption | omega | (subst hj1; omega)), show (0 : Int32).toInt = 0 ∨ (0 : Int32).toInt = 1 from (by first | assumption | omega | (subst hj1; omega))⟩) hP hD hQ (Nat.le_of_ble_eq_true rfl) (Nat.le_of_ble_eq_true rfl) dX3_write_13
set_option maxRecDepth 100000 in
set_option maxHeartbeats 4000000 in
theorem t_X4_readMarksm (l : Launch) (D : va_G) (cI cR cM : ClassId) (sz : Nat) {jn : Nat} {g : Nat → Nat} {L : List Nat} {S : Sg} {f : Nat → va_E} {ks vs : Nat → Int} {i : Nat} (hj : 1 ≤ jn ∧ jn ≤ 3) (hG : SG g L S) (hI : IN jn cI cR cM g L S f) (hj1 : jn = 1) (hC : TKm cI g ks vs f i) (hKO : KO ks vs) (hk6 : ks i = 6) : Met l yX4_readMarks wsX4_readMarks ({ frames := 2, cells := 0, slots := 0, locals := 42 }) (P0 D cI cR cM [.ref (g 13)] sz (va_pl L f)) (QG (S := Int32 × (Nat → va_E)) (fun u => some (.int u.1)) (fun u => va_pl L u.2) (fun u => IN jn cI cR cM g L S u.2 ∧ FR S [2, 3, 13, 14] f u.2 ∧ (Hd ((u.1.toInt = 1 ∧ ∃ m9 : Nat, 1 ≤ m9 ∧ m9 ≤ 7 ∧ (∀ k9 : Nat, 1 ≤ k9 → k9 ≤ m9 → Mrk (ks (i + k9))) ∧ ks (i + m9 + 1) = 59 ∧ TKm cI g ks vs u.2 (i + m9 + 1 + 1)) ∨ (u.1.toInt = 0 ∧ ∀ (E9 : Env1) (F9 : Int → Int), TFls ks vs (i, E9, F9)))) ∧ (FX S (fun _ => False) [2, 3, 13, 14] f u.2) ∧ (u.1.toInt = 0 ∨ u.1.toInt = 1)) D (va_A (va_pl L f) sz)) 0 0 (va_A (va_pl L f) sz) := by
  refine go (cc := cX4_readMarks) (maxL := 2) (ret := (some .boolean)) (by decide +kernel) rfl (Nat.le_of_ble_eq_true rfl) ?_
  intro p e s m below meth c ls args Q hQ hsz hx hb hr hml hts hown hlocks hnm hP hK hD hl
  subst hsz
  have hD := hD.self (sz := s.heap.size)
  generalize hAe : va_A (va_pl L f) s.heap.size = A at hD hQ
  have hA : ∀ q, s.heap.size ≤ q → A q := fun q h => by rw [← hAe]; exact Or.inr h
  have hS : va_S A s.heap s.heap [] := va_S.rf
  have hFX : FX S (fun _ => False) [2, 3, 13, 14] f f := FX_rf
  have hF : FR S [2, 3, 13, 14] f f := FR_rf
  have hl : lv_has ls 2 [(0, .ref (g 13))] := hl
  obtain ⟨p26, m26, s26⟩ := hG.2.2.2
  refine lv_aload_n hx hb dX4_readMarks_0 rfl (lv_at hl 0 rfl) ?_
  obtain ⟨fa_1, pl_1, fg_1⟩ := op_13 hI (gm_13 hG) (gs_13 hG)
  refine t_get (D := D) (L := L) (f := f) (ci := 4) (v := .ref (g 14)) (C := RX4) (T := TX4) (N := 11) hx hb hts (by decide +kernel) hown hK.1 hP (gm_13 hG) fg_1 rfl 1 (by decide) (hts (.fieldLink RX4 41 "JugglingHall$Reader" "tokens" "LJugglingHall$Tokens;") (by decide +kernel)) (fun _ h9 => h9) rfl dX4_readMarks_1 ?_
  obtain ⟨cnt_2, nx_2, kd_2, vl_2, st_2, ls_2, fg_2, iv0_2, iv1_2, iv2_2⟩ := op_14 hI (gm_14 hG) (gs_14 hG)
  refine call_p (va_runV (As := []) (rest := []) ⟨hx, hb, hml, hown, hts⟩ (t_X8_advancem l D cI cR cM _ (ks := ks) (vs := vs) (i := i)  hj hG hI  (by first | assumption | omega | (subst hj1; omega)) (hC)) (cwV 0 hts gX4_readMarks_X8_advance rfl rfl rfl (by decide +kernel) ⟨Nat.le_of_ble_eq_true rfl, Nat.le_of_ble_eq_true rfl⟩) (pre_T hK hP hD (gm_14 hG) fg_2 rfl) rfl rfl hl.1 rfl (lv_room (Nat.le_of_ble_eq_true rfl)) dX4_readMarks_4 ⟨Nat.le_of_ble_eq_true rfl, Nat.le_of_ble_eq_true rfl⟩) hD hS hA (fun u_3 H locs hw hP hD hS => ?_)
  obtain ⟨f_3, e0_3⟩ : ∃ x, x = u_3 := ⟨_, rfl⟩
  subst e0_3
  obtain ⟨hI, hF_3, hC_3, hfx_3⟩ : IN jn cI cR cM g L S f_3 ∧ FR S [14] f f_3 ∧ (TKm cI g ks vs f_3 ((i) + 1)) ∧ (FX S (fun _ => False) [14] f f_3) := hw
  have hP : va_P D vwCl (va_pl L f_3) H := hP
  have hD : va_D A (va_pl L f_3) := hD
  have hF := FR_tr hF hF_3 (by decide)
  have hFX := FX_tr hFX hfx_3 (fun _ h9 => h9.elim) (by decide)
  have fb_4 : f_3 (g 13) = .inr (4, [.int (nI jn), .ref (g 14), .ref (g 12), .ref (g 22), .ref (g 34), .ref (g 23), .ref (g 24), .ref (g 25), .ref (g 26), .int fa_1, .int pl_1]) := FR_at hF_3 (gs_13 hG) (show (13 : Nat) ∉ ([14] : List Nat) by decide) fg_1
  have hCm_3 : TKm cI g ks vs f_3 (i + 1) := hC_3
  refine lv_aload_n hx hb dX4_readMarks_7 rfl (lv_at hl 0 rfl) ?_
  refine t_get (D := D) (L := L) (f := f_3) (ci := 4) (v := .ref (g 26)) (C := RX4) (T := TX4) (N := 11) hx hb hts (by decide +kernel) hown hK.1 hP (gm_13 hG) fb_4 rfl 8 (by decide) (hts (.fieldLink RX4 27 "JugglingHall$Reader" "marks" "LJugglingHall$Marks;") (by decide +kernel)) (fun _ h9 => h9) rfl dX4_readMarks_8 ?_
  refine lv_iconst (v := 0) hx hb dX4_readMarks_11 (by decide) ?_
  obtain ⟨p_5, m_5, s_5⟩ := hG.2.2.2
  obtain ⟨cnt_6, fg_6, v1_6, v2_6, mp_6, sp_6⟩ := op_2 hI m_5 s_5
  have hz_8 : (0 : Int32).toInt = 0 := by decide
  refine t_putN (D := D) (L := L) (f := f_3) (ci := 3) (v := .int 0) (ty := .int) (C := RX3) (T := TX3) (N := 2) (host := "JugglingHall") hx hb hts (by decide +kernel) tyX3 tyX3_ok nmX3 hown hK.1 hP hD hS m_5 fg_6 rfl 1 (by decide) (hK.nw (.fieldLinkNest RX4 59 "JugglingHall$Marks" "count" "I" "JugglingHall") (by decide +kernel) rfl) (fun _ h9 => h9) rfl (by decide +kernel) rfl rfl (Nat.le_of_ble_eq_true rfl) dX4_readMarks_12 (fun f_7 H locs e9_7 o_7 hP hD hS => ?_)
  have fa_7 : f_7 (g 26) = .inr (3, [.ref p_5, .int 0]) := e9_7
  have hI := IN_set (e := .inr (3, [.ref p_5, .int 0])) hI s_5 (mk_2 (by first | assumption | omega | (subst hj1; omega)) (by first | assumption | omega | (subst hj1; omega)) (by first | assumption | omega | (subst hj1; omega)) (by first | assumption | omega | (subst hj1; omega))) fa_7 o_7
  have hF := FR_set hF s_5 (show (2 : Nat) ∈ ([2, 3, 13, 14] : List Nat) by decide) o_7
  have hFX := FX_setT hFX s_5 (show (2 : Nat) ∈ ([2, 3, 13, 14] : List Nat) by decide) o_7
  have fb_9 : f_7 (g 13) = .inr (4, [.int (nI jn), .ref (g 14), .ref (g 12), .ref (g 22), .ref (g 34), .ref (g 23), .ref (g 24), .ref (g 25), .ref (g 26), .int fa_1, .int pl_1]) := f_at o_7 (S_ne (gs_13 hG) s_5 (show (13 : Nat) ≠ 2 by decide)) fb_4
  have hC1 : TKm cI g ks vs f_7 (i + 1) := TKm_o hCm_3 hG s_5 (show (2 : Nat) ∉ ([14, 31, 32] : List Nat) by decide) o_7
  have hN1 : CNf f_7 (g 26) 0 := ⟨_, _, fa_7, rfl⟩
  refine lv_iconst (v := 0) hx hb dX4_readMarks_15 (by decide) ?_
  refine lv_istore_n (lv' := [(1, .int 0), (0, .ref (g 13))]) hx hb dX4_readMarks_16 rfl hl (by decide) rfl (fun ls hl => ?_)
  have loop17 : ∀ (ddloop17 : Nat) (ii : Int32) (f_10 : Nat → va_E) (H : Heap) (locs : List Loc) (ls : Array Slot), (20 - ii.toInt).toNat < ddloop17 → IN jn cI cR cM g L S f_10 → FR S [2, 3, 13, 14] f f_10 → (0 ≤ ii.toInt ∧ ii.toInt ≤ 7) → (TKm cI g ks vs f_10 (i + 1 + ii.toInt.toNat)) → (∀ k9 : Nat, 1 ≤ k9 → (k9 : Int) ≤ ii.toInt → Mrk (ks (i + k9))) → (CNf f_10 (g 26) ii.toInt) → (FX S (fun _ => False) [2, 3, 13, 14] f f_10) → va_P D vwCl (va_pl L f_10) H → va_D A (va_pl L f_10) → va_S A s.heap H locs → lv_has ls 2 [(0, .ref (g 13)), (1, .int ii)] → W p l e ({ frames := 2, cells := 0, slots := 0, locals := 42 }) s m args below meth c H locs (0) (0) Q (F0 m 17 ls []) := by
    intro ddloop17
    induction ddloop17 with
    | zero =>
      intro ii f_10 H locs ls hdd
      exact absurd hdd (Nat.not_lt_zero _)
    | succ ddloop17 ih17 =>
      intro ii f_10 H locs ls hdd hI hF hi hCl hmk hcn hFX hP hD hS hl
      have hk9 := hi
      refine lv_iload_n hx hb dX4_readMarks_17 rfl (lv_at hl 1 rfl) ?_
      refine lv_bipush (v := 7) hx hb dX4_readMarks_18 (by decide) ?_
      refine a_icmp_gt (u := ii.toInt) (v := 7) (tgt := 97) hx hb dX4_readMarks_20 (by decide) (rfl) (by decide) (fun c_11 => ?_) (fun c_11 => ?_)
      · refine lv_aload_n hx hb dX4_readMarks_97 rfl (lv_at hl 0 rfl) ?_
        obtain ⟨fa_12, pl_12, fg_12⟩ := op_13 hI (gm_13 hG) (gs_13 hG)
        refine t_get (D := D) (L := L) (f := f_10) (ci := 4) (v := .ref (g 26)) (C := RX4) (T := TX4) (N := 11) hx hb hts (by decide +kernel) hown hK.1 hP (gm_13 hG) fg_12 rfl 8 (by decide) (hts (.fieldLink RX4 27 "JugglingHall$Reader" "marks" "LJugglingHall$Marks;") (by decide +kernel)) (fun _ h9 => h9) rfl dX4_readMarks_98 ?_
        obtain ⟨cnt_13, fg_13, v1_13, v2_13, mp_13, sp_13⟩ := op_2 hI m_5 s_5
        have hcn9 := CNf_at hcn fg_13
        refine t_getN (D := D) (L := L) (f := f_10) (ci := 3) (v := .int cnt_13) (C := RX3) (T := TX3) (N := 2) (host := "JugglingHall") hx hb hts (by decide +kernel) hown hK.1 hP m_5 fg_13 rfl 1 (by decide) (hK.nw (.fieldLinkNest RX4 59 "JugglingHall$Marks" "count" "I" "JugglingHall") (by decide +kernel) rfl) (fun _ h9 => h9) rfl dX4_readMarks_101 ?_
        refine a_if_le (u := cnt_13.toInt) (tgt := 116) hx hb dX4_readMarks_104 (by decide) (rfl) (fun c_14 => ?_) (fun c_14 => ?_)
        · refine lv_aload_n hx hb dX4_readMarks_116 rfl (lv_at hl 0 rfl) ?_
          refine lv_iconst (v := 1) hx hb dX4_readMarks_117 (by decide) ?_
          have hz_15 : (1 : Int32).toInt = 1 := by decide
          refine call_p (va_runV (As := [.int 1]) (rest := []) ⟨hx, hb, hml, hown, hts⟩ (t_X4_fail l D cI cR cM _   hj hG hI  ) (cwV 1 hts gX4_readMarks_X4_fail rfl rfl rfl (by decide +kernel) ⟨Nat.le_of_ble_eq_true rfl, Nat.le_of_ble_eq_true rfl⟩) (pre_T hK hP hD (gm_13 hG) fg_12 rfl) rfl rfl hl.1 rfl (lv_room (Nat.le_of_ble_eq_true rfl)) dX4_readMarks_118 ⟨Nat.le_of_ble_eq_true rfl, Nat.le_of_ble_eq_true rfl⟩) hD hS hA (fun u_16 H locs hw hP hD hS => ?_)
          obtain ⟨r_16, f_16⟩ := u_16
          obtain ⟨hI, hF_16, h0_16, h01_16⟩ : IN jn cI cR cM g L S f_16 ∧ FR S [13] f_10 f_16 ∧ (r_16.toInt = 0) ∧ (r_16.toInt = 0 ∨ r_16.toInt = 1) := hw
          have hP : va_P D vwCl (va_pl L f_16) H := hP
          have hD : va_D A (va_pl L f_16) := hD
          have hF := FR_tr hF hF_16 (by decide)
          have hFX := FX_trR hFX hF_16 (by decide) (by decide)
          have fb_17 : f_16 (g 26) = .inr (3, [.ref p_5, .int cnt_13]) := FR_at hF_16 s_5 (show (2 : Nat) ∉ ([13] : List Nat) by decide) fg_13
          exact g_zret (r_16, f_16) hx hb hr hlocks hS (b01 (by subst hj1; omega)) rfl (⟨hI, hF, show Hd ((r_16.toInt = 1 ∧ ∃ m9 : Nat, 1 ≤ m9 ∧ m9 ≤ 7 ∧ (∀ k9 : Nat, 1 ≤ k9 → k9 ≤ m9 → Mrk (ks (i + k9))) ∧ ks (i + m9 + 1) = 59 ∧ TKm cI g ks vs f_16 (i + m9 + 1 + 1)) ∨ (r_16.toInt = 0 ∧ ∀ (E9 : Env1) (F9 : Int → Int), TFls ks vs (i, E9, F9))) from (by exfalso; omega), show FX S (fun _ => False) [2, 3, 13, 14] f f_16 from (by first | assumption | omega | (subst hj1; omega)), show r_16.toInt = 0 ∨ r_16.toInt = 1 from (by first | assumption | omega | (subst hj1; omega))⟩) hP hD hQ (Nat.le_of_ble_eq_true rfl) (Nat.le_of_ble_eq_true rfl) dX4_readMarks_121
        · refine lv_aload_n hx hb dX4_readMarks_107 rfl (lv_at hl 0 rfl) ?_
          refine lv_bipush (v := 59) hx hb dX4_readMarks_108 (by decide) ?_
          have hz_18 : (59 : Int32).toInt = 59 := by decide
          refine call_p (va_runV (As := [.int 59]) (rest := []) ⟨hx, hb, hml, hown, hts⟩ (t_X4_expectm l D cI cR cM _ (ks := ks) (vs := vs) (i := i + 1 + ii.toInt.toNat) (K9 := 59)  hj hG hI  (by first | assumption | omega | (subst hj1; omega)) (hCl) (by first | assumption | omega | (subst hj1; omega)) (by decide) (Or.inr ⟨by decide, by decide⟩)) (cwV 1 hts gX4_readMarks_X4_expect rfl rfl rfl (by decide +kernel) ⟨Nat.le_of_ble_eq_true rfl, Nat.le_of_ble_eq_true rfl⟩) (pre_T hK hP hD (gm_13 hG) fg_12 rfl) rfl rfl hl.1 rfl (lv_room (Nat.le_of_ble_eq_true rfl)) dX4_readMarks_110 ⟨Nat.le_of_ble_eq_true rfl, Nat.le_of_ble_eq_true rfl⟩) hD hS hA (fun u_19 H locs hw hP hD hS => ?_)
          obtain ⟨r_19, f_19⟩ := u_19
          obtain ⟨hI, hF_19, hp_19, hfx_19, h01_19⟩ : IN jn cI cR cM g L S f_19 ∧ FR S [13, 14] f_10 f_19 ∧ ((r_19.toInt = 1 ∧ ks (i + 1 + ii.toInt.toNat) = 59 ∧ TKm cI g ks vs f_19 ((i + 1 + ii.toInt.toNat) + 1)) ∨ (r_19.toInt = 0 ∧ ks (i + 1 + ii.toInt.toNat) ≠ 59)) ∧ (FX S (fun _ => False) [13, 14] f_10 f_19) ∧ (r_19.toInt = 0 ∨ r_19.toInt = 1) := hw
          have hP : va_P D vwCl (va_pl L f_19) H := hP
          have hD : va_D A (va_pl L f_19) := hD
          have hF := FR_tr hF hF_19 (by decide)
          have hFX := FX_tr hFX hfx_19 (fun _ h9 => h9.elim) (by decide)
          have fb_20 : f_19 (g 26) = .inr (3, [.ref p_5, .int cnt_13]) := FR_at hF_19 s_5 (show (2 : Nat) ∉ ([13, 14] : List Nat) by decide) fg_13
          refine lv_goto (tgt := 121) hx hb dX4_readMarks_113 (by decide) ?_
          exact g_zret (r_19, f_19) hx hb hr hlocks hS (b01 (by subst hj1; omega)) rfl (⟨hI, hF, show Hd ((r_19.toInt = 1 ∧ ∃ m9 : Nat, 1 ≤ m9 ∧ m9 ≤ 7 ∧ (∀ k9 : Nat, 1 ≤ k9 → k9 ≤ m9 → Mrk (ks (i + k9))) ∧ ks (i + m9 + 1) = 59 ∧ TKm cI g ks vs f_19 (i + m9 + 1 + 1)) ∨ (r_19.toInt = 0 ∧ ∀ (E9 : Env1) (F9 : Int → Int), TFls ks vs (i, E9, F9))) from (by exfalso; omega), show FX S (fun _ => False) [2, 3, 13, 14] f f_19 from (by first | assumption | omega | (subst hj1; omega)), show r_19.toInt = 0 ∨ r_19.toInt = 1 from (by first | assumption | omega | (subst hj1; omega))⟩) hP hD hQ (Nat.le_of_ble_eq_true rfl) (Nat.le_of_ble_eq_true rfl) dX4_readMarks_121
      · obtain ⟨cnt_21, nx_21, kd_21, vl_21, st_21, ls_21, fg_21, iv0_21, iv1_21, iv2_21⟩ := op_14 hI (gm_14 hG) (gs_14 hG)
        obtain ⟨kk_22, kv_22⟩ := TKm_k hCl fg_21
        refine lv_aload_n hx hb dX4_readMarks_23 rfl (lv_at hl 0 rfl) ?_
        obtain ⟨fa_23, pl_23, fg_23⟩ := op_13 hI (gm_13 hG) (gs_13 hG)
        refine t_get (D := D) (L := L) (f := f_10) (ci := 4) (v := .ref (g 14)) (C := RX4) (T := TX4) (N := 11) hx hb hts (by decide +kernel) hown hK.1 hP (gm_13 hG) fg_23 rfl 1 (by decide) (hts (.fieldLink RX4 41 "JugglingHall$Reader" "tokens" "LJugglingHall$Tokens;") (by decide +kernel)) (fun _ h9 => h9) rfl dX4_readMarks_24 ?_
        refine t_getN (D := D) (L := L) (f := f_10) (ci := 8) (v := .int kd_21) (C := RX8) (T := TX8) (N := 10) (host := "JugglingHall") hx hb hts (by decide +kernel) hown hK.1 hP (gm_14 hG) fg_21 rfl 6 (by decide) (hK.nw (.fieldLinkNest RX4 70 "JugglingHall$Tokens" "kind" "I" "JugglingHall") (by decide +kernel) rfl) (fun _ h9 => h9) rfl dX4_readMarks_27 ?_
        refine lv_iconst (v := 2) hx hb dX4_readMarks_30 (by decide) ?_
        refine a_icmp_eq (u := kd_21.toInt) (v := 2) (tgt := 46) hx hb dX4_readMarks_31 (by decide) (rfl) (by decide) (fun c_24 => ?_) (fun c_24 => ?_)
        · have kb_25 : ks (i + 1 + ii.toInt.toNat) = 1 := cK_p (hKO (i + 1 + ii.toInt.toNat)).1 (Or.inl ⟨by decide, by decide⟩) kk_22 c_24 (by decide)
          refine lv_aload_n hx hb dX4_readMarks_46 rfl (lv_at hl 0 rfl) ?_
          refine t_get (D := D) (L := L) (f := f_10) (ci := 4) (v := .ref (g 26)) (C := RX4) (T := TX4) (N := 11) hx hb hts (by decide +kernel) hown hK.1 hP (gm_13 hG) fg_23 rfl 8 (by decide) (hts (.fieldLink RX4 27 "JugglingHall$Reader" "marks" "LJugglingHall$Marks;") (by decide +kernel)) (fun _ h9 => h9) rfl dX4_readMarks_47 ?_
          refine lv_aload_n hx hb dX4_readMarks_50 rfl (lv_at hl 0 rfl) ?_
          refine t_get (D := D) (L := L) (f := f_10) (ci := 4) (v := .ref (g 14)) (C := RX4) (T := TX4) (N := 11) hx hb hts (by decide +kernel) hown hK.1 hP (gm_13 hG) fg_23 rfl 1 (by decide) (hts (.fieldLink RX4 41 "JugglingHall$Reader" "tokens" "LJugglingHall$Tokens;") (by decide +kernel)) (fun _ h9 => h9) rfl dX4_readMarks_51 ?_
          refine t_getN (D := D) (L := L) (f := f_10) (ci := 8) (v := .int kd_21) (C := RX8) (T := TX8) (N := 10) (host := "JugglingHall") hx hb hts (by decide +kernel) hown hK.1 hP (gm_14 hG) fg_21 rfl 6 (by decide) (hK.nw (.fieldLinkNest RX4 70 "JugglingHall$Tokens" "kind" "I" "JugglingHall") (by decide +kernel) rfl) (fun _ h9 => h9) rfl dX4_readMarks_54 ?_
          refine lv_iconst (v := 2) hx hb dX4_readMarks_57 (by decide) ?_
          refine a_icmp_ne (u := kd_21.toInt) (v := 2) (tgt := 71) hx hb dX4_readMarks_58 (by decide) (rfl) (by decide) (fun c_26 => ?_) (fun c_26 => ?_)
          · refine lv_iconst (v := (-1)) hx hb dX4_readMarks_71 (by decide) ?_
            obtain ⟨cnt_27, fg_27, v1_27, v2_27, mp_27, sp_27⟩ := op_2 hI m_5 s_5
            have hcn9 := CNf_at hcn fg_27
            have hz_28 : (-1 : Int32).toInt = (-1) := by decide
            obtain ⟨c_29, fg_29⟩ := op_3 hI mp_6 sp_6
            refine call_p (va_runV (As := [.int (-1)]) (rest := []) ⟨hx, hb, hml, hown, hts⟩ (t_X3_writem l D cI cR cM _   hj hG hI m_5 s_5 fg_27 fg_29 (by first | assumption | omega | (subst hj1; omega))) (cwV 1 hts gX4_readMarks_X3_write rfl rfl rfl (by decide +kernel) ⟨Nat.le_of_ble_eq_true rfl, Nat.le_of_ble_eq_true rfl⟩) (pre_T hK hP hD m_5 fg_27 rfl) rfl rfl hl.1 rfl (lv_room (Nat.le_of_ble_eq_true rfl)) dX4_readMarks_72 ⟨Nat.le_of_ble_eq_true rfl, Nat.le_of_ble_eq_true rfl⟩) hD hS hA (fun u_30 H locs hw hP hD hS => ?_)
            obtain ⟨r_30, f_30⟩ := u_30
            obtain ⟨hI, hF_30, hp_30, hfx_30, h01_30⟩ : IN jn cI cR cM g L S f_30 ∧ FR S [2, 3] f_10 f_30 ∧ ((r_30.toInt = 1 ∧ cnt_27.toInt < 7 ∧ CNf f_30 (g 26) (cnt_27.toInt + 1)) ∨ (r_30.toInt = 0 ∧ 7 ≤ cnt_27.toInt)) ∧ (FX S (fun _ => False) [2, 3] f_10 f_30) ∧ (r_30.toInt = 0 ∨ r_30.toInt = 1) := hw
            have hP : va_P D vwCl (va_pl L f_30) H := hP
            have hD : va_D A (va_pl L f_30) := hD
            have hF := FR_tr hF hF_30 (by decide)
            have hFX := FX_tr hFX hfx_30 (fun _ h9 => h9.elim) (by decide)
            have fb_31 : f_30 (g 14) = .inr (8, [.ref (g 11), .ref (g 31), .ref (g 32), .ref (g 33), .int cnt_21, .int nx_21, .int kd_21, .int vl_21, .int st_21, .int ls_21]) := FR_at hF_30 (gs_14 hG) (show (14 : Nat) ∉ ([2, 3] : List Nat) by decide) fg_21
            have fb_32 : f_30 (g 13) = .inr (4, [.int (nI jn), .ref (g 14), .ref (g 12), .ref (g 22), .ref (g 34), .ref (g 23), .ref (g 24), .ref (g 25), .ref (g 26), .int fa_23, .int pl_23]) := FR_at hF_30 (gs_13 hG) (show (13 : Nat) ∉ ([2, 3] : List Nat) by decide) fg_23
            refine a_if_ne (u := r_30.toInt) (tgt := 84) hx hb dX4_readMarks_75 (by decide) (rfl) (fun c_33 => ?_) (fun c_33 => ?_)
            · obtain ⟨-, hm1, hm2⟩ := hp_30.resolve_right (fun q9 => by have := q9.1; omega)
              have hN3 : CNf f_30 (g 26) (ii.toInt + 1) := by rw [← hcn9]; exact hm2
              have hC3 : TKm cI g ks vs f_30 (i + 1 + ii.toInt.toNat) := TKm_fr hCl hG hF_30 (by decide)
              refine lv_aload_n hx hb dX4_readMarks_84 rfl (lv_at hl 0 rfl) ?_
              refine t_get (D := D) (L := L) (f := f_30) (ci := 4) (v := .ref (g 14)) (C := RX4) (T := TX4) (N := 11) hx hb hts (by decide +kernel) hown hK.1 hP (gm_13 hG) fb_32 rfl 1 (by decide) (hts (.fieldLink RX4 41 "JugglingHall$Reader" "tokens" "LJugglingHall$Tokens;") (by decide +kernel)) (fun _ h9 => h9) rfl dX4_readMarks_85 ?_
              refine call_p (va_runV (As := []) (rest := []) ⟨hx, hb, hml, hown, hts⟩ (t_X8_advancem l D cI cR cM _ (ks := ks) (vs := vs) (i := i + 1 + ii.toInt.toNat)  hj hG hI  (by first | assumption | omega | (subst hj1; omega)) (hC3)) (cwV 0 hts gX4_readMarks_X8_advance rfl rfl rfl (by decide +kernel) ⟨Nat.le_of_ble_eq_true rfl, Nat.le_of_ble_eq_true rfl⟩) (pre_T hK hP hD (gm_14 hG) fb_31 rfl) rfl rfl hl.1 rfl (lv_room (Nat.le_of_ble_eq_true rfl)) dX4_readMarks_88 ⟨Nat.le_of_ble_eq_true rfl, Nat.le_of_ble_eq_true rfl⟩) hD hS hA (fun u_34 H locs hw hP hD hS => ?_)
              obtain ⟨f_34, e0_34⟩ : ∃ x, x = u_34 := ⟨_, rfl⟩
              subst e0_34
              obtain ⟨hI, hF_34, hC_34, hfx_34⟩ : IN jn cI cR cM g L S f_34 ∧ FR S [14] f_30 f_34 ∧ (TKm cI g ks vs f_34 ((i + 1 + ii.toInt.toNat) + 1)) ∧ (FX S (fun _ => False) [14] f_30 f_34) := hw
              have hP : va_P D vwCl (va_pl L f_34) H := hP
              have hD : va_D A (va_pl L f_34) := hD
              have hF := FR_tr hF hF_34 (by decide)
              have hFX := FX_tr hFX hfx_34 (fun _ h9 => h9.elim) (by decide)
              have fb_35 : f_34 (g 13) = .inr (4, [.int (nI jn), .ref (g 14), .ref (g 12), .ref (g 22), .ref (g 34), .ref (g 23), .ref (g 24), .ref (g 25), .ref (g 26), .int fa_23, .int pl_23]) := FR_at hF_34 (gs_13 hG) (show (13 : Nat) ∉ ([14] : List Nat) by decide) fb_32
              obtain ⟨z_36, q_36, e_36⟩ := i_inc (a := ii.toInt) (1) (rfl) (by decide) (by subst hj1; omega) (by subst hj1; omega)
              refine lv_iinc (v := z_36) (lv' := [(1, .int z_36), (0, .ref (g 13))]) hx hb dX4_readMarks_91 hl (k := 1) rfl q_36 (by decide) rfl (fun ls hl => ?_)
              refine lv_goto (tgt := 17) hx hb dX4_readMarks_94 (by decide) ?_
              exact ih17 z_36 f_34 _ _ _ (by subst hj1; omega) hI hF (by first | assumption | omega | (subst hj1; omega)) (by rw [show i + 1 + z_36.toInt.toNat = i + 1 + ii.toInt.toNat + 1 by omega]; exact hC_34) (fun k9 h8 h9 => by
                by_cases q9 : (k9 : Int) ≤ ii.toInt
                · exact hmk k9 h8 q9
                · rw [show i + k9 = i + 1 + ii.toInt.toNat by omega]; unfold Mrk; omega) (by rw [show z_36.toInt = ii.toInt + 1 by omega]; exact CNf_fr (L := L) hN3 s26 hF_34 (by decide)) (by first | assumption | omega | (subst hj1; omega)) hP hD hS (lv_sub hl [1, 0] rfl)
            · refine lv_aload_n hx hb dX4_readMarks_78 rfl (lv_at hl 0 rfl) ?_
              refine lv_iconst (v := 4) hx hb dX4_readMarks_79 (by decide) ?_
              have hz_37 : (4 : Int32).toInt = 4 := by decide
              refine call_p (va_runV (As := [.int 4]) (rest := []) ⟨hx, hb, hml, hown, hts⟩ (t_X4_fail l D cI cR cM _   hj hG hI  ) (cwV 1 hts gX4_readMarks_X4_fail rfl rfl rfl (by decide +kernel) ⟨Nat.le_of_ble_eq_true rfl, Nat.le_of_ble_eq_true rfl⟩) (pre_T hK hP hD (gm_13 hG) fb_32 rfl) rfl rfl hl.1 rfl (lv_room (Nat.le_of_ble_eq_true rfl)) dX4_readMarks_80 ⟨Nat.le_of_ble_eq_true rfl, Nat.le_of_ble_eq_true rfl⟩) hD hS hA (fun u_38 H locs hw hP hD hS => ?_)
              obtain ⟨r_38, f_38⟩ := u_38
              obtain ⟨hI, hF_38, h0_38, h01_38⟩ : IN jn cI cR cM g L S f_38 ∧ FR S [13] f_30 f_38 ∧ (r_38.toInt = 0) ∧ (r_38.toInt = 0 ∨ r_38.toInt = 1) := hw
              have hP : va_P D vwCl (va_pl L f_38) H := hP
              have hD : va_D A (va_pl L f_38) := hD
              have hF := FR_tr hF hF_38 (by decide)
              have hFX := FX_trR hFX hF_38 (by decide) (by decide)
              have fb_39 : f_38 (g 14) = .inr (8, [.ref (g 11), .ref (g 31), .ref (g 32), .ref (g 33), .int cnt_21, .int nx_21, .int kd_21, .int vl_21, .int st_21, .int ls_21]) := FR_at hF_38 (gs_14 hG) (show (14 : Nat) ∉ ([13] : List Nat) by decide) fb_31
              exact g_zret (r_38, f_38) hx hb hr hlocks hS (b01 (by subst hj1; omega)) rfl (⟨hI, hF, show Hd ((r_38.toInt = 1 ∧ ∃ m9 : Nat, 1 ≤ m9 ∧ m9 ≤ 7 ∧ (∀ k9 : Nat, 1 ≤ k9 → k9 ≤ m9 → Mrk (ks (i + k9))) ∧ ks (i + m9 + 1) = 59 ∧ TKm cI g ks vs f_38 (i + m9 + 1 + 1)) ∨ (r_38.toInt = 0 ∧ ∀ (E9 : Env1) (F9 : Int → Int), TFls ks vs (i, E9, F9))) from (Or.inr ⟨h0_38, fun E9 F9 => TF_6b hk6 (fun k9 h8 h9 => by
                have h7 := (hp_30.resolve_left (fun q9 => by have := q9.1; omega)).2
                by_cases q9 : k9 ≤ 7
                · exact hmk k9 h8 (by subst hj1; omega)
                · rw [show i + k9 = i + 1 + ii.toInt.toNat by omega]; unfold Mrk; omega)⟩), show FX S (fun _ => False) [2, 3, 13, 14] f f_38 from (by first | assumption | omega | (subst hj1; omega)), show r_38.toInt = 0 ∨ r_38.toInt = 1 from (by first | assumption | omega | (subst hj1; omega))⟩) hP hD hQ (Nat.le_of_ble_eq_true rfl) (Nat.le_of_ble_eq_true rfl) dX4_readMarks_83
          · refine lv_aload_n hx hb dX4_readMarks_61 rfl (lv_at hl 0 rfl) ?_
            refine t_get (D := D) (L := L) (f := f_10) (ci := 4) (v := .ref (g 14)) (C := RX4) (T := TX4) (N := 11) hx hb hts (by decide +kernel) hown hK.1 hP (gm_13 hG) fg_23 rfl 1 (by decide) (hts (.fieldLink RX4 41 "JugglingHall$Reader" "tokens" "LJugglingHall$Tokens;") (by decide +kernel)) (fun _ h9 => h9) rfl dX4_readMarks_62 ?_
            refine t_getN (D := D) (L := L) (f := f_10) (ci := 8) (v := .int vl_21) (C := RX8) (T := TX8) (N := 10) (host := "JugglingHall") hx hb hts (by decide +kernel) hown hK.1 hP (gm_14 hG) fg_21 rfl 7 (by decide) (hK.nw (.fieldLinkNest RX4 113 "JugglingHall$Tokens" "value" "I" "JugglingHall") (by decide +kernel) rfl) (fun _ h9 => h9) rfl dX4_readMarks_65 ?_
            refine lv_goto (tgt := 72) hx hb dX4_readMarks_68 (by decide) ?_
            obtain ⟨cnt_40, fg_40, v1_40, v2_40, mp_40, sp_40⟩ := op_2 hI m_5 s_5
            have hcn9 := CNf_at hcn fg_40
            obtain ⟨c_41, fg_41⟩ := op_3 hI mp_6 sp_6
            refine call_p (va_runV (As := [.int vl_21]) (rest := []) ⟨hx, hb, hml, hown, hts⟩ (t_X3_writem l D cI cR cM _   hj hG hI m_5 s_5 fg_40 fg_41 (by first | assumption | omega | (subst hj1; omega))) (cwV 1 hts gX4_readMarks_X3_write rfl rfl rfl (by decide +kernel) ⟨Nat.le_of_ble_eq_true rfl, Nat.le_of_ble_eq_true rfl⟩) (pre_T hK hP hD m_5 fg_40 rfl) rfl rfl hl.1 rfl (lv_room (Nat.le_of_ble_eq_true rfl)) dX4_readMarks_72 ⟨Nat.le_of_ble_eq_true rfl, Nat.le_of_ble_eq_true rfl⟩) hD hS hA (fun u_42 H locs hw hP hD hS => ?_)
            obtain ⟨r_42, f_42⟩ := u_42
            obtain ⟨hI, hF_42, hp_42, hfx_42, h01_42⟩ : IN jn cI cR cM g L S f_42 ∧ FR S [2, 3] f_10 f_42 ∧ ((r_42.toInt = 1 ∧ cnt_40.toInt < 7 ∧ CNf f_42 (g 26) (cnt_40.toInt + 1)) ∨ (r_42.toInt = 0 ∧ 7 ≤ cnt_40.toInt)) ∧ (FX S (fun _ => False) [2, 3] f_10 f_42) ∧ (r_42.toInt = 0 ∨ r_42.toInt = 1) := hw
            have hP : va_P D vwCl (va_pl L f_42) H := hP
            have hD : va_D A (va_pl L f_42) := hD
            have hF := FR_tr hF hF_42 (by decide)
            have hFX := FX_tr hFX hfx_42 (fun _ h9 => h9.elim) (by decide)
            have fb_43 : f_42 (g 14) = .inr (8, [.ref (g 11), .ref (g 31), .ref (g 32), .ref (g 33), .int cnt_21, .int nx_21, .int kd_21, .int vl_21, .int st_21, .int ls_21]) := FR_at hF_42 (gs_14 hG) (show (14 : Nat) ∉ ([2, 3] : List Nat) by decide) fg_21
            have fb_44 : f_42 (g 13) = .inr (4, [.int (nI jn), .ref (g 14), .ref (g 12), .ref (g 22), .ref (g 34), .ref (g 23), .ref (g 24), .ref (g 25), .ref (g 26), .int fa_23, .int pl_23]) := FR_at hF_42 (gs_13 hG) (show (13 : Nat) ∉ ([2, 3] : List Nat) by decide) fg_23
            refine a_if_ne (u := r_42.toInt) (tgt := 84) hx hb dX4_readMarks_75 (by decide) (rfl) (fun c_45 => ?_) (fun c_45 => ?_)
            · obtain ⟨-, hm1, hm2⟩ := hp_42.resolve_right (fun q9 => by have := q9.1; omega)
              have hN3 : CNf f_42 (g 26) (ii.toInt + 1) := by rw [← hcn9]; exact hm2
              have hC3 : TKm cI g ks vs f_42 (i + 1 + ii.toInt.toNat) := TKm_fr hCl hG hF_42 (by decide)
              refine lv_aload_n hx hb dX4_readMarks_84 rfl (lv_at hl 0 rfl) ?_
              refine t_get (D := D) (L := L) (f := f_42) (ci := 4) (v := .ref (g 14)) (C := RX4) (T := TX4) (N := 11) hx hb hts (by decide +kernel) hown hK.1 hP (gm_13 hG) fb_44 rfl 1 (by decide) (hts (.fieldLink RX4 41 "JugglingHall$Reader" "tokens" "LJugglingHall$Tokens;") (by decide +kernel)) (fun _ h9 => h9) rfl dX4_readMarks_85 ?_
              refine call_p (va_runV (As := []) (rest := []) ⟨hx, hb, hml, hown, hts⟩ (t_X8_advancem l D cI cR cM _ (ks := ks) (vs := vs) (i := i + 1 + ii.toInt.toNat)  hj hG hI  (by first | assumption | omega | (subst hj1; omega)) (hC3)) (cwV 0 hts gX4_readMarks_X8_advance rfl rfl rfl (by decide +kernel) ⟨Nat.le_of_ble_eq_true rfl, Nat.le_of_ble_eq_true rfl⟩) (pre_T hK hP hD (gm_14 hG) fb_43 rfl) rfl rfl hl.1 rfl (lv_room (Nat.le_of_ble_eq_true rfl)) dX4_readMarks_88 ⟨Nat.le_of_ble_eq_true rfl, Nat.le_of_ble_eq_true rfl⟩) hD hS hA (fun u_46 H locs hw hP hD hS => ?_)
              obtain ⟨f_46, e0_46⟩ : ∃ x, x = u_46 := ⟨_, rfl⟩
              subst e0_46
              obtain ⟨hI, hF_46, hC_46, hfx_46⟩ : IN jn cI cR cM g L S f_46 ∧ FR S [14] f_42 f_46 ∧ (TKm cI g ks vs f_46 ((i + 1 + ii.toInt.toNat) + 1)) ∧ (FX S (fun _ => False) [14] f_42 f_46) := hw
              have hP : va_P D vwCl (va_pl L f_46) H := hP
              have hD : va_D A (va_pl L f_46) := hD
              have hF := FR_tr hF hF_46 (by decide)
              have hFX := FX_tr hFX hfx_46 (fun _ h9 => h9.elim) (by decide)
              have fb_47 : f_46 (g 13) = .inr (4, [.int (nI jn), .ref (g 14), .ref (g 12), .ref (g 22), .ref (g 34), .ref (g 23), .ref (g 24), .ref (g 25), .ref (g 26), .int fa_23, .int pl_23]) := FR_at hF_46 (gs_13 hG) (show (13 : Nat) ∉ ([14] : List Nat) by decide) fb_44
              obtain ⟨z_48, q_48, e_48⟩ := i_inc (a := ii.toInt) (1) (rfl) (by decide) (by subst hj1; omega) (by subst hj1; omega)
              refine lv_iinc (v := z_48) (lv' := [(1, .int z_48), (0, .ref (g 13))]) hx hb dX4_readMarks_91 hl (k := 1) rfl q_48 (by decide) rfl (fun ls hl => ?_)
              refine lv_goto (tgt := 17) hx hb dX4_readMarks_94 (by decide) ?_
              exact ih17 z_48 f_46 _ _ _ (by subst hj1; omega) hI hF (by first | assumption | omega | (subst hj1; omega)) (by rw [show i + 1 + z_48.toInt.toNat = i + 1 + ii.toInt.toNat + 1 by omega]; exact hC_46) (fun k9 h8 h9 => by
                by_cases q9 : (k9 : Int) ≤ ii.toInt
                · exact hmk k9 h8 q9
                · rw [show i + k9 = i + 1 + ii.toInt.toNat by omega]; unfold Mrk; omega) (by rw [show z_48.toInt = ii.toInt + 1 by omega]; exact CNf_fr (L := L) hN3 s26 hF_46 (by decide)) (by first | assumption | omega | (subst hj1; omega)) hP hD hS (lv_sub hl [1, 0] rfl)
            · refine lv_aload_n hx hb dX4_readMarks_78 rfl (lv_at hl 0 rfl) ?_
              refine lv_iconst (v := 4) hx hb dX4_readMarks_79 (by decide) ?_
              have hz_49 : (4 : Int32).toInt = 4 := by decide
              refine call_p (va_runV (As := [.int 4]) (rest := []) ⟨hx, hb, hml, hown, hts⟩ (t_X4_fail l D cI cR cM _   hj hG hI  ) (cwV 1 hts gX4_readMarks_X4_fail rfl rfl rfl (by decide +kernel) ⟨Nat.le_of_ble_eq_true rfl, Nat.le_of_ble_eq_true rfl⟩) (pre_T hK hP hD (gm_13 hG) fb_44 rfl) rfl rfl hl.1 rfl (lv_room (Nat.le_of_ble_eq_true rfl)) dX4_readMarks_80 ⟨Nat.le_of_ble_eq_true rfl, Nat.le_of_ble_eq_true rfl⟩) hD hS hA (fun u_50 H locs hw hP hD hS => ?_)
              obtain ⟨r_50, f_50⟩ := u_50
              obtain ⟨hI, hF_50, h0_50, h01_50⟩ : IN jn cI cR cM g L S f_50 ∧ FR S [13] f_42 f_50 ∧ (r_50.toInt = 0) ∧ (r_50.toInt = 0 ∨ r_50.toInt = 1) := hw
              have hP : va_P D vwCl (va_pl L f_50) H := hP
              have hD : va_D A (va_pl L f_50) := hD
              have hF := FR_tr hF hF_50 (by decide)
              have hFX := FX_trR hFX hF_50 (by decide) (by decide)
              have fb_51 : f_50 (g 14) = .inr (8, [.ref (g 11), .ref (g 31), .ref (g 32), .ref (g 33), .int cnt_21, .int nx_21, .int kd_21, .int vl_21, .int st_21, .int ls_21]) := FR_at hF_50 (gs_14 hG) (show (14 : Nat) ∉ ([13] : List Nat) by decide) fb_43
              exact g_zret (r_50, f_50) hx hb hr hlocks hS (b01 (by subst hj1; omega)) rfl (⟨hI, hF, show Hd ((r_50.toInt = 1 ∧ ∃ m9 : Nat, 1 ≤ m9 ∧ m9 ≤ 7 ∧ (∀ k9 : Nat, 1 ≤ k9 → k9 ≤ m9 → Mrk (ks (i + k9))) ∧ ks (i + m9 + 1) = 59 ∧ TKm cI g ks vs f_50 (i + m9 + 1 + 1)) ∨ (r_50.toInt = 0 ∧ ∀ (E9 : Env1) (F9 : Int → Int), TFls ks vs (i, E9, F9))) from (Or.inr ⟨h0_50, fun E9 F9 => TF_6b hk6 (fun k9 h8 h9 => by
                have h7 := (hp_42.resolve_left (fun q9 => by have := q9.1; omega)).2
                by_cases q9 : k9 ≤ 7
                · exact hmk k9 h8 (by subst hj1; omega)
                · rw [show i + k9 = i + 1 + ii.toInt.toNat by omega]; unfold Mrk; omega)⟩), show FX S (fun _ => False) [2, 3, 13, 14] f f_50 from (by first | assumption | omega | (subst hj1; omega)), show r_50.toInt = 0 ∨ r_50.toInt = 1 from (by first | assumption | omega | (subst hj1; omega))⟩) hP hD hQ (Nat.le_of_ble_eq_true rfl) (Nat.le_of_ble_eq_true rfl) dX4_readMarks_83
        · have kb_52 : ks (i + 1 + ii.toInt.toNat) ≠ 1 := cK_n kk_22 c_24 (by decide)
          refine lv_aload_n hx hb dX4_readMarks_34 rfl (lv_at hl 0 rfl) ?_
          refine t_get (D := D) (L := L) (f := f_10) (ci := 4) (v := .ref (g 14)) (C := RX4) (T := TX4) (N := 11) hx hb hts (by decide +kernel) hown hK.1 hP (gm_13 hG) fg_23 rfl 1 (by decide) (hts (.fieldLink RX4 41 "JugglingHall$Reader" "tokens" "LJugglingHall$Tokens;") (by decide +kernel)) (fun _ h9 => h9) rfl dX4_readMarks_35 ?_
          refine t_getN (D := D) (L := L) (f := f_10) (ci := 8) (v := .int kd_21) (C := RX8) (T := TX8) (N := 10) (host := "JugglingHall") hx hb hts (by decide +kernel) hown hK.1 hP (gm_14 hG) fg_21 rfl 6 (by decide) (hK.nw (.fieldLinkNest RX4 70 "JugglingHall$Tokens" "kind" "I" "JugglingHall") (by decide +kernel) rfl) (fun _ h9 => h9) rfl dX4_readMarks_38 ?_
          refine lv_bipush (v := 63) hx hb dX4_readMarks_41 (by decide) ?_
          refine a_icmp_ne (u := kd_21.toInt) (v := 63) (tgt := 97) hx hb dX4_readMarks_43 (by decide) (rfl) (by decide) (fun c_53 => ?_) (fun c_53 => ?_)
          · have kb_54 : ks (i + 1 + ii.toInt.toNat) ≠ 63 := cK_n kk_22 c_53 (by decide)
            refine lv_aload_n hx hb dX4_readMarks_97 rfl (lv_at hl 0 rfl) ?_
            refine t_get (D := D) (L := L) (f := f_10) (ci := 4) (v := .ref (g 26)) (C := RX4) (T := TX4) (N := 11) hx hb hts (by decide +kernel) hown hK.1 hP (gm_13 hG) fg_23 rfl 8 (by decide) (hts (.fieldLink RX4 27 "JugglingHall$Reader" "marks" "LJugglingHall$Marks;") (by decide +kernel)) (fun _ h9 => h9) rfl dX4_readMarks_98 ?_
            obtain ⟨cnt_55, fg_55, v1_55, v2_55, mp_55, sp_55⟩ := op_2 hI m_5 s_5
            have hcn9 := CNf_at hcn fg_55
            refine t_getN (D := D) (L := L) (f := f_10) (ci := 3) (v := .int cnt_55) (C := RX3) (T := TX3) (N := 2) (host := "JugglingHall") hx hb hts (by decide +kernel) hown hK.1 hP m_5 fg_55 rfl 1 (by decide) (hK.nw (.fieldLinkNest RX4 59 "JugglingHall$Marks" "count" "I" "JugglingHall") (by decide +kernel) rfl) (fun _ h9 => h9) rfl dX4_readMarks_101 ?_
            refine a_if_le (u := cnt_55.toInt) (tgt := 116) hx hb dX4_readMarks_104 (by decide) (rfl) (fun c_56 => ?_) (fun c_56 => ?_)
            · refine lv_aload_n hx hb dX4_readMarks_116 rfl (lv_at hl 0 rfl) ?_
              refine lv_iconst (v := 1) hx hb dX4_readMarks_117 (by decide) ?_
              have hz_57 : (1 : Int32).toInt = 1 := by decide
              refine call_p (va_runV (As := [.int 1]) (rest := []) ⟨hx, hb, hml, hown, hts⟩ (t_X4_fail l D cI cR cM _   hj hG hI  ) (cwV 1 hts gX4_readMarks_X4_fail rfl rfl rfl (by decide +kernel) ⟨Nat.le_of_ble_eq_true rfl, Nat.le_of_ble_eq_true rfl⟩) (pre_T hK hP hD (gm_13 hG) fg_23 rfl) rfl rfl hl.1 rfl (lv_room (Nat.le_of_ble_eq_true rfl)) dX4_readMarks_118 ⟨Nat.le_of_ble_eq_true rfl, Nat.le_of_ble_eq_true rfl⟩) hD hS hA (fun u_58 H locs hw hP hD hS => ?_)
              obtain ⟨r_58, f_58⟩ := u_58
              obtain ⟨hI, hF_58, h0_58, h01_58⟩ : IN jn cI cR cM g L S f_58 ∧ FR S [13] f_10 f_58 ∧ (r_58.toInt = 0) ∧ (r_58.toInt = 0 ∨ r_58.toInt = 1) := hw
              have hP : va_P D vwCl (va_pl L f_58) H := hP
              have hD : va_D A (va_pl L f_58) := hD
              have hF := FR_tr hF hF_58 (by decide)
              have hFX := FX_trR hFX hF_58 (by decide) (by decide)
              have fb_59 : f_58 (g 14) = .inr (8, [.ref (g 11), .ref (g 31), .ref (g 32), .ref (g 33), .int cnt_21, .int nx_21, .int kd_21, .int vl_21, .int st_21, .int ls_21]) := FR_at hF_58 (gs_14 hG) (show (14 : Nat) ∉ ([13] : List Nat) by decide) fg_21
              have fb_60 : f_58 (g 26) = .inr (3, [.ref p_5, .int cnt_55]) := FR_at hF_58 s_5 (show (2 : Nat) ∉ ([13] : List Nat) by decide) fg_55
              exact g_zret (r_58, f_58) hx hb hr hlocks hS (b01 (by subst hj1; omega)) rfl (⟨hI, hF, show Hd ((r_58.toInt = 1 ∧ ∃ m9 : Nat, 1 ≤ m9 ∧ m9 ≤ 7 ∧ (∀ k9 : Nat, 1 ≤ k9 → k9 ≤ m9 → Mrk (ks (i + k9))) ∧ ks (i + m9 + 1) = 59 ∧ TKm cI g ks vs f_58 (i + m9 + 1 + 1)) ∨ (r_58.toInt = 0 ∧ ∀ (E9 : Env1) (F9 : Int → Int), TFls ks vs (i, E9, F9))) from (Or.inr ⟨h0_58, fun E9 F9 => TF_6a (n := ii.toInt.toNat) hk6 (fun k9 h8 h9 => hmk k9 h8 (by subst hj1; omega)) (by rw [show i + ii.toInt.toNat + 1 = i + 1 + ii.toInt.toNat by omega]; unfold Mrk; omega) (Or.inl (by subst hj1; omega))⟩), show FX S (fun _ => False) [2, 3, 13, 14] f f_58 from (by first | assumption | omega | (subst hj1; omega)), show r_58.toInt = 0 ∨ r_58.toInt = 1 from (by first | assumption | omega | (subst hj1; omega))⟩) hP hD hQ (Nat.le_of_ble_eq_true rfl) (Nat.le_of_ble_eq_true rfl) dX4_readMarks_121
            · refine lv_aload_n hx hb dX4_readMarks_107 rfl (lv_at hl 0 rfl) ?_
              refine lv_bipush (v := 59) hx hb dX4_readMarks_108 (by decide) ?_
              have hz_61 : (59 : Int32).toInt = 59 := by decide
              refine call_p (va_runV (As := [.int 59]) (rest := []) ⟨hx, hb, hml, hown, hts⟩ (t_X4_expectm l D cI cR cM _ (ks := ks) (vs := vs) (i := i + 1 + ii.toInt.toNat) (K9 := 59)  hj hG hI  (by first | assumption | omega | (subst hj1; omega)) (hCl) (by first | assumption | omega | (subst hj1; omega)) (by decide) (Or.inr ⟨by decide, by decide⟩)) (cwV 1 hts gX4_readMarks_X4_expect rfl rfl rfl (by decide +kernel) ⟨Nat.le_of_ble_eq_true rfl, Nat.le_of_ble_eq_true rfl⟩) (pre_T hK hP hD (gm_13 hG) fg_23 rfl) rfl rfl hl.1 rfl (lv_room (Nat.le_of_ble_eq_true rfl)) dX4_readMarks_110 ⟨Nat.le_of_ble_eq_true rfl, Nat.le_of_ble_eq_true rfl⟩) hD hS hA (fun u_62 H locs hw hP hD hS => ?_)
              obtain ⟨r_62, f_62⟩ := u_62
              obtain ⟨hI, hF_62, hp_62, hfx_62, h01_62⟩ : IN jn cI cR cM g L S f_62 ∧ FR S [13, 14] f_10 f_62 ∧ ((r_62.toInt = 1 ∧ ks (i + 1 + ii.toInt.toNat) = 59 ∧ TKm cI g ks vs f_62 ((i + 1 + ii.toInt.toNat) + 1)) ∨ (r_62.toInt = 0 ∧ ks (i + 1 + ii.toInt.toNat) ≠ 59)) ∧ (FX S (fun _ => False) [13, 14] f_10 f_62) ∧ (r_62.toInt = 0 ∨ r_62.toInt = 1) := hw
              have hP : va_P D vwCl (va_pl L f_62) H := hP
              have hD : va_D A (va_pl L f_62) := hD
              have hF := FR_tr hF hF_62 (by decide)
              have hFX := FX_tr hFX hfx_62 (fun _ h9 => h9.elim) (by decide)
              have fb_63 : f_62 (g 26) = .inr (3, [.ref p_5, .int cnt_55]) := FR_at hF_62 s_5 (show (2 : Nat) ∉ ([13, 14] : List Nat) by decide) fg_55
              refine lv_goto (tgt := 121) hx hb dX4_readMarks_113 (by decide) ?_
              exact g_zret (r_62, f_62) hx hb hr hlocks hS (b01 (by subst hj1; omega)) rfl (⟨hI, hF, show Hd ((r_62.toInt = 1 ∧ ∃ m9 : Nat, 1 ≤ m9 ∧ m9 ≤ 7 ∧ (∀ k9 : Nat, 1 ≤ k9 → k9 ≤ m9 → Mrk (ks (i + k9))) ∧ ks (i + m9 + 1) = 59 ∧ TKm cI g ks vs f_62 (i + m9 + 1 + 1)) ∨ (r_62.toInt = 0 ∧ ∀ (E9 : Env1) (F9 : Int → Int), TFls ks vs (i, E9, F9))) from (by
                rcases hp_62 with ⟨h5, h6, h7⟩ | ⟨h5, h6⟩
                · exact Or.inl ⟨h5, ii.toInt.toNat, by omega, by omega, fun k9 h8 h9 => hmk k9 h8 (by subst hj1; omega), by rw [show i + ii.toInt.toNat + 1 = i + 1 + ii.toInt.toNat by omega]; exact h6, by rw [show i + ii.toInt.toNat + 1 + 1 = i + 1 + ii.toInt.toNat + 1 by omega]; exact h7⟩
                · exact Or.inr ⟨h5, fun E9 F9 => TF_6a (n := ii.toInt.toNat) hk6 (fun k9 h8 h9 => hmk k9 h8 (by subst hj1; omega)) (by rw [show i + ii.toInt.toNat + 1 = i + 1 + ii.toInt.toNat by omega]; unfold Mrk; omega) (Or.inr (by rw [show i + ii.toInt.toNat + 1 = i + 1 + ii.toInt.toNat by omega]; exact h6))⟩), show FX S (fun _ => False) [2, 3, 13, 14] f f_62 from (by first | assumption | omega | (subst hj1; omega)), show r_62.toInt = 0 ∨ r_62.toInt = 1 from (by first | assumption | omega | (subst hj1; omega))⟩) hP hD hQ (Nat.le_of_ble_eq_true rfl) (Nat.le_of_ble_eq_true rfl) dX4_readMarks_121
          · have kb_64 : ks (i + 1 + ii.toInt.toNat) = 63 := cK_p (hKO (i + 1 + ii.toInt.toNat)).1 (Or.inr ⟨by decide, by decide⟩) kk_22 c_53 (by decide)
            refine lv_aload_n hx hb dX4_readMarks_46 rfl (lv_at hl 0 rfl) ?_
            refine t_get (D := D) (L := L) (f := f_10) (ci := 4) (v := .ref (g 26)) (C := RX4) (T := TX4) (N := 11) hx hb hts (by decide +kernel) hown hK.1 hP (gm_13 hG) fg_23 rfl 8 (by decide) (hts (.fieldLink RX4 27 "JugglingHall$Reader" "marks" "LJugglingHall$Marks;") (by decide +kernel)) (fun _ h9 => h9) rfl dX4_readMarks_47 ?_
            refine lv_aload_n hx hb dX4_readMarks_50 rfl (lv_at hl 0 rfl) ?_
            refine t_get (D := D) (L := L) (f := f_10) (ci := 4) (v := .ref (g 14)) (C := RX4) (T := TX4) (N := 11) hx hb hts (by decide +kernel) hown hK.1 hP (gm_13 hG) fg_23 rfl 1 (by decide) (hts (.fieldLink RX4 41 "JugglingHall$Reader" "tokens" "LJugglingHall$Tokens;") (by decide +kernel)) (fun _ h9 => h9) rfl dX4_readMarks_51 ?_
            refine t_getN (D := D) (L := L) (f := f_10) (ci := 8) (v := .int kd_21) (C := RX8) (T := TX8) (N := 10) (host := "JugglingHall") hx hb hts (by decide +kernel) hown hK.1 hP (gm_14 hG) fg_21 rfl 6 (by decide) (hK.nw (.fieldLinkNest RX4 70 "JugglingHall$Tokens" "kind" "I" "JugglingHall") (by decide +kernel) rfl) (fun _ h9 => h9) rfl dX4_readMarks_54 ?_
            refine lv_iconst (v := 2) hx hb dX4_readMarks_57 (by decide) ?_
            refine a_icmp_ne (u := kd_21.toInt) (v := 2) (tgt := 71) hx hb dX4_readMarks_58 (by decide) (rfl) (by decide) (fun c_65 => ?_) (fun c_65 => ?_)
            · refine lv_iconst (v := (-1)) hx hb dX4_readMarks_71 (by decide) ?_
              obtain ⟨cnt_66, fg_66, v1_66, v2_66, mp_66, sp_66⟩ := op_2 hI m_5 s_5
              have hcn9 := CNf_at hcn fg_66
              have hz_67 : (-1 : Int32).toInt = (-1) := by decide
              obtain ⟨c_68, fg_68⟩ := op_3 hI mp_6 sp_6
              refine call_p (va_runV (As := [.int (-1)]) (rest := []) ⟨hx, hb, hml, hown, hts⟩ (t_X3_writem l D cI cR cM _   hj hG hI m_5 s_5 fg_66 fg_68 (by first | assumption | omega | (subst hj1; omega))) (cwV 1 hts gX4_readMarks_X3_write rfl rfl rfl (by decide +kernel) ⟨Nat.le_of_ble_eq_true rfl, Nat.le_of_ble_eq_true rfl⟩) (pre_T hK hP hD m_5 fg_66 rfl) rfl rfl hl.1 rfl (lv_room (Nat.le_of_ble_eq_true rfl)) dX4_readMarks_72 ⟨Nat.le_of_ble_eq_true rfl, Nat.le_of_ble_eq_true rfl⟩) hD hS hA (fun u_69 H locs hw hP hD hS => ?_)
              obtain ⟨r_69, f_69⟩ := u_69
              obtain ⟨hI, hF_69, hp_69, hfx_69, h01_69⟩ : IN jn cI cR cM g L S f_69 ∧ FR S [2, 3] f_10 f_69 ∧ ((r_69.toInt = 1 ∧ cnt_66.toInt < 7 ∧ CNf f_69 (g 26) (cnt_66.toInt + 1)) ∨ (r_69.toInt = 0 ∧ 7 ≤ cnt_66.toInt)) ∧ (FX S (fun _ => False) [2, 3] f_10 f_69) ∧ (r_69.toInt = 0 ∨ r_69.toInt = 1) := hw
              have hP : va_P D vwCl (va_pl L f_69) H := hP
              have hD : va_D A (va_pl L f_69) := hD
              have hF := FR_tr hF hF_69 (by decide)
              have hFX := FX_tr hFX hfx_69 (fun _ h9 => h9.elim) (by decide)
              have fb_70 : f_69 (g 14) = .inr (8, [.ref (g 11), .ref (g 31), .ref (g 32), .ref (g 33), .int cnt_21, .int nx_21, .int kd_21, .int vl_21, .int st_21, .int ls_21]) := FR_at hF_69 (gs_14 hG) (show (14 : Nat) ∉ ([2, 3] : List Nat) by decide) fg_21
              have fb_71 : f_69 (g 13) = .inr (4, [.int (nI jn), .ref (g 14), .ref (g 12), .ref (g 22), .ref (g 34), .ref (g 23), .ref (g 24), .ref (g 25), .ref (g 26), .int fa_23, .int pl_23]) := FR_at hF_69 (gs_13 hG) (show (13 : Nat) ∉ ([2, 3] : List Nat) by decide) fg_23
              refine a_if_ne (u := r_69.toInt) (tgt := 84) hx hb dX4_readMarks_75 (by decide) (rfl) (fun c_72 => ?_) (fun c_72 => ?_)
              · obtain ⟨-, hm1, hm2⟩ := hp_69.resolve_right (fun q9 => by have := q9.1; omega)
                have hN3 : CNf f_69 (g 26) (ii.toInt + 1) := by rw [← hcn9]; exact hm2
                have hC3 : TKm cI g ks vs f_69 (i + 1 + ii.toInt.toNat) := TKm_fr hCl hG hF_69 (by decide)
                refine lv_aload_n hx hb dX4_readMarks_84 rfl (lv_at hl 0 rfl) ?_
                refine t_get (D := D) (L := L) (f := f_69) (ci := 4) (v := .ref (g 14)) (C := RX4) (T := TX4) (N := 11) hx hb hts (by decide +kernel) hown hK.1 hP (gm_13 hG) fb_71 rfl 1 (by decide) (hts (.fieldLink RX4 41 "JugglingHall$Reader" "tokens" "LJugglingHall$Tokens;") (by decide +kernel)) (fun _ h9 => h9) rfl dX4_readMarks_85 ?_
                refine call_p (va_runV (As := []) (rest := []) ⟨hx, hb, hml, hown, hts⟩ (t_X8_advancem l D cI cR cM _ (ks := ks) (vs := vs) (i := i + 1 + ii.toInt.toNat)  hj hG hI  (by first | assumption | omega | (subst hj1; omega)) (hC3)) (cwV 0 hts gX4_readMarks_X8_advance rfl rfl rfl (by decide +kernel) ⟨Nat.le_of_ble_eq_true rfl, Nat.le_of_ble_eq_true rfl⟩) (pre_T hK hP hD (gm_14 hG) fb_70 rfl) rfl rfl hl.1 rfl (lv_room (Nat.le_of_ble_eq_true rfl)) dX4_readMarks_88 ⟨Nat.le_of_ble_eq_true rfl, Nat.le_of_ble_eq_true rfl⟩) hD hS hA (fun u_73 H locs hw hP hD hS => ?_)
                obtain ⟨f_73, e0_73⟩ : ∃ x, x = u_73 := ⟨_, rfl⟩
                subst e0_73
                obtain ⟨hI, hF_73, hC_73, hfx_73⟩ : IN jn cI cR cM g L S f_73 ∧ FR S [14] f_69 f_73 ∧ (TKm cI g ks vs f_73 ((i + 1 + ii.toInt.toNat) + 1)) ∧ (FX S (fun _ => False) [14] f_69 f_73) := hw
                have hP : va_P D vwCl (va_pl L f_73) H := hP
                have hD : va_D A (va_pl L f_73) := hD
                have hF := FR_tr hF hF_73 (by decide)
                have hFX := FX_tr hFX hfx_73 (fun _ h9 => h9.elim) (by decide)
                have fb_74 : f_73 (g 13) = .inr (4, [.int (nI jn), .ref (g 14), .ref (g 12), .ref (g 22), .ref (g 34), .ref (g 23), .ref (g 24), .ref (g 25), .ref (g 26), .int fa_23, .int pl_23]) := FR_at hF_73 (gs_13 hG) (show (13 : Nat) ∉ ([14] : List Nat) by decide) fb_71
                obtain ⟨z_75, q_75, e_75⟩ := i_inc (a := ii.toInt) (1) (rfl) (by decide) (by subst hj1; omega) (by subst hj1; omega)
                refine lv_iinc (v := z_75) (lv' := [(1, .int z_75), (0, .ref (g 13))]) hx hb dX4_readMarks_91 hl (k := 1) rfl q_75 (by decide) rfl (fun ls hl => ?_)
                refine lv_goto (tgt := 17) hx hb dX4_readMarks_94 (by decide) ?_
                exact ih17 z_75 f_73 _ _ _ (by subst hj1; omega) hI hF (by first | assumption | omega | (subst hj1; omega)) (by rw [show i + 1 + z_75.toInt.toNat = i + 1 + ii.toInt.toNat + 1 by omega]; exact hC_73) (fun k9 h8 h9 => by
                  by_cases q9 : (k9 : Int) ≤ ii.toInt
                  · exact hmk k9 h8 q9
                  · rw [show i + k9 = i + 1 + ii.toInt.toNat by omega]; unfold Mrk; omega) (by rw [show z_75.toInt = ii.toInt + 1 by omega]; exact CNf_fr (L := L) hN3 s26 hF_73 (by decide)) (by first | assumption | omega | (subst hj1; omega)) hP hD hS (lv_sub hl [1, 0] rfl)
              · refine lv_aload_n hx hb dX4_readMarks_78 rfl (lv_at hl 0 rfl) ?_
                refine lv_iconst (v := 4) hx hb dX4_readMarks_79 (by decide) ?_
                have hz_76 : (4 : Int32).toInt = 4 := by decide
                refine call_p (va_runV (As := [.int 4]) (rest := []) ⟨hx, hb, hml, hown, hts⟩ (t_X4_fail l D cI cR cM _   hj hG hI  ) (cwV 1 hts gX4_readMarks_X4_fail rfl rfl rfl (by decide +kernel) ⟨Nat.le_of_ble_eq_true rfl, Nat.le_of_ble_eq_true rfl⟩) (pre_T hK hP hD (gm_13 hG) fb_71 rfl) rfl rfl hl.1 rfl (lv_room (Nat.le_of_ble_eq_true rfl)) dX4_readMarks_80 ⟨Nat.le_of_ble_eq_true rfl, Nat.le_of_ble_eq_true rfl⟩) hD hS hA (fun u_77 H locs hw hP hD hS => ?_)
                obtain ⟨r_77, f_77⟩ := u_77
                obtain ⟨hI, hF_77, h0_77, h01_77⟩ : IN jn cI cR cM g L S f_77 ∧ FR S [13] f_69 f_77 ∧ (r_77.toInt = 0) ∧ (r_77.toInt = 0 ∨ r_77.toInt = 1) := hw
                have hP : va_P D vwCl (va_pl L f_77) H := hP
                have hD : va_D A (va_pl L f_77) := hD
                have hF := FR_tr hF hF_77 (by decide)
                have hFX := FX_trR hFX hF_77 (by decide) (by decide)
                have fb_78 : f_77 (g 14) = .inr (8, [.ref (g 11), .ref (g 31), .ref (g 32), .ref (g 33), .int cnt_21, .int nx_21, .int kd_21, .int vl_21, .int st_21, .int ls_21]) := FR_at hF_77 (gs_14 hG) (show (14 : Nat) ∉ ([13] : List Nat) by decide) fb_70
                exact g_zret (r_77, f_77) hx hb hr hlocks hS (b01 (by subst hj1; omega)) rfl (⟨hI, hF, show Hd ((r_77.toInt = 1 ∧ ∃ m9 : Nat, 1 ≤ m9 ∧ m9 ≤ 7 ∧ (∀ k9 : Nat, 1 ≤ k9 → k9 ≤ m9 → Mrk (ks (i + k9))) ∧ ks (i + m9 + 1) = 59 ∧ TKm cI g ks vs f_77 (i + m9 + 1 + 1)) ∨ (r_77.toInt = 0 ∧ ∀ (E9 : Env1) (F9 : Int → Int), TFls ks vs (i, E9, F9))) from (Or.inr ⟨h0_77, fun E9 F9 => TF_6b hk6 (fun k9 h8 h9 => by
                  have h7 := (hp_69.resolve_left (fun q9 => by have := q9.1; omega)).2
                  by_cases q9 : k9 ≤ 7
                  · exact hmk k9 h8 (by subst hj1; omega)
                  · rw [show i + k9 = i + 1 + ii.toInt.toNat by omega]; unfold Mrk; omega)⟩), show FX S (fun _ => False) [2, 3, 13, 14] f f_77 from (by first | assumption | omega | (subst hj1; omega)), show r_77.toInt = 0 ∨ r_77.toInt = 1 from (by first | assumption | omega | (subst hj1; omega))⟩) hP hD hQ (Nat.le_of_ble_eq_true rfl) (Nat.le_of_ble_eq_true rfl) dX4_readMarks_83
            · refine lv_aload_n hx hb dX4_readMarks_61 rfl (lv_at hl 0 rfl) ?_
              refine t_get (D := D) (L := L) (f := f_10) (ci := 4) (v := .ref (g 14)) (C := RX4) (T := TX4) (N := 11) hx hb hts (by decide +kernel) hown hK.1 hP (gm_13 hG) fg_23 rfl 1 (by decide) (hts (.fieldLink RX4 41 "JugglingHall$Reader" "tokens" "LJugglingHall$Tokens;") (by decide +kernel)) (fun _ h9 => h9) rfl dX4_readMarks_62 ?_
              refine t_getN (D := D) (L := L) (f := f_10) (ci := 8) (v := .int vl_21) (C := RX8) (T := TX8) (N := 10) (host := "JugglingHall") hx hb hts (by decide +kernel) hown hK.1 hP (gm_14 hG) fg_21 rfl 7 (by decide) (hK.nw (.fieldLinkNest RX4 113 "JugglingHall$Tokens" "value" "I" "JugglingHall") (by decide +kernel) rfl) (fun _ h9 => h9) rfl dX4_readMarks_65 ?_
              refine lv_goto (tgt := 72) hx hb dX4_readMarks_68 (by decide) ?_
              obtain ⟨cnt_79, fg_79, v1_79, v2_79, mp_79, sp_79⟩ := op_2 hI m_5 s_5
              have hcn9 := CNf_at hcn fg_79
              obtain ⟨c_80, fg_80⟩ := op_3 hI mp_6 sp_6
              refine call_p (va_runV (As := [.int vl_21]) (rest := []) ⟨hx, hb, hml, hown, hts⟩ (t_X3_writem l D cI cR cM _   hj hG hI m_5 s_5 fg_79 fg_80 (by first | assumption | omega | (subst hj1; omega))) (cwV 1 hts gX4_readMarks_X3_write rfl rfl rfl (by decide +kernel) ⟨Nat.le_of_ble_eq_true rfl, Nat.le_of_ble_eq_true rfl⟩) (pre_T hK hP hD m_5 fg_79 rfl) rfl rfl hl.1 rfl (lv_room (Nat.le_of_ble_eq_true rfl)) dX4_readMarks_72 ⟨Nat.le_of_ble_eq_true rfl, Nat.le_of_ble_eq_true rfl⟩) hD hS hA (fun u_81 H locs hw hP hD hS => ?_)
              obtain ⟨r_81, f_81⟩ := u_81
              obtain ⟨hI, hF_81, hp_81, hfx_81, h01_81⟩ : IN jn cI cR cM g L S f_81 ∧ FR S [2, 3] f_10 f_81 ∧ ((r_81.toInt = 1 ∧ cnt_79.toInt < 7 ∧ CNf f_81 (g 26) (cnt_79.toInt + 1)) ∨ (r_81.toInt = 0 ∧ 7 ≤ cnt_79.toInt)) ∧ (FX S (fun _ => False) [2, 3] f_10 f_81) ∧ (r_81.toInt = 0 ∨ r_81.toInt = 1) := hw
              have hP : va_P D vwCl (va_pl L f_81) H := hP
              have hD : va_D A (va_pl L f_81) := hD
              have hF := FR_tr hF hF_81 (by decide)
              have hFX := FX_tr hFX hfx_81 (fun _ h9 => h9.elim) (by decide)
              have fb_82 : f_81 (g 14) = .inr (8, [.ref (g 11), .ref (g 31), .ref (g 32), .ref (g 33), .int cnt_21, .int nx_21, .int kd_21, .int vl_21, .int st_21, .int ls_21]) := FR_at hF_81 (gs_14 hG) (show (14 : Nat) ∉ ([2, 3] : List Nat) by decide) fg_21
              have fb_83 : f_81 (g 13) = .inr (4, [.int (nI jn), .ref (g 14), .ref (g 12), .ref (g 22), .ref (g 34), .ref (g 23), .ref (g 24), .ref (g 25), .ref (g 26), .int fa_23, .int pl_23]) := FR_at hF_81 (gs_13 hG) (show (13 : Nat) ∉ ([2, 3] : List Nat) by decide) fg_23
              refine a_if_ne (u := r_81.toInt) (tgt := 84) hx hb dX4_readMarks_75 (by decide) (rfl) (fun c_84 => ?_) (fun c_84 => ?_)
              · obtain ⟨-, hm1, hm2⟩ := hp_81.resolve_right (fun q9 => by have := q9.1; omega)
                have hN3 : CNf f_81 (g 26) (ii.toInt + 1) := by rw [← hcn9]; exact hm2
                have hC3 : TKm cI g ks vs f_81 (i + 1 + ii.toInt.toNat) := TKm_fr hCl hG hF_81 (by decide)
                refine lv_aload_n hx hb dX4_readMarks_84 rfl (lv_at hl 0 rfl) ?_
                refine t_get (D := D) (L := L) (f := f_81) (ci := 4) (v := .ref (g 14)) (C := RX4) (T := TX4) (N := 11) hx hb hts (by decide +kernel) hown hK.1 hP (gm_13 hG) fb_83 rfl 1 (by decide) (hts (.fieldLink RX4 41 "JugglingHall$Reader" "tokens" "LJugglingHall$Tokens;") (by decide +kernel)) (fun _ h9 => h9) rfl dX4_readMarks_85 ?_
                refine call_p (va_runV (As := []) (rest := []) ⟨hx, hb, hml, hown, hts⟩ (t_X8_advancem l D cI cR cM _ (ks := ks) (vs := vs) (i := i + 1 + ii.toInt.toNat)  hj hG hI  (by first | assumption | omega | (subst hj1; omega)) (hC3)) (cwV 0 hts gX4_readMarks_X8_advance rfl rfl rfl (by decide +kernel) ⟨Nat.le_of_ble_eq_true rfl, Nat.le_of_ble_eq_true rfl⟩) (pre_T hK hP hD (gm_14 hG) fb_82 rfl) rfl rfl hl.1 rfl (lv_room (Nat.le_of_ble_eq_true rfl)) dX4_readMarks_88 ⟨Nat.le_of_ble_eq_true rfl, Nat.le_of_ble_eq_true rfl⟩) hD hS hA (fun u_85 H locs hw hP hD hS => ?_)
                obtain ⟨f_85, e0_85⟩ : ∃ x, x = u_85 := ⟨_, rfl⟩
                subst e0_85
                obtain ⟨hI, hF_85, hC_85, hfx_85⟩ : IN jn cI cR cM g L S f_85 ∧ FR S [14] f_81 f_85 ∧ (TKm cI g ks vs f_85 ((i + 1 + ii.toInt.toNat) + 1)) ∧ (FX S (fun _ => False) [14] f_81 f_85) := hw
                have hP : va_P D vwCl (va_pl L f_85) H := hP
                have hD : va_D A (va_pl L f_85) := hD
                have hF := FR_tr hF hF_85 (by decide)
                have hFX := FX_tr hFX hfx_85 (fun _ h9 => h9.elim) (by decide)
                have fb_86 : f_85 (g 13) = .inr (4, [.int (nI jn), .ref (g 14), .ref (g 12), .ref (g 22), .ref (g 34), .ref (g 23), .ref (g 24), .ref (g 25), .ref (g 26), .int fa_23, .int pl_23]) := FR_at hF_85 (gs_13 hG) (show (13 : Nat) ∉ ([14] : List Nat) by decide) fb_83
                obtain ⟨z_87, q_87, e_87⟩ := i_inc (a := ii.toInt) (1) (rfl) (by decide) (by subst hj1; omega) (by subst hj1; omega)
                refine lv_iinc (v := z_87) (lv' := [(1, .int z_87), (0, .ref (g 13))]) hx hb dX4_readMarks_91 hl (k := 1) rfl q_87 (by decide) rfl (fun ls hl => ?_)
                refine lv_goto (tgt := 17) hx hb dX4_readMarks_94 (by decide) ?_
                exact ih17 z_87 f_85 _ _ _ (by subst hj1; omega) hI hF (by first | assumption | omega | (subst hj1; omega)) (by rw [show i + 1 + z_87.toInt.toNat = i + 1 + ii.toInt.toNat + 1 by omega]; exact hC_85) (fun k9 h8 h9 => by
                  by_cases q9 : (k9 : Int) ≤ ii.toInt
                  · exact hmk k9 h8 q9
                  · rw [show i + k9 = i + 1 + ii.toInt.toNat by omega]; unfold Mrk; omega) (by rw [show z_87.toInt = ii.toInt + 1 by omega]; exact CNf_fr (L := L) hN3 s26 hF_85 (by decide)) (by first | assumption | omega | (subst hj1; omega)) hP hD hS (lv_sub hl [1, 0] rfl)
              · refine lv_aload_n hx hb dX4_readMarks_78 rfl (lv_at hl 0 rfl) ?_
                refine lv_iconst (v := 4) hx hb dX4_readMarks_79 (by decide) ?_
                have hz_88 : (4 : Int32).toInt = 4 := by decide
                refine call_p (va_runV (As := [.int 4]) (rest := []) ⟨hx, hb, hml, hown, hts⟩ (t_X4_fail l D cI cR cM _   hj hG hI  ) (cwV 1 hts gX4_readMarks_X4_fail rfl rfl rfl (by decide +kernel) ⟨Nat.le_of_ble_eq_true rfl, Nat.le_of_ble_eq_true rfl⟩) (pre_T hK hP hD (gm_13 hG) fb_83 rfl) rfl rfl hl.1 rfl (lv_room (Nat.le_of_ble_eq_true rfl)) dX4_readMarks_80 ⟨Nat.le_of_ble_eq_true rfl, Nat.le_of_ble_eq_true rfl⟩) hD hS hA (fun u_89 H locs hw hP hD hS => ?_)
                obtain ⟨r_89, f_89⟩ := u_89
                obtain ⟨hI, hF_89, h0_89, h01_89⟩ : IN jn cI cR cM g L S f_89 ∧ FR S [13] f_81 f_89 ∧ (r_89.toInt = 0) ∧ (r_89.toInt = 0 ∨ r_89.toInt = 1) := hw
                have hP : va_P D vwCl (va_pl L f_89) H := hP
                have hD : va_D A (va_pl L f_89) := hD
                have hF := FR_tr hF hF_89 (by decide)
                have hFX := FX_trR hFX hF_89 (by decide) (by decide)
                have fb_90 : f_89 (g 14) = .inr (8, [.ref (g 11), .ref (g 31), .ref (g 32), .ref (g 33), .int cnt_21, .int nx_21, .int kd_21, .int vl_21, .int st_21, .int ls_21]) := FR_at hF_89 (gs_14 hG) (show (14 : Nat) ∉ ([13] : List Nat) by decide) fb_82
                exact g_zret (r_89, f_89) hx hb hr hlocks hS (b01 (by subst hj1; omega)) rfl (⟨hI, hF, show Hd ((r_89.toInt = 1 ∧ ∃ m9 : Nat, 1 ≤ m9 ∧ m9 ≤ 7 ∧ (∀ k9 : Nat, 1 ≤ k9 → k9 ≤ m9 → Mrk (ks (i + k9))) ∧ ks (i + m9 + 1) = 59 ∧ TKm cI g ks vs f_89 (i + m9 + 1 + 1)) ∨ (r_89.toInt = 0 ∧ ∀ (E9 : Env1) (F9 : Int → Int), TFls ks vs (i, E9, F9))) from (Or.inr ⟨h0_89, fun E9 F9 => TF_6b hk6 (fun k9 h8 h9 => by
                  have h7 := (hp_81.resolve_left (fun q9 => by have := q9.1; omega)).2
                  by_cases q9 : k9 ≤ 7
                  · exact hmk k9 h8 (by subst hj1; omega)
                  · rw [show i + k9 = i + 1 + ii.toInt.toNat by omega]; unfold Mrk; omega)⟩), show FX S (fun _ => False) [2, 3, 13, 14] f f_89 from (by first | assumption | omega | (subst hj1; omega)), show r_89.toInt = 0 ∨ r_89.toInt = 1 from (by first | assumption | omega | (subst hj1; omega))⟩) hP hD hQ (Nat.le_of_ble_eq_true rfl) (Nat.le_of_ble_eq_true rfl) dX4_readMarks_83
  have hz_91 : (0 : Int32).toInt = 0 := by decide
  exact loop17 ((20 - (0 : Int32).toInt).toNat + 1) (0 : Int32) f_7 _ _ _ (by subst hj1; omega) hI hF (by first | assumption | omega | (subst hj1; omega)) (by rw [show i + 1 + (0 : Int32).toInt.toNat = i + 1 from rfl]; exact hC1) (fun k9 h8 h9 => absurd h9 (by rw [show (0 : Int32).toInt = 0 from rfl]; omega)) (by rw [show (0 : Int32).toInt = 0 from rfl]; exact hN1) (by first | assumption | omega | (subst hj1; omega)) hP hD hS (lv_sub hl [1, 0] rfl)
set_option maxRecDepth 100000 in
set_option maxHeartbeats 4000000 in
theorem t_X4_readRowm (l : Launch) (D : va_G) (cI cR cM : ClassId) (sz : Nat) {jn : Nat} {g : Nat → Nat} {L : List Nat} {S : Sg} {f : Nat → va_E} {ks vs : Nat → Int} {i : Nat} {lv gr : Nat → Nat} {E : Env1} {F : Int → Int} (hj : 1 ≤ jn ∧ jn ≤ 3) (hG : SG g L S) (hI : IN jn cI cR cM g L S f) (hj1 : jn = 1) (hC : TKm cI g ks vs f i) (hKO : KO ks vs) (hRD : RDC g lv gr S) (hLv : LvC cR g lv f) (hEC : EnvC cI cR jn g lv gr S f E F) (hEO : EOk E) (hk5 : ks i = 5) : Met l yX4_readRow wsX4_readRow ({ frames := 15, cells := 0, slots := 0, locals := 387 }) (P0 D cI cR cM [.ref (g 13)] sz (va_pl L f)) (QG (S := Int32 × (Nat → va_E)) (fun u => some (.int u.1)) (fun u => va_pl L u.2) (fun u => IN jn cI cR cM g L S u.2 ∧ FR S [0, 1, 13, 14, 34] f u.2 ∧ (Hd ((u.1.toInt = 1 ∧ ∃ (ic : Nat) (E1 : Env1) (F1 : Int → Int), Clp ks vs (i, E, F) (ic + 1, E1, F1) ∧ TKm cI g ks vs u.2 (ic + 1) ∧ EnvC cI cR jn g lv gr S u.2 E1 F1 ∧ EOk E1 ∧ i < ic) ∨ (u.1.toInt = 0 ∧ TFls ks vs (i, E, F)))) ∧ (FX S (NR g lv gr) [13, 14, 34] f u.2) ∧ (u.1.toInt = 0 ∨ u.1.toInt = 1)) D (va_A (va_pl L f) sz)) 0 0 (va_A (va_pl L f) sz) := by
  refine go (cc := cX4_readRow) (maxL := 2) (ret := (some .boolean)) (by decide +kernel) rfl (Nat.le_of_ble_eq_true rfl) ?_
  intro p e s m below meth c ls args Q hQ hsz hx hb hr hml hts hown hlocks hnm hP hK hD hl
  subst hsz
  have hD := hD.self (sz := s.heap.size)
  generalize hAe : va_A (va_pl L f) s.heap.size = A at hD hQ
  have hA : ∀ q, s.heap.size ≤ q → A q := fun q h => by rw [← hAe]; exact Or.inr h
  have hS : va_S A s.heap s.heap [] := va_S.rf
  have hFX : FX S (NR g lv gr) [13, 14, 34] f f := FX_rf
  have hF : FR S [0, 1, 13, 14, 34] f f := FR_rf
  have hl : lv_has ls 2 [(0, .ref (g 13))] := hl
  refine lv_aload_n hx hb dX4_readRow_0 rfl (lv_at hl 0 rfl) ?_
  obtain ⟨fa_1, pl_1, fg_1⟩ := op_13 hI (gm_13 hG) (gs_13 hG)
  refine t_get (D := D) (L := L) (f := f) (ci := 4) (v := .ref (g 14)) (C := RX4) (T := TX4) (N := 11) hx hb hts (by decide +kernel) hown hK.1 hP (gm_13 hG) fg_1 rfl 1 (by decide) (hts (.fieldLink RX4 41 "JugglingHall$Reader" "tokens" "LJugglingHall$Tokens;") (by decide +kernel)) (fun _ h9 => h9) rfl dX4_readRow_1 ?_
  obtain ⟨cnt_2, nx_2, kd_2, vl_2, st_2, ls_2, fg_2, iv0_2, iv1_2, iv2_2⟩ := op_14 hI (gm_14 hG) (gs_14 hG)
  refine call_p (va_runV (As := []) (rest := []) ⟨hx, hb, hml, hown, hts⟩ (t_X8_advancem l D cI cR cM _ (ks := ks) (vs := vs) (i := i)  hj hG hI  (by first | assumption | omega | (subst hj1; omega)) (hC)) (cwV 0 hts gX4_readRow_X8_advance rfl rfl rfl (by decide +kernel) ⟨Nat.le_of_ble_eq_true rfl, Nat.le_of_ble_eq_true rfl⟩) (pre_T hK hP hD (gm_14 hG) fg_2 rfl) rfl rfl hl.1 rfl (lv_room (Nat.le_of_ble_eq_true rfl)) dX4_readRow_4 ⟨Nat.le_of_ble_eq_true rfl, Nat.le_of_ble_eq_true rfl⟩) hD hS hA (fun u_3 H locs hw hP hD hS => ?_)
  obtain ⟨f_3, e0_3⟩ : ∃ x, x = u_3 := ⟨_, rfl⟩
  subst e0_3
  obtain ⟨hI, hF_3, hC_3, hfx_3⟩ : IN jn cI cR cM g L S f_3 ∧ FR S [14] f f_3 ∧ (TKm cI g ks vs f_3 ((i) + 1)) ∧ (FX S (fun _ => False) [14] f f_3) := hw
  have hP : va_P D vwCl (va_pl L f_3) H := hP
  have hD : va_D A (va_pl L f_3) := hD
  have hF := FR_tr hF hF_3 (by decide)
  have hFX := FX_tr hFX hfx_3 (fun _ h9 => h9.elim) (by decide)
  have fb_4 : f_3 (g 13) = .inr (4, [.int (nI jn), .ref (g 14), .ref (g 12), .ref (g 22), .ref (g 34), .ref (g 23), .ref (g 24), .ref (g 25), .ref (g 26), .int fa_1, .int pl_1]) := FR_at hF_3 (gs_13 hG) (show (13 : Nat) ∉ ([14] : List Nat) by decide) fg_1
  have hCm_3 : TKm cI g ks vs f_3 (i + 1) := hC_3
  have hLv_3 := LvC_fr hLv hG hF_3 (by decide)
  have hEC_3 := EnvC_fx hEC hG hF_3 hfx_3 (by decide) (by decide) (fun _ _ h9 => h9) (fun _ _ h9 => h9)
  refine lv_aload_n hx hb dX4_readRow_7 rfl (lv_at hl 0 rfl) ?_
  obtain ⟨cnt_5, nx_5, kd_5, vl_5, st_5, ls_5, fg_5, iv0_5, iv1_5, iv2_5⟩ := op_14 hI (gm_14 hG) (gs_14 hG)
  obtain ⟨kk_6, kv_6⟩ := TKm_k hCm_3 fg_5
  refine t_get (D := D) (L := L) (f := f_3) (ci := 4) (v := .ref (g 14)) (C := RX4) (T := TX4) (N := 11) hx hb hts (by decide +kernel) hown hK.1 hP (gm_13 hG) fb_4 rfl 1 (by decide) (hts (.fieldLink RX4 41 "JugglingHall$Reader" "tokens" "LJugglingHall$Tokens;") (by decide +kernel)) (fun _ h9 => h9) rfl dX4_readRow_8 ?_
  refine t_getN (D := D) (L := L) (f := f_3) (ci := 8) (v := .int vl_5) (C := RX8) (T := TX8) (N := 10) (host := "JugglingHall") hx hb hts (by decide +kernel) hown hK.1 hP (gm_14 hG) fg_5 rfl 7 (by decide) (hK.nw (.fieldLinkNest RX4 113 "JugglingHall$Tokens" "value" "I" "JugglingHall") (by decide +kernel) rfl) (fun _ h9 => h9) rfl dX4_readRow_11 ?_
  refine lv_istore_n (lv' := [(1, .int vl_5), (0, .ref (g 13))]) hx hb dX4_readRow_14 rfl hl (by decide) rfl (fun ls hl => ?_)
  refine lv_aload_n hx hb dX4_readRow_15 rfl (lv_at hl 1 rfl) ?_
  refine lv_iconst (v := 3) hx hb dX4_readRow_16 (by decide) ?_
  have hz_7 : (3 : Int32).toInt = 3 := by decide
  refine call_p (va_runV (As := [.int 3]) (rest := []) ⟨hx, hb, hml, hown, hts⟩ (t_X4_expectm l D cI cR cM _ (ks := ks) (vs := vs) (i := i + 1) (K9 := 2)  hj hG hI  (by first | assumption | omega | (subst hj1; omega)) (hCm_3) (by first | assumption | omega | (subst hj1; omega)) (by decide) (Or.inl ⟨by decide, by decide⟩)) (cwV 1 hts gX4_readRow_X4_expect rfl rfl rfl (by decide +kernel) ⟨Nat.le_of_ble_eq_true rfl, Nat.le_of_ble_eq_true rfl⟩) (pre_T hK hP hD (gm_13 hG) fb_4 rfl) rfl rfl hl.1 rfl (lv_room (Nat.le_of_ble_eq_true rfl)) dX4_readRow_17 ⟨Nat.le_of_ble_eq_true rfl, Nat.le_of_ble_eq_true rfl⟩) hD hS hA (fun u_8 H locs hw hP hD hS => ?_)
  obtain ⟨r_8, f_8⟩ := u_8
  obtain ⟨hI, hF_8, hp_8, hfx_8, h01_8⟩ : IN jn cI cR cM g L S f_8 ∧ FR S [13, 14] f_3 f_8 ∧ ((r_8.toInt = 1 ∧ ks (i + 1) = 2 ∧ TKm cI g ks vs f_8 ((i + 1) + 1)) ∨ (r_8.toInt = 0 ∧ ks (i + 1) ≠ 2)) ∧ (FX S (fun _ => False) [13, 14] f_3 f_8) ∧ (r_8.toInt = 0 ∨ r_8.toInt = 1) := hw
  have hP : va_P D vwCl (va_pl L f_8) H := hP
  have hD : va_D A (va_pl L f_8) := hD
  have hF := FR_tr hF hF_8 (by decide)
  have hFX := FX_tr hFX hfx_8 (fun _ h9 => h9.elim) (by decide)
  refine a_if_eq (u := r_8.toInt) (tgt := 49) hx hb dX4_readRow_20 (by decide) (rfl) (fun c_9 => ?_) (fun c_9 => ?_)
  · refine lv_iconst (v := 0) hx hb dX4_readRow_49 (by decide) ?_
    have hz_10 : (0 : Int32).toInt = 0 := by decide
    exact g_zret ((0 : Int32), f_8) hx hb hr hlocks hS (by first | exact Or.inl rfl | exact Or.inr rfl) rfl (⟨hI, hF, show Hd (((0 : Int32).toInt = 1 ∧ ∃ (ic : Nat) (E1 : Env1) (F1 : Int → Int), Clp ks vs (i, E, F) (ic + 1, E1, F1) ∧ TKm cI g ks vs f_8 (ic + 1) ∧ EnvC cI cR jn g lv gr S f_8 E1 F1 ∧ EOk E1 ∧ i < ic) ∨ ((0 : Int32).toInt = 0 ∧ TFls ks vs (i, E, F))) from (Or.inr ⟨rfl, TF_5a hk5 (fun q9 => (hp_8.resolve_left (fun q9 => by have := q9.1; omega)).2 q9.1)⟩), show FX S (NR g lv gr) [13, 14, 34] f f_8 from (by first | assumption | omega | (subst hj1; omega)), show (0 : Int32).toInt = 0 ∨ (0 : Int32).toInt = 1 from (by first | assumption | omega | (subst hj1; omega))⟩) hP hD hQ (Nat.le_of_ble_eq_true rfl) (Nat.le_of_ble_eq_true rfl) dX4_readRow_50
  · obtain ⟨-, hq2_8, hq3_8⟩ : _ ∧ ks (i + 1) = 2 ∧ TKm cI g ks vs f_8 (i + 2) := hp_8.resolve_right (fun q9 => by have := q9.1; omega)
    have hLv_8 := LvC_fr hLv_3 hG hF_8 (by decide)
    have hEC_8 := EnvC_fx hEC_3 hG hF_8 hfx_8 (by decide) (by decide) (fun _ _ h9 => h9) (fun _ _ h9 => h9)
    refine lv_aload_n hx hb dX4_readRow_23 rfl (lv_at hl 1 rfl) ?_
    refine lv_bipush (v := 61) hx hb dX4_readRow_24 (by decide) ?_
    have hz_11 : (61 : Int32).toInt = 61 := by decide
    obtain ⟨fa_12, pl_12, fg_12⟩ := op_13 hI (gm_13 hG) (gs_13 hG)
    refine call_p (va_runV (As := [.int 61]) (rest := []) ⟨hx, hb, hml, hown, hts⟩ (t_X4_expectm l D cI cR cM _ (ks := ks) (vs := vs) (i := i + 2) (K9 := 61)  hj hG hI  (by first | assumption | omega | (subst hj1; omega)) (hq3_8) (by first | assumption | omega | (subst hj1; omega)) (by decide) (Or.inr ⟨by decide, by decide⟩)) (cwV 1 hts gX4_readRow_X4_expect rfl rfl rfl (by decide +kernel) ⟨Nat.le_of_ble_eq_true rfl, Nat.le_of_ble_eq_true rfl⟩) (pre_T hK hP hD (gm_13 hG) fg_12 rfl) rfl rfl hl.1 rfl (lv_room (Nat.le_of_ble_eq_true rfl)) dX4_readRow_26 ⟨Nat.le_of_ble_eq_true rfl, Nat.le_of_ble_eq_true rfl⟩) hD hS hA (fun u_13 H locs hw hP hD hS => ?_)
    obtain ⟨r_13, f_13⟩ := u_13
    obtain ⟨hI, hF_13, hp_13, hfx_13, h01_13⟩ : IN jn cI cR cM g L S f_13 ∧ FR S [13, 14] f_8 f_13 ∧ ((r_13.toInt = 1 ∧ ks (i + 2) = 61 ∧ TKm cI g ks vs f_13 ((i + 2) + 1)) ∨ (r_13.toInt = 0 ∧ ks (i + 2) ≠ 61)) ∧ (FX S (fun _ => False) [13, 14] f_8 f_13) ∧ (r_13.toInt = 0 ∨ r_13.toInt = 1) := hw
    have hP : va_P D vwCl (va_pl L f_13) H := hP
    have hD : va_D A (va_pl L f_13) := hD
    have hF := FR_tr hF hF_13 (by decide)
    have hFX := FX_tr hFX hfx_13 (fun _ h9 => h9.elim) (by decide)
    refine a_if_eq (u := r_13.toInt) (tgt := 49) hx hb dX4_readRow_29 (by decide) (rfl) (fun c_14 => ?_) (fun c_14 => ?_)
    · refine lv_iconst (v := 0) hx hb dX4_readRow_49 (by decide) ?_
      have hz_15 : (0 : Int32).toInt = 0 := by decide
      exact g_zret ((0 : Int32), f_13) hx hb hr hlocks hS (by first | exact Or.inl rfl | exact Or.inr rfl) rfl (⟨hI, hF, show Hd (((0 : Int32).toInt = 1 ∧ ∃ (ic : Nat) (E1 : Env1) (F1 : Int → Int), Clp ks vs (i, E, F) (ic + 1, E1, F1) ∧ TKm cI g ks vs f_13 (ic + 1) ∧ EnvC cI cR jn g lv gr S f_13 E1 F1 ∧ EOk E1 ∧ i < ic) ∨ ((0 : Int32).toInt = 0 ∧ TFls ks vs (i, E, F))) from (Or.inr ⟨rfl, TF_5a hk5 (fun q9 => (hp_13.resolve_left (fun q9 => by have := q9.1; omega)).2 q9.2)⟩), show FX S (NR g lv gr) [13, 14, 34] f f_13 from (by first | assumption | omega | (subst hj1; omega)), show (0 : Int32).toInt = 0 ∨ (0 : Int32).toInt = 1 from (by first | assumption | omega | (subst hj1; omega))⟩) hP hD hQ (Nat.le_of_ble_eq_true rfl) (Nat.le_of_ble_eq_true rfl) dX4_readRow_50
    · obtain ⟨-, hq2_13, hq3_13⟩ : _ ∧ ks (i + 2) = 61 ∧ TKm cI g ks vs f_13 (i + 3) := hp_13.resolve_right (fun q9 => by have := q9.1; omega)
      have hLv_13 := LvC_fr hLv_8 hG hF_13 (by decide)
      have hEC_13 := EnvC_fx hEC_8 hG hF_13 hfx_13 (by decide) (by decide) (fun _ _ h9 => h9) (fun _ _ h9 => h9)
      refine lv_aload_n hx hb dX4_readRow_32 rfl (lv_at hl 1 rfl) ?_
      refine lv_iconst (v := 0) hx hb dX4_readRow_33 (by decide) ?_
      have hz_16 : (0 : Int32).toInt = 0 := by decide
      obtain ⟨fa_17, pl_17, fg_17⟩ := op_13 hI (gm_13 hG) (gs_13 hG)
      refine call_p (va_runV (As := [.int 0]) (rest := []) ⟨hx, hb, hml, hown, hts⟩ (t_X4_readSequencem_6 l D cI cR cM _ (i := (i + 3)) (top := (0 : Int)) (one := (0 : Int)) (w := (fun _ => (0 : Int))) (st := (fun _ => (0 : Int))) (op := (fun _ => (0 : Int))) (dg := (fun _ => (0 : Int))) (st1 := (fun _ => (0 : Int))) (op1 := (fun _ => (0 : Int))) (dg1 := (fun _ => (0 : Int))) (lv := lv) (gr := gr) (E := E) (F := F) (ks := ks) (vs := vs)  hj hG hI  (by first | assumption | omega | (subst hj1; omega)) (hq3_13) (by first | assumption | omega | (subst hj1; omega)) (hRD) (hLv_13) (hEC_13) (hEO) (by rw [show (0 : Int32).toInt = 0 from rfl]; omega) (by rw [show (0 : Int32).toInt = 0 from rfl]; omega) (by rw [show (0 : Int32).toInt = 0 from rfl]; exact MSb_0) (rfl) (fun _ _ _ => rfl) (fun _ _ _ => ⟨rfl, rfl⟩)) (cwV 1 hts gX4_readRow_X4_readSequence rfl rfl rfl (by decide +kernel) ⟨Nat.le_of_ble_eq_true rfl, Nat.le_of_ble_eq_true rfl⟩) (pre_T hK hP hD (gm_13 hG) fg_17 rfl) rfl rfl hl.1 rfl (lv_room (Nat.le_of_ble_eq_true rfl)) dX4_readRow_34 ⟨Nat.le_of_ble_eq_true rfl, Nat.le_of_ble_eq_true rfl⟩) hD hS hA (fun u_18 H locs hw hP hD hS => ?_)
      obtain ⟨r_18, f_18⟩ := u_18
      obtain ⟨hI, hF_18, hp_18, htn_18, hfx_18, h01_18⟩ : IN jn cI cR cM g L S f_18 ∧ FR S [0, 1, 13, 14, 34] f_13 f_18 ∧ (Hd ((r_18.toInt = 1 ∧ SeqR cI jn g lv S f_18 ks vs E (i + 3) (0 : Int32).toInt (0 : Int) (0 : Int) (fun _ => (0 : Int)) (fun _ => (0 : Int)) (fun _ => (0 : Int)) (fun _ => (0 : Int)) (fun _ => (0 : Int)) (fun _ => (0 : Int)) (fun _ => (0 : Int))) ∨ (r_18.toInt = 0 ∧ Fls ks vs E ((i + 3), (0 : Int32).toInt, (0 : Int), (0 : Int), 0, 0, (fun _ => (0 : Int)), (fun _ => (0 : Int)), (fun _ => (0 : Int)), (fun _ => (0 : Int)))))) ∧ (∀ k9 v9 : Int, 0 ≤ k9 → k9 < (0 : Int32).toInt → TNf cI g f_13 k9 v9 → TNf cI g f_18 k9 v9) ∧ (FX S (BXp g lv (0 : Int32).toInt) [13, 14, 34] f_13 f_18) ∧ (r_18.toInt = 0 ∨ r_18.toInt = 1) := hw
      have hP : va_P D vwCl (va_pl L f_18) H := hP
      have hD : va_D A (va_pl L f_18) := hD
      have hF := FR_tr hF hF_18 (by decide)
      have hFX := FX_tr hFX hfx_18 (fun a9 h9 => h9.elim (fun ⟨k9, _, h7, h6⟩ => Or.inl ⟨k9, h7, h6⟩) (fun q9 => Or.inr (Or.inr q9))) (by decide)
      have hpz_18 := hp_18
      rw [show (0 : Int32).toInt = 0 from rfl] at hpz_18
      refine a_if_eq (u := r_18.toInt) (tgt := 49) hx hb dX4_readRow_37 (by decide) (rfl) (fun c_19 => ?_) (fun c_19 => ?_)
      · refine lv_iconst (v := 0) hx hb dX4_readRow_49 (by decide) ?_
        have hz_20 : (0 : Int32).toInt = 0 := by decide
        exact g_zret ((0 : Int32), f_18) hx hb hr hlocks hS (by first | exact Or.inl rfl | exact Or.inr rfl) rfl (⟨hI, hF, show Hd (((0 : Int32).toInt = 1 ∧ ∃ (ic : Nat) (E1 : Env1) (F1 : Int → Int), Clp ks vs (i, E, F) (ic + 1, E1, F1) ∧ TKm cI g ks vs f_18 (ic + 1) ∧ EnvC cI cR jn g lv gr S f_18 E1 F1 ∧ EOk E1 ∧ i < ic) ∨ ((0 : Int32).toInt = 0 ∧ TFls ks vs (i, E, F))) from (Or.inr ⟨rfl, TF_5b hk5 (hpz_18.resolve_left (fun q9 => by have := q9.1; omega)).2⟩), show FX S (NR g lv gr) [13, 14, 34] f f_18 from (by first | assumption | omega | (subst hj1; omega)), show (0 : Int32).toInt = 0 ∨ (0 : Int32).toInt = 1 from (by first | assumption | omega | (subst hj1; omega))⟩) hP hD hQ (Nat.le_of_ble_eq_true rfl) (Nat.le_of_ble_eq_true rfl) dX4_readRow_50
      · obtain ⟨-, n_, i2_, top2_, one2_, may2_, w2_, st2_, op2_, dg2_, ⟨hq0, hq1, hq2, hqs, hqo, hqa, hqm, hqx, -⟩, hqp, hqn⟩ := hpz_18.resolve_right (fun q9 => by have := q9.1; omega)
        have hq0 : Go ks vs E (Cf0 (i + 3)) (i2_, 0, top2_, one2_, may2_, 1, w2_, st2_, op2_, dg2_) := hq0
        have hLv_18 := LvC_fr hLv_13 hG hF_18 (by decide)
        have hEC_18 := EnvC_fx hEC_13 hG hF_18 hfx_18 (by decide) (by decide) (nb_gr hRD) nb_nr
        obtain ⟨-, -, hqi, hqt⟩ := hqx.resolve_left (fun q9 => by have := q9.1; omega)
        refine lv_aload_n hx hb dX4_readRow_40 rfl (lv_at hl 1 rfl) ?_
        refine lv_bipush (v := 59) hx hb dX4_readRow_41 (by decide) ?_
        have hz_21 : (59 : Int32).toInt = 59 := by decide
        obtain ⟨fa_22, pl_22, fg_22⟩ := op_13 hI (gm_13 hG) (gs_13 hG)
        refine call_p (va_runV (As := [.int 59]) (rest := []) ⟨hx, hb, hml, hown, hts⟩ (t_X4_expectm l D cI cR cM _ (ks := ks) (vs := vs) (i := i2_) (K9 := 59)  hj hG hI  (by first | assumption | omega | (subst hj1; omega)) (hq1) (by first | assumption | omega | (subst hj1; omega)) (by decide) (Or.inr ⟨by decide, by decide⟩)) (cwV 1 hts gX4_readRow_X4_expect rfl rfl rfl (by decide +kernel) ⟨Nat.le_of_ble_eq_true rfl, Nat.le_of_ble_eq_true rfl⟩) (pre_T hK hP hD (gm_13 hG) fg_22 rfl) rfl rfl hl.1 rfl (lv_room (Nat.le_of_ble_eq_true rfl)) dX4_readRow_43 ⟨Nat.le_of_ble_eq_true rfl, Nat.le_of_ble_eq_true rfl⟩) hD hS hA (fun u_23 H locs hw hP hD hS => ?_)
        obtain ⟨r_23, f_23⟩ := u_23
        obtain ⟨hI, hF_23, hp_23, hfx_23, h01_23⟩ : IN jn cI cR cM g L S f_23 ∧ FR S [13, 14] f_18 f_23 ∧ ((r_23.toInt = 1 ∧ ks i2_ = 59 ∧ TKm cI g ks vs f_23 (i2_ + 1)) ∨ (r_23.toInt = 0 ∧ ks i2_ ≠ 59)) ∧ (FX S (fun _ => False) [13, 14] f_18 f_23) ∧ (r_23.toInt = 0 ∨ r_23.toInt = 1) := hw
        have hP : va_P D vwCl (va_pl L f_23) H := hP
        have hD : va_D A (va_pl L f_23) := hD
        have hF := FR_tr hF hF_23 (by decide)
        have hFX := FX_tr hFX hfx_23 (fun _ h9 => h9.elim) (by decide)
        refine a_if_ne (u := r_23.toInt) (tgt := 51) hx hb dX4_readRow_46 (by decide) (rfl) (fun c_24 => ?_) (fun c_24 => ?_)
        · obtain ⟨-, hk59, hq5⟩ := hp_23.resolve_right (fun q9 => by have := q9.1; omega)
          have hLv_23 := LvC_fr hLv_18 hG hF_23 (by decide)
          have hEC_23 := EnvC_fx hEC_18 hG hF_23 hfx_23 (by decide) (by decide) (fun _ _ h9 => h9) (fun _ _ h9 => h9)
          have hRq := RWf_fx hq2.2.2 hfx_23 (fun h9 => h9) (by decide)
          have hvr := (hKO (i + 1)).2.2 hq2_8
          have hlv9 : vl_5.toInt = vs (i + 1) := kv_6 (Or.inr hq2_8)
          refine lv_iload_n hx hb dX4_readRow_51 rfl (lv_at hl 0 rfl) ?_
          refine a_if_lt (u := vl_5.toInt) (tgt := 83) hx hb dX4_readRow_52 (by decide) (rfl) (fun c_25 => ?_) (fun c_25 => ?_)
          · refine lv_iconst (v := 0) hx hb dX4_readRow_83 (by decide) ?_
            have hz_26 : (0 : Int32).toInt = 0 := by decide
            exact g_zret ((0 : Int32), f_23) hx hb hr hlocks hS (by first | exact Or.inl rfl | exact Or.inr rfl) rfl (⟨hI, hF, show Hd (((0 : Int32).toInt = 1 ∧ ∃ (ic : Nat) (E1 : Env1) (F1 : Int → Int), Clp ks vs (i, E, F) (ic + 1, E1, F1) ∧ TKm cI g ks vs f_23 (ic + 1) ∧ EnvC cI cR jn g lv gr S f_23 E1 F1 ∧ EOk E1 ∧ i < ic) ∨ ((0 : Int32).toInt = 0 ∧ TFls ks vs (i, E, F))) from (by exfalso; first | omega | (have := hp_23.1; omega)), show FX S (NR g lv gr) [13, 14, 34] f f_23 from (by first | assumption | omega | (subst hj1; omega)), show (0 : Int32).toInt = 0 ∨ (0 : Int32).toInt = 1 from (by first | assumption | omega | (subst hj1; omega))⟩) hP hD hQ (Nat.le_of_ble_eq_true rfl) (Nat.le_of_ble_eq_true rfl) dX4_readRow_84
          · refine lv_iload_n hx hb dX4_readRow_55 rfl (lv_at hl 0 rfl) ?_
            refine lv_bipush (v := 8) hx hb dX4_readRow_56 (by decide) ?_
            refine a_icmp_ge (u := vl_5.toInt) (v := 8) (tgt := 83) hx hb dX4_readRow_58 (by decide) (rfl) (by decide) (fun c_27 => ?_) (fun c_27 => ?_)
            · refine lv_iconst (v := 0) hx hb dX4_readRow_83 (by decide) ?_
              have hz_28 : (0 : Int32).toInt = 0 := by decide
              exact g_zret ((0 : Int32), f_23) hx hb hr hlocks hS (by first | exact Or.inl rfl | exact Or.inr rfl) rfl (⟨hI, hF, show Hd (((0 : Int32).toInt = 1 ∧ ∃ (ic : Nat) (E1 : Env1) (F1 : Int → Int), Clp ks vs (i, E, F) (ic + 1, E1, F1) ∧ TKm cI g ks vs f_23 (ic + 1) ∧ EnvC cI cR jn g lv gr S f_23 E1 F1 ∧ EOk E1 ∧ i < ic) ∨ ((0 : Int32).toInt = 0 ∧ TFls ks vs (i, E, F))) from (by exfalso; first | omega | (have := hp_23.1; omega)), show FX S (NR g lv gr) [13, 14, 34] f f_23 from (by first | assumption | omega | (subst hj1; omega)), show (0 : Int32).toInt = 0 ∨ (0 : Int32).toInt = 1 from (by first | assumption | omega | (subst hj1; omega))⟩) hP hD hQ (Nat.le_of_ble_eq_true rfl) (Nat.le_of_ble_eq_true rfl) dX4_readRow_84
            · refine lv_aload_n hx hb dX4_readRow_61 rfl (lv_at hl 1 rfl) ?_
              obtain ⟨fa_29, pl_29, fg_29⟩ := op_13 hI (gm_13 hG) (gs_13 hG)
              refine t_get (D := D) (L := L) (f := f_23) (ci := 4) (v := .ref (g 23)) (C := RX4) (T := TX4) (N := 11) hx hb hts (by decide +kernel) hown hK.1 hP (gm_13 hG) fg_29 rfl 5 (by decide) (hts (.fieldLink RX4 21 "JugglingHall$Reader" "here" "[LJugglingHall$Row;") (by decide +kernel)) (fun _ h9 => h9) rfl dX4_readRow_62 ?_
              refine lv_iload_n hx hb dX4_readRow_65 rfl (lv_at hl 0 rfl) ?_
              obtain ⟨c_30, fg_30, iv0_30⟩ := op_23 hI (gm_23 hG) (gs_23 hG)
              refine t_aald (L := L) (f := f_23) (y := c_30) (u := vl_5.toInt) hx hb hK.1 hP (gm_23 hG) 1 fg_30 rfl dX4_readRow_66 (rfl) (by subst hj1; omega) (fun w_31 q_31 => ?_)
              obtain ⟨r_31, p_31, n_31, er_31, m_31, s_31⟩ := iv0_30 vl_5.toInt (by subst hj1; omega) (by subst hj1; omega)
              have q_31 := q_31.trans er_31
              subst q_31
              refine W.eq (g2 := F0 m 67 ls [.ref r_31]) rfl ?_
              have hh_31 : r_31 = gr (vs (i + 1)).toNat := EnvC_h (l := vs (i + 1)) hEC_23 fg_30 (by subst hj1; omega) (by subst hj1; omega) (by rw [show vs (i + 1) = vl_5.toInt by omega]; exact er_31)
              refine lv_aload_n hx hb dX4_readRow_67 rfl (lv_at hl 1 rfl) ?_
              refine t_get (D := D) (L := L) (f := f_23) (ci := 4) (v := .ref (g 22)) (C := RX4) (T := TX4) (N := 11) hx hb hts (by decide +kernel) hown hK.1 hP (gm_13 hG) fg_29 rfl 3 (by decide) (hts (.fieldLink RX4 13 "JugglingHall$Reader" "levels" "[LJugglingHall$Row;") (by decide +kernel)) (fun _ h9 => h9) rfl dX4_readRow_68 ?_
              refine lv_iconst (v := 0) hx hb dX4_readRow_71 (by decide) ?_
              obtain ⟨c_32, fg_32, iv0_32⟩ := op_22 hI (gm_22 hG) (gs_22 hG)
              refine t_aald (L := L) (f := f_23) (y := c_32) (u := 0) hx hb hK.1 hP (gm_22 hG) 1 fg_32 rfl dX4_readRow_72 (by decide) (by subst hj1; omega) (fun w_33 q_33 => ?_)
              obtain ⟨r_33, p_33, n_33, er_33, m_33, s_33⟩ := iv0_32 0 (by subst hj1; omega) (by subst hj1; omega)
              have q_33 := q_33.trans er_33
              subst q_33
              refine W.eq (g2 := F0 m 73 ls [.ref r_33, .ref r_31]) rfl ?_
              have hh_33 : r_33 = lv 0 := LvC_at (l := 0) hLv_23 fg_32 (by subst hj1; omega) (by subst hj1; omega) (by rw [show (0 : Int) = 0 by omega]; exact er_33)
              have hR_33 := RWf_e hRq hh_33
              obtain ⟨len_34, fg_34, v1_34, v2_34, v3_34, mp_34, sp_34⟩ := op_0 hI m_33 s_33
              obtain ⟨w1_34, w2_34, w3_34, w4_34, w5_34⟩ := lenw hj v1_34 v2_34 v3_34
              obtain ⟨c_35, fg_35, iv0_35⟩ := op_1 hI mp_34 sp_34
              obtain ⟨hl_36, hc_36⟩ := RWf_at hR_33 s_33 fg_34 fg_35
              have hN_31 := cap_of (S := S) (a := r_31) (k := 48) (by rw [hh_31]; exact (hRD.2.2.1 _ (by subst hj1; omega)).1) s_31
              have hne9 : r_33 ≠ r_31 := by rw [hh_33, hh_31]; exact hRD.2.2.2.1 0 _ (by subst hj1; omega) (by subst hj1; omega)
              have htb : top2_ - 0 ≤ 24 := hq2.2.1
              have hlx : len_34.toInt = top2_ - 0 := hl_36
              obtain ⟨len_37, fg_37, v1_37, v2_37, v3_37, mp_37, sp_37⟩ := op_0 hI m_31 s_31
              obtain ⟨w1_37, w2_37, w3_37, w4_37, w5_37⟩ := lenw hj v1_37 v2_37 v3_37
              obtain ⟨c_38, fg_38, iv0_38⟩ := op_1 hI mp_37 sp_37
              refine call_p (va_runV (As := [.ref r_33]) (rest := []) ⟨hx, hb, hml, hown, hts⟩ (t_X5_takeFromm l D cI cR cM _ (v := fun j => w2_ (2 * 0 + j))  hj hG hI m_31 s_31 fg_37 fg_38 m_33 s_33 fg_34 fg_35 (by first | assumption | omega | (subst hj1; omega)) (hne9) (by rw [hl_36]; exact hc_36) (by subst hj1; omega)) (cwV 1 hts gX4_readRow_X5_takeFrom rfl rfl rfl (by decide +kernel) ⟨Nat.le_of_ble_eq_true rfl, Nat.le_of_ble_eq_true rfl⟩) (pre_T hK hP hD m_31 fg_37 rfl) rfl rfl hl.1 rfl (lv_room (Nat.le_of_ble_eq_true rfl)) dX4_readRow_73 ⟨Nat.le_of_ble_eq_true rfl, Nat.le_of_ble_eq_true rfl⟩) hD hS hA (fun u_39 H locs hw hP hD hS => ?_)
              obtain ⟨r_39, f_39⟩ := u_39
              obtain ⟨hI, hF_39, hp_39, hfx_39, h01_39⟩ : IN jn cI cR cM g L S f_39 ∧ FR S [0, 1] f_23 f_39 ∧ (r_39.toInt = 1 ∧ RWf cI jn S f_39 r_31 len_34.toInt (fun j => w2_ (2 * 0 + j))) ∧ (FX S (fun a9 => a9 = r_31) [] f_23 f_39) ∧ (r_39.toInt = 0 ∨ r_39.toInt = 1) := hw
              have hP : va_P D vwCl (va_pl L f_39) H := hP
              have hD : va_D A (va_pl L f_39) := hD
              have hF := FR_tr hF hF_39 (by decide)
              have hFX := FX_tr hFX hfx_39 (fun a9 h9 => Or.inr (Or.inl ⟨(vs (i + 1)).toNat, by omega, h9.trans hh_31⟩)) (by decide)
              have fb_40 : f_39 (g 13) = .inr (4, [.int (nI jn), .ref (g 14), .ref (g 12), .ref (g 22), .ref (g 34), .ref (g 23), .ref (g 24), .ref (g 25), .ref (g 26), .int fa_29, .int pl_29]) := FR_at hF_39 (gs_13 hG) (show (13 : Nat) ∉ ([0, 1] : List Nat) by decide) fg_29
              have fb_41 : f_39 (g 23) = .inl (cR, 8, .inr (.inr (.inr (.inr c_30)))) := FR_at hF_39 (gs_23 hG) (show (23 : Nat) ∉ ([0, 1] : List Nat) by decide) fg_30
              have fb_42 : f_39 (g 22) = .inl (cR, 6, .inr (.inr (.inr (.inr c_32)))) := FR_at hF_39 (gs_22 hG) (show (22 : Nat) ∉ ([0, 1] : List Nat) by decide) fg_32
              refine a_if_eq (u := r_39.toInt) (tgt := 83) hx hb dX4_readRow_76 (by decide) (rfl) (fun c_43 => ?_) (fun c_43 => ?_)
              · refine lv_iconst (v := 0) hx hb dX4_readRow_83 (by decide) ?_
                have hz_44 : (0 : Int32).toInt = 0 := by decide
                exact g_zret ((0 : Int32), f_39) hx hb hr hlocks hS (by first | exact Or.inl rfl | exact Or.inr rfl) rfl (⟨hI, hF, show Hd (((0 : Int32).toInt = 1 ∧ ∃ (ic : Nat) (E1 : Env1) (F1 : Int → Int), Clp ks vs (i, E, F) (ic + 1, E1, F1) ∧ TKm cI g ks vs f_39 (ic + 1) ∧ EnvC cI cR jn g lv gr S f_39 E1 F1 ∧ EOk E1 ∧ i < ic) ∨ ((0 : Int32).toInt = 0 ∧ TFls ks vs (i, E, F))) from (by exfalso; first | omega | (have := hp_39.1; omega)), show FX S (NR g lv gr) [13, 14, 34] f f_39 from (by first | assumption | omega | (subst hj1; omega)), show (0 : Int32).toInt = 0 ∨ (0 : Int32).toInt = 1 from (by first | assumption | omega | (subst hj1; omega))⟩) hP hD hQ (Nat.le_of_ble_eq_true rfl) (Nat.le_of_ble_eq_true rfl) dX4_readRow_84
              · refine lv_iconst (v := 1) hx hb dX4_readRow_79 (by decide) ?_
                refine lv_goto (tgt := 84) hx hb dX4_readRow_80 (by decide) ?_
                have hz_45 : (1 : Int32).toInt = 1 := by decide
                exact g_zret ((1 : Int32), f_39) hx hb hr hlocks hS (by first | exact Or.inl rfl | exact Or.inr rfl) rfl (⟨hI, hF, show Hd (((1 : Int32).toInt = 1 ∧ ∃ (ic : Nat) (E1 : Env1) (F1 : Int → Int), Clp ks vs (i, E, F) (ic + 1, E1, F1) ∧ TKm cI g ks vs f_39 (ic + 1) ∧ EnvC cI cR jn g lv gr S f_39 E1 F1 ∧ EOk E1 ∧ i < ic) ∨ ((1 : Int32).toInt = 0 ∧ TFls ks vs (i, E, F))) from (by
                  have h9 := hp_39.2
                  rw [hl_36, show top2_ - (0 : Int) = top2_ by omega] at h9
                  have h8 := RWf_c (u := w2_) h9 (fun j9 _ _ => by show w2_ (2 * 0 + j9) = w2_ j9; rw [show 2 * 0 + j9 = j9 by omega])
                  exact Or.inl ⟨rfl, i2_, _, _, row_ok hk5 hq2_8 hq2_13 hq0 hqm hk59, TKm_fr hq5 hG hF_39 (by decide), EnvC_set hEC_23 hG hRD hF_39 hfx_39 (by decide) (by decide) hh_31 (by subst hj1; omega) (by subst hj1; omega) h8 (by subst hj1; omega), EOk_set hEO ⟨by omega, by omega⟩ hq2.1.2.2.2.2, by omega⟩), show FX S (NR g lv gr) [13, 14, 34] f f_39 from (by first | assumption | omega | (subst hj1; omega)), show (1 : Int32).toInt = 0 ∨ (1 : Int32).toInt = 1 from (by first | assumption | omega | (subst hj1; omega))⟩) hP hD hQ (Nat.le_of_ble_eq_true rfl) (Nat.le_of_ble_eq_true rfl) dX4_readRow_84
        · refine lv_iconst (v := 0) hx hb dX4_readRow_49 (by decide) ?_
          have hz_46 : (0 : Int32).toInt = 0 := by decide
          exact g_zret ((0 : Int32), f_23) hx hb hr hlocks hS (by first | exact Or.inl rfl | exact Or.inr rfl) rfl (⟨hI, hF, show Hd (((0 : Int32).toInt = 1 ∧ ∃ (ic : Nat) (E1 : Env1) (F1 : Int → Int), Clp ks vs (i, E, F) (ic + 1, E1, F1) ∧ TKm cI g ks vs f_23 (ic + 1) ∧ EnvC cI cR jn g lv gr S f_23 E1 F1 ∧ EOk E1 ∧ i < ic) ∨ ((0 : Int32).toInt = 0 ∧ TFls ks vs (i, E, F))) from (Or.inr ⟨rfl, row_F hk5 hq0 hqm hqn (hp_23.resolve_left (fun q9 => by have := q9.1; omega)).2⟩), show FX S (NR g lv gr) [13, 14, 34] f f_23 from (by first | assumption | omega | (subst hj1; omega)), show (0 : Int32).toInt = 0 ∨ (0 : Int32).toInt = 1 from (by first | assumption | omega | (subst hj1; omega))⟩) hP hD hQ (Nat.le_of_ble_eq_true rfl) (Nat.le_of_ble_eq_true rfl) dX4_readRow_50
