/-- the class's number for a kind of token -/
def cK (k : Int) : Int := if k = 1 then 2 else if k = 2 then 3 else if k = 3 then 1 else if k = 4 then 10 else if 5 ≤ k ∧ k ≤ 10 then k - 1 else k
def kOK (k : Int) : Prop := (0 ≤ k ∧ k ≤ 10) ∨ (40 ≤ k ∧ k ≤ 124)
theorem cK_f {k : Int} (h : kOK k) : (k = 0 ∧ cK k = 0) ∨ (k = 1 ∧ cK k = 2) ∨ (k = 2 ∧ cK k = 3) ∨ (k = 3 ∧ cK k = 1) ∨ (k = 4 ∧ cK k = 10) ∨ (5 ≤ k ∧ k ≤ 10 ∧ cK k = k - 1) ∨ (40 ≤ k ∧ k ≤ 124 ∧ cK k = k) := by
  unfold kOK at h
  unfold cK
  by_cases h1 : k = 1
  · rw [if_pos h1]; omega
  · rw [if_neg h1]
    by_cases h2 : k = 2
    · rw [if_pos h2]; omega
    · rw [if_neg h2]
      by_cases h3 : k = 3
      · rw [if_pos h3]; omega
      · rw [if_neg h3]
        by_cases h4 : k = 4
        · rw [if_pos h4]; omega
        · rw [if_neg h4]
          by_cases h5 : 5 ≤ k ∧ k ≤ 10
          · rw [if_pos h5]; omega
          · rw [if_neg h5]; omega
theorem cK_i {k l : Int} (h : kOK k) (h' : kOK l) (e : cK k = cK l) : k = l := by
  have a := cK_f h
  have b := cK_f h'
  omega
def KO (ks vs : Nat → Int) : Prop := ∀ i : Nat, kOK (ks i) ∧ (ks i = 1 → 0 ≤ vs i ∧ vs i ≤ 9) ∧ (ks i = 2 → 0 ≤ vs i ∧ vs i ≤ 7)
theorem KO_SM {B : Int → Int} {P ks vs : Nat → Int} (h : SM B P ks vs) : KO ks vs := by
  intro i
  obtain ⟨q, hq⟩ := h.2 i
  have hk := TkR_k hq
  refine ⟨?_, hk.2.2.1, hk.2.2.2⟩
  obtain ⟨a1, a2, a3, a4⟩ := hq
  unfold kOK
  unfold isSg at a4
  rcases a4 with a4 | a4 | a4 | a4
  · omega
  · omega
  · have := WKd_b a4.2.2.2.2.1
    omega
  · omega
/-- the class's token is the i-th -/
def TKm (cI : ClassId) (g : Nat → Nat) (ks vs : Nat → Int) (f : Nat → va_E) (i : Nat) : Prop := ∃ (cnt nx kd vl st ls : Int32) (ck cv : Nat → Int32), f (g 14) = .inr (8, [.ref (g 11), .ref (g 31), .ref (g 32), .ref (g 33), .int cnt, .int nx, .int kd, .int vl, .int st, .int ls]) ∧ f (g 31) = .inl (cI, 301, .inl ck) ∧ f (g 32) = .inl (cI, 301, .inl cv) ∧ (1 ≤ cnt.toInt ∧ cnt.toInt ≤ 301) ∧ kd.toInt = cK (ks i) ∧ (ks i = 1 ∨ ks i = 2 → vl.toInt = vs i) ∧ ((i : Int) + 1 ≤ cnt.toInt → nx.toInt = (i : Int) + 1) ∧ (cnt.toInt ≤ (i : Int) + 1 → nx.toInt = cnt.toInt) ∧ (∀ j : Nat, (j : Int) < cnt.toInt → (ck j).toInt = cK (ks j) ∧ (ks j = 1 ∨ ks j = 2 → (cv j).toInt = vs j)) ∧ (∀ j : Nat, cnt.toInt ≤ (j : Int) + 1 → ks j = 0)
theorem TKm_at {cI : ClassId} {g : Nat → Nat} {ks vs : Nat → Int} {f : Nat → va_E} {i : Nat} {cnt nx kd vl st ls : Int32} {ck cv : Nat → Int32} (h : TKm cI g ks vs f i) (h1 : f (g 14) = .inr (8, [.ref (g 11), .ref (g 31), .ref (g 32), .ref (g 33), .int cnt, .int nx, .int kd, .int vl, .int st, .int ls])) (h2 : f (g 31) = .inl (cI, 301, .inl ck)) (h3 : f (g 32) = .inl (cI, 301, .inl cv)) : (1 ≤ cnt.toInt ∧ cnt.toInt ≤ 301) ∧ kd.toInt = cK (ks i) ∧ (ks i = 1 ∨ ks i = 2 → vl.toInt = vs i) ∧ ((i : Int) + 1 ≤ cnt.toInt → nx.toInt = (i : Int) + 1) ∧ (cnt.toInt ≤ (i : Int) + 1 → nx.toInt = cnt.toInt) ∧ (∀ j : Nat, (j : Int) < cnt.toInt → (ck j).toInt = cK (ks j) ∧ (ks j = 1 ∨ ks j = 2 → (cv j).toInt = vs j)) ∧ (∀ j : Nat, cnt.toInt ≤ (j : Int) + 1 → ks j = 0) := by
  obtain ⟨a1, a2, a3, a4, a5, a6, b1, b2, q1, q2, q3, q4⟩ := h
  rw [h1] at q1
  rw [h2] at q2
  rw [h3] at q3
  cases q1
  cases q2
  cases q3
  exact q4
theorem TKm_k {cI : ClassId} {g : Nat → Nat} {ks vs : Nat → Int} {f : Nat → va_E} {i : Nat} {cnt nx kd vl st ls : Int32} (h : TKm cI g ks vs f i) (h1 : f (g 14) = .inr (8, [.ref (g 11), .ref (g 31), .ref (g 32), .ref (g 33), .int cnt, .int nx, .int kd, .int vl, .int st, .int ls])) : kd.toInt = cK (ks i) ∧ (ks i = 1 ∨ ks i = 2 → vl.toInt = vs i) := by
  obtain ⟨a1, a2, a3, a4, a5, a6, b1, b2, q1, q2, q3, q4⟩ := h
  rw [h1] at q1
  cases q1
  exact ⟨q4.2.1, q4.2.2.1⟩
theorem TKm_fx {cI : ClassId} {g : Nat → Nat} {L : List Nat} {S : Sg} {ks vs : Nat → Int} {B : Nat → Prop} {T : List Nat} {f f1 : Nat → va_E} {i : Nat} (h : TKm cI g ks vs f i) (hG : SG g L S) (hf : FR S T f f1) (ht : ∀ t ∈ ([14, 31, 32] : List Nat), t ∉ T) : TKm cI g ks vs f1 i := by
  obtain ⟨a1, a2, a3, a4, a5, a6, b1, b2, q1, q2, q3, q4⟩ := h
  refine ⟨a1, a2, a3, a4, a5, a6, b1, b2, ?_, ?_, ?_, q4⟩
  · rw [hf _ (by rw [gs_14 hG]; exact ht 14 (by decide))]; exact q1
  · rw [hf _ (by rw [gs_31 hG]; exact ht 31 (by decide))]; exact q2
  · rw [hf _ (by rw [gs_32 hG]; exact ht 32 (by decide))]; exact q3
theorem TKm_fr {cI : ClassId} {g : Nat → Nat} {L : List Nat} {S : Sg} {ks vs : Nat → Int} {T : List Nat} {f f1 : Nat → va_E} {i : Nat} (h : TKm cI g ks vs f i) (hG : SG g L S) (hf : FR S T f f1) (ht : ∀ t ∈ ([14, 31, 32] : List Nat), t ∉ T) : TKm cI g ks vs f1 i := TKm_fx (B := fun _ => False) h hG hf ht
theorem adv_e {ks vs : Nat → Int} {i : Nat} {cnt nx kd vl : Int32} {ck cv : Nat → Int32} (h : (1 ≤ cnt.toInt ∧ cnt.toInt ≤ 301) ∧ kd.toInt = cK (ks i) ∧ (ks i = 1 ∨ ks i = 2 → vl.toInt = vs i) ∧ ((i : Int) + 1 ≤ cnt.toInt → nx.toInt = (i : Int) + 1) ∧ (cnt.toInt ≤ (i : Int) + 1 → nx.toInt = cnt.toInt) ∧ (∀ j : Nat, (j : Int) < cnt.toInt → (ck j).toInt = cK (ks j) ∧ (ks j = 1 ∨ ks j = 2 → (cv j).toInt = vs j)) ∧ (∀ j : Nat, cnt.toInt ≤ (j : Int) + 1 → ks j = 0)) (hn : cnt.toInt ≤ nx.toInt) : (1 ≤ cnt.toInt ∧ cnt.toInt ≤ 301) ∧ kd.toInt = cK (ks (i + 1)) ∧ (ks (i + 1) = 1 ∨ ks (i + 1) = 2 → vl.toInt = vs (i + 1)) ∧ (((i + 1 : Nat) : Int) + 1 ≤ cnt.toInt → nx.toInt = ((i + 1 : Nat) : Int) + 1) ∧ (cnt.toInt ≤ ((i + 1 : Nat) : Int) + 1 → nx.toInt = cnt.toInt) ∧ (∀ j : Nat, (j : Int) < cnt.toInt → (ck j).toInt = cK (ks j) ∧ (ks j = 1 ∨ ks j = 2 → (cv j).toInt = vs j)) ∧ (∀ j : Nat, cnt.toInt ≤ (j : Int) + 1 → ks j = 0) := by
  obtain ⟨h1, h2, h3, h4, h5, h6, h7⟩ := h
  have e : cnt.toInt ≤ (i : Int) + 1 := by omega
  have k1 := h7 i e
  have k2 := h7 (i + 1) (by omega)
  refine ⟨h1, by rw [k2, ← k1]; exact h2, fun q => by omega, fun q => by have := h5 e; omega, fun q => h5 e, h6, h7⟩
theorem adv_n {ks vs : Nat → Int} {i : Nat} {cnt nx kd vl kd2 vl2 nx2 : Int32} {ck cv : Nat → Int32} (h : (1 ≤ cnt.toInt ∧ cnt.toInt ≤ 301) ∧ kd.toInt = cK (ks i) ∧ (ks i = 1 ∨ ks i = 2 → vl.toInt = vs i) ∧ ((i : Int) + 1 ≤ cnt.toInt → nx.toInt = (i : Int) + 1) ∧ (cnt.toInt ≤ (i : Int) + 1 → nx.toInt = cnt.toInt) ∧ (∀ j : Nat, (j : Int) < cnt.toInt → (ck j).toInt = cK (ks j) ∧ (ks j = 1 ∨ ks j = 2 → (cv j).toInt = vs j)) ∧ (∀ j : Nat, cnt.toInt ≤ (j : Int) + 1 → ks j = 0)) (hn : nx.toInt < cnt.toInt) (e1 : kd2 = ck nx.toInt.toNat) (e2 : vl2 = cv nx.toInt.toNat) (e3 : nx2.toInt = nx.toInt + 1) : (1 ≤ cnt.toInt ∧ cnt.toInt ≤ 301) ∧ kd2.toInt = cK (ks (i + 1)) ∧ (ks (i + 1) = 1 ∨ ks (i + 1) = 2 → vl2.toInt = vs (i + 1)) ∧ (((i + 1 : Nat) : Int) + 1 ≤ cnt.toInt → nx2.toInt = ((i + 1 : Nat) : Int) + 1) ∧ (cnt.toInt ≤ ((i + 1 : Nat) : Int) + 1 → nx2.toInt = cnt.toInt) ∧ (∀ j : Nat, (j : Int) < cnt.toInt → (ck j).toInt = cK (ks j) ∧ (ks j = 1 ∨ ks j = 2 → (cv j).toInt = vs j)) ∧ (∀ j : Nat, cnt.toInt ≤ (j : Int) + 1 → ks j = 0) := by
  obtain ⟨h1, h2, h3, h4, h5, h6, h7⟩ := h
  have e : nx.toInt = (i : Int) + 1 := by
    rcases (show (i : Int) + 1 ≤ cnt.toInt ∨ cnt.toInt ≤ (i : Int) + 1 by omega) with q | q
    · exact h4 q
    · have := h5 q; omega
  rw [e, show ((i : Int) + 1).toNat = i + 1 by omega] at e1 e2
  obtain ⟨t1, t2⟩ := h6 (i + 1) (by omega)
  refine ⟨h1, by rw [e1]; exact t1, fun q => by rw [e2]; exact t2 q, fun q => by omega, fun q => by omega, h6, h7⟩
set_option maxRecDepth 100000 in
set_option maxHeartbeats 4000000 in
theorem t_X8_advancem (l : Launch) (D : va_G) (cI cR cM : ClassId) (sz : Nat) {jn : Nat} {g : Nat → Nat} {L : List Nat} {S : Sg} {f : Nat → va_E} {ks vs : Nat → Int} {i : Nat} (hj : 1 ≤ jn ∧ jn ≤ 3) (hG : SG g L S) (hI : IN jn cI cR cM g L S f) (hj1 : jn = 1) (hC : TKm cI g ks vs f i) : Met l yX8_advance wsX8_advance ({ frames := 0, cells := 0, slots := 0, locals := 0 }) (P0 D cI cR cM [.ref (g 14)] sz (va_pl L f)) (QG (S := Nat → va_E) (fun u => none) (fun u => va_pl L u) (fun u => IN jn cI cR cM g L S u ∧ FR S [14] f u ∧ (TKm cI g ks vs u (i + 1)) ∧ (FX S (fun _ => False) [14] f u)) D (va_A (va_pl L f) sz)) 0 0 (va_A (va_pl L f) sz) := by
  refine go (cc := cX8_advance) (maxL := 1) (ret := none) (by decide +kernel) rfl (Nat.le_of_ble_eq_true rfl) ?_
  intro p e s m below meth c ls args Q hQ hsz hx hb hr hml hts hown hlocks hnm hP hK hD hl
  subst hsz
  have hD := hD.self (sz := s.heap.size)
  generalize hAe : va_A (va_pl L f) s.heap.size = A at hD hQ
  have hA : ∀ q, s.heap.size ≤ q → A q := fun q h => by rw [← hAe]; exact Or.inr h
  have hS : va_S A s.heap s.heap [] := va_S.rf
  have hFX : FX S (fun _ => False) [14] f f := FX_rf
  have hF : FR S [14] f f := FR_rf
  have hl : lv_has ls 1 [(0, .ref (g 14))] := hl
  obtain ⟨cnt_1, nx_1, kd_1, vl_1, st_1, ls_1, fg_1, iv0_1, iv1_1, iv2_1⟩ := op_14 hI (gm_14 hG) (gs_14 hG)
  obtain ⟨c_2, fg_2⟩ := op_31 hI (gm_31 hG) (gs_31 hG)
  obtain ⟨c_3, fg_3⟩ := op_32 hI (gm_32 hG) (gs_32 hG)
  have ht9 := TKm_at hC fg_1 fg_2 fg_3
  refine lv_aload_n hx hb dX8_advance_0 rfl (lv_at hl 0 rfl) ?_
  refine lv_aload_n hx hb dX8_advance_1 rfl (lv_at hl 0 rfl) ?_
  refine t_get (D := D) (L := L) (f := f) (ci := 8) (v := .int st_1) (C := RX8) (T := TX8) (N := 10) hx hb hts (by decide +kernel) hown hK.1 hP (gm_14 hG) fg_1 rfl 8 (by decide) (hts (.fieldLink RX8 56 "JugglingHall$Tokens" "start" "I") (by decide +kernel)) (fun _ h9 => h9) rfl dX8_advance_2 ?_
  refine t_put (D := D) (L := L) (f := f) (ci := 8) (v := .int st_1) (ty := .int) (C := RX8) (T := TX8) (N := 10) hx hb hts (by decide +kernel) tyX8 tyX8_ok nmX8 hown hK.1 hP hD hS (gm_14 hG) fg_1 rfl 9 (by decide) (hts (.fieldLink RX8 62 "JugglingHall$Tokens" "lastStart" "I") (by decide +kernel)) (fun _ h9 => h9) rfl (by decide +kernel) rfl rfl (Nat.le_of_ble_eq_true rfl) dX8_advance_5 (fun f_4 H locs e9_4 o_4 hP hD hS => ?_)
  have fa_4 : f_4 (g 14) = .inr (8, [.ref (g 11), .ref (g 31), .ref (g 32), .ref (g 33), .int cnt_1, .int nx_1, .int kd_1, .int vl_1, .int st_1, .int st_1]) := e9_4
  have hI := IN_set (e := .inr (8, [.ref (g 11), .ref (g 31), .ref (g 32), .ref (g 33), .int cnt_1, .int nx_1, .int kd_1, .int vl_1, .int st_1, .int st_1])) hI (gs_14 hG) (mk_14 (by first | assumption | omega | (subst hj1; omega)) (by first | assumption | omega | (subst hj1; omega)) (by first | assumption | omega | (subst hj1; omega))) fa_4 o_4
  have hF := FR_set hF (gs_14 hG) (show (14 : Nat) ∈ ([14] : List Nat) by decide) o_4
  have hFX := FX_setT hFX (gs_14 hG) (show (14 : Nat) ∈ ([14] : List Nat) by decide) o_4
  have fb_5 : f_4 (g 31) = .inl (cI, 301, .inl c_2) := f_at o_4 (S_ne (gs_31 hG) (gs_14 hG) (show (31 : Nat) ≠ 14 by decide)) fg_2
  have fb_6 : f_4 (g 32) = .inl (cI, 301, .inl c_3) := f_at o_4 (S_ne (gs_32 hG) (gs_14 hG) (show (32 : Nat) ≠ 14 by decide)) fg_3
  refine lv_aload_n hx hb dX8_advance_8 rfl (lv_at hl 0 rfl) ?_
  refine t_get (D := D) (L := L) (f := f_4) (ci := 8) (v := .int nx_1) (C := RX8) (T := TX8) (N := 10) hx hb hts (by decide +kernel) hown hK.1 hP (gm_14 hG) fa_4 rfl 5 (by decide) (hts (.fieldLink RX8 53 "JugglingHall$Tokens" "next" "I") (by decide +kernel)) (fun _ h9 => h9) rfl dX8_advance_9 ?_
  refine lv_aload_n hx hb dX8_advance_12 rfl (lv_at hl 0 rfl) ?_
  refine t_get (D := D) (L := L) (f := f_4) (ci := 8) (v := .int cnt_1) (C := RX8) (T := TX8) (N := 10) hx hb hts (by decide +kernel) hown hK.1 hP (gm_14 hG) fa_4 rfl 4 (by decide) (hts (.fieldLink RX8 25 "JugglingHall$Tokens" "count" "I") (by decide +kernel)) (fun _ h9 => h9) rfl dX8_advance_13 ?_
  refine a_icmp_ge (u := nx_1.toInt) (v := cnt_1.toInt) (tgt := 68) hx hb dX8_advance_16 (by decide) (rfl) (rfl) (fun c_7 => ?_) (fun c_7 => ?_)
  · exact g_vret f_4 hx hb hr hlocks hS rfl (⟨hI, hF, show TKm cI g ks vs f_4 (i + 1) from (⟨_, _, _, _, _, _, _, _, fa_4, fb_5, fb_6, adv_e ht9 (by subst hj1; omega)⟩), show FX S (fun _ => False) [14] f f_4 from (by first | assumption | omega | (subst hj1; omega))⟩) hP hD hQ (Nat.le_of_ble_eq_true rfl) (Nat.le_of_ble_eq_true rfl) dX8_advance_68
  · refine lv_aload_n hx hb dX8_advance_19 rfl (lv_at hl 0 rfl) ?_
    refine lv_aload_n hx hb dX8_advance_20 rfl (lv_at hl 0 rfl) ?_
    refine t_get (D := D) (L := L) (f := f_4) (ci := 8) (v := .ref (g 31)) (C := RX8) (T := TX8) (N := 10) hx hb hts (by decide +kernel) hown hK.1 hP (gm_14 hG) fa_4 rfl 1 (by decide) (hts (.fieldLink RX8 9 "JugglingHall$Tokens" "kinds" "[I") (by decide +kernel)) (fun _ h9 => h9) rfl dX8_advance_21 ?_
    refine lv_aload_n hx hb dX8_advance_24 rfl (lv_at hl 0 rfl) ?_
    refine t_get (D := D) (L := L) (f := f_4) (ci := 8) (v := .int nx_1) (C := RX8) (T := TX8) (N := 10) hx hb hts (by decide +kernel) hown hK.1 hP (gm_14 hG) fa_4 rfl 5 (by decide) (hts (.fieldLink RX8 53 "JugglingHall$Tokens" "next" "I") (by decide +kernel)) (fun _ h9 => h9) rfl dX8_advance_25 ?_
    refine t_iald (L := L) (f := f_4) (y := c_2) (u := nx_1.toInt) hx hb hK.1 hP (gm_31 hG) 0 fb_5 rfl dX8_advance_28 (rfl) (by subst hj1; omega) (fun z_8 q_8 e_8 => ?_)
    refine t_put (D := D) (L := L) (f := f_4) (ci := 8) (v := .int z_8) (ty := .int) (C := RX8) (T := TX8) (N := 10) hx hb hts (by decide +kernel) tyX8 tyX8_ok nmX8 hown hK.1 hP hD hS (gm_14 hG) fa_4 rfl 6 (by decide) (hts (.fieldLink RX8 65 "JugglingHall$Tokens" "kind" "I") (by decide +kernel)) (fun _ h9 => h9) rfl (by decide +kernel) rfl rfl (Nat.le_of_ble_eq_true rfl) dX8_advance_29 (fun f_9 H locs e9_9 o_9 hP hD hS => ?_)
    have fa_9 : f_9 (g 14) = .inr (8, [.ref (g 11), .ref (g 31), .ref (g 32), .ref (g 33), .int cnt_1, .int nx_1, .int z_8, .int vl_1, .int st_1, .int st_1]) := e9_9
    have hI := IN_set (e := .inr (8, [.ref (g 11), .ref (g 31), .ref (g 32), .ref (g 33), .int cnt_1, .int nx_1, .int z_8, .int vl_1, .int st_1, .int st_1])) hI (gs_14 hG) (mk_14 (by first | assumption | omega | (subst hj1; omega)) (by first | assumption | omega | (subst hj1; omega)) (by first | assumption | omega | (subst hj1; omega))) fa_9 o_9
    have hF := FR_set hF (gs_14 hG) (show (14 : Nat) ∈ ([14] : List Nat) by decide) o_9
    have hFX := FX_setT hFX (gs_14 hG) (show (14 : Nat) ∈ ([14] : List Nat) by decide) o_9
    have fb_10 : f_9 (g 31) = .inl (cI, 301, .inl c_2) := f_at o_9 (S_ne (gs_31 hG) (gs_14 hG) (show (31 : Nat) ≠ 14 by decide)) fb_5
    have fb_11 : f_9 (g 32) = .inl (cI, 301, .inl c_3) := f_at o_9 (S_ne (gs_32 hG) (gs_14 hG) (show (32 : Nat) ≠ 14 by decide)) fb_6
    refine lv_aload_n hx hb dX8_advance_32 rfl (lv_at hl 0 rfl) ?_
    refine lv_aload_n hx hb dX8_advance_33 rfl (lv_at hl 0 rfl) ?_
    refine t_get (D := D) (L := L) (f := f_9) (ci := 8) (v := .ref (g 32)) (C := RX8) (T := TX8) (N := 10) hx hb hts (by decide +kernel) hown hK.1 hP (gm_14 hG) fa_9 rfl 2 (by decide) (hts (.fieldLink RX8 15 "JugglingHall$Tokens" "values" "[I") (by decide +kernel)) (fun _ h9 => h9) rfl dX8_advance_34 ?_
    refine lv_aload_n hx hb dX8_advance_37 rfl (lv_at hl 0 rfl) ?_
    refine t_get (D := D) (L := L) (f := f_9) (ci := 8) (v := .int nx_1) (C := RX8) (T := TX8) (N := 10) hx hb hts (by decide +kernel) hown hK.1 hP (gm_14 hG) fa_9 rfl 5 (by decide) (hts (.fieldLink RX8 53 "JugglingHall$Tokens" "next" "I") (by decide +kernel)) (fun _ h9 => h9) rfl dX8_advance_38 ?_
    refine t_iald (L := L) (f := f_9) (y := c_3) (u := nx_1.toInt) hx hb hK.1 hP (gm_32 hG) 0 fb_11 rfl dX8_advance_41 (rfl) (by subst hj1; omega) (fun z_12 q_12 e_12 => ?_)
    refine t_put (D := D) (L := L) (f := f_9) (ci := 8) (v := .int z_12) (ty := .int) (C := RX8) (T := TX8) (N := 10) hx hb hts (by decide +kernel) tyX8 tyX8_ok nmX8 hown hK.1 hP hD hS (gm_14 hG) fa_9 rfl 7 (by decide) (hts (.fieldLink RX8 68 "JugglingHall$Tokens" "value" "I") (by decide +kernel)) (fun _ h9 => h9) rfl (by decide +kernel) rfl rfl (Nat.le_of_ble_eq_true rfl) dX8_advance_42 (fun f_13 H locs e9_13 o_13 hP hD hS => ?_)
    have fa_13 : f_13 (g 14) = .inr (8, [.ref (g 11), .ref (g 31), .ref (g 32), .ref (g 33), .int cnt_1, .int nx_1, .int z_8, .int z_12, .int st_1, .int st_1]) := e9_13
    have hI := IN_set (e := .inr (8, [.ref (g 11), .ref (g 31), .ref (g 32), .ref (g 33), .int cnt_1, .int nx_1, .int z_8, .int z_12, .int st_1, .int st_1])) hI (gs_14 hG) (mk_14 (by first | assumption | omega | (subst hj1; omega)) (by first | assumption | omega | (subst hj1; omega)) (by first | assumption | omega | (subst hj1; omega))) fa_13 o_13
    have hF := FR_set hF (gs_14 hG) (show (14 : Nat) ∈ ([14] : List Nat) by decide) o_13
    have hFX := FX_setT hFX (gs_14 hG) (show (14 : Nat) ∈ ([14] : List Nat) by decide) o_13
    have fb_14 : f_13 (g 31) = .inl (cI, 301, .inl c_2) := f_at o_13 (S_ne (gs_31 hG) (gs_14 hG) (show (31 : Nat) ≠ 14 by decide)) fb_10
    have fb_15 : f_13 (g 32) = .inl (cI, 301, .inl c_3) := f_at o_13 (S_ne (gs_32 hG) (gs_14 hG) (show (32 : Nat) ≠ 14 by decide)) fb_11
    refine lv_aload_n hx hb dX8_advance_45 rfl (lv_at hl 0 rfl) ?_
    refine lv_aload_n hx hb dX8_advance_46 rfl (lv_at hl 0 rfl) ?_
    refine t_get (D := D) (L := L) (f := f_13) (ci := 8) (v := .ref (g 33)) (C := RX8) (T := TX8) (N := 10) hx hb hts (by decide +kernel) hown hK.1 hP (gm_14 hG) fa_13 rfl 3 (by decide) (hts (.fieldLink RX8 18 "JugglingHall$Tokens" "starts" "[I") (by decide +kernel)) (fun _ h9 => h9) rfl dX8_advance_47 ?_
    refine lv_aload_n hx hb dX8_advance_50 rfl (lv_at hl 0 rfl) ?_
    refine t_get (D := D) (L := L) (f := f_13) (ci := 8) (v := .int nx_1) (C := RX8) (T := TX8) (N := 10) hx hb hts (by decide +kernel) hown hK.1 hP (gm_14 hG) fa_13 rfl 5 (by decide) (hts (.fieldLink RX8 53 "JugglingHall$Tokens" "next" "I") (by decide +kernel)) (fun _ h9 => h9) rfl dX8_advance_51 ?_
    obtain ⟨c_16, fg_16⟩ := op_33 hI (gm_33 hG) (gs_33 hG)
    refine t_iald (L := L) (f := f_13) (y := c_16) (u := nx_1.toInt) hx hb hK.1 hP (gm_33 hG) 0 fg_16 rfl dX8_advance_54 (rfl) (by subst hj1; omega) (fun z_17 q_17 e_17 => ?_)
    refine t_put (D := D) (L := L) (f := f_13) (ci := 8) (v := .int z_17) (ty := .int) (C := RX8) (T := TX8) (N := 10) hx hb hts (by decide +kernel) tyX8 tyX8_ok nmX8 hown hK.1 hP hD hS (gm_14 hG) fa_13 rfl 8 (by decide) (hts (.fieldLink RX8 56 "JugglingHall$Tokens" "start" "I") (by decide +kernel)) (fun _ h9 => h9) rfl (by decide +kernel) rfl rfl (Nat.le_of_ble_eq_true rfl) dX8_advance_55 (fun f_18 H locs e9_18 o_18 hP hD hS => ?_)
    have fa_18 : f_18 (g 14) = .inr (8, [.ref (g 11), .ref (g 31), .ref (g 32), .ref (g 33), .int cnt_1, .int nx_1, .int z_8, .int z_12, .int z_17, .int st_1]) := e9_18
    have hI := IN_set (e := .inr (8, [.ref (g 11), .ref (g 31), .ref (g 32), .ref (g 33), .int cnt_1, .int nx_1, .int z_8, .int z_12, .int z_17, .int st_1])) hI (gs_14 hG) (mk_14 (by first | assumption | omega | (subst hj1; omega)) (by first | assumption | omega | (subst hj1; omega)) (by first | assumption | omega | (subst hj1; omega))) fa_18 o_18
    have hF := FR_set hF (gs_14 hG) (show (14 : Nat) ∈ ([14] : List Nat) by decide) o_18
    have hFX := FX_setT hFX (gs_14 hG) (show (14 : Nat) ∈ ([14] : List Nat) by decide) o_18
    have fb_19 : f_18 (g 31) = .inl (cI, 301, .inl c_2) := f_at o_18 (S_ne (gs_31 hG) (gs_14 hG) (show (31 : Nat) ≠ 14 by decide)) fb_14
    have fb_20 : f_18 (g 32) = .inl (cI, 301, .inl c_3) := f_at o_18 (S_ne (gs_32 hG) (gs_14 hG) (show (32 : Nat) ≠ 14 by decide)) fb_15
    have fb_21 : f_18 (g 33) = .inl (cI, 301, .inl c_16) := f_at o_18 (S_ne (gs_33 hG) (gs_14 hG) (show (33 : Nat) ≠ 14 by decide)) fg_16
    refine lv_aload_n hx hb dX8_advance_58 rfl (lv_at hl 0 rfl) ?_
    refine lv_dup hx hb dX8_advance_59 rfl ?_
    refine t_get (D := D) (L := L) (f := f_18) (ci := 8) (v := .int nx_1) (C := RX8) (T := TX8) (N := 10) hx hb hts (by decide +kernel) hown hK.1 hP (gm_14 hG) fa_18 rfl 5 (by decide) (hts (.fieldLink RX8 53 "JugglingHall$Tokens" "next" "I") (by decide +kernel)) (fun _ h9 => h9) rfl dX8_advance_60 ?_
    refine lv_iconst (v := 1) hx hb dX8_advance_63 (by decide) ?_
    refine a_iadd (u := nx_1.toInt) (v := 1) hx hb dX8_advance_64 (rfl) (by decide) (by subst hj1; omega) (fun z_22 e_22 => ?_)
    refine t_put (D := D) (L := L) (f := f_18) (ci := 8) (v := .int z_22) (ty := .int) (C := RX8) (T := TX8) (N := 10) hx hb hts (by decide +kernel) tyX8 tyX8_ok nmX8 hown hK.1 hP hD hS (gm_14 hG) fa_18 rfl 5 (by decide) (hts (.fieldLink RX8 53 "JugglingHall$Tokens" "next" "I") (by decide +kernel)) (fun _ h9 => h9) rfl (by decide +kernel) rfl rfl (Nat.le_of_ble_eq_true rfl) dX8_advance_65 (fun f_23 H locs e9_23 o_23 hP hD hS => ?_)
    have fa_23 : f_23 (g 14) = .inr (8, [.ref (g 11), .ref (g 31), .ref (g 32), .ref (g 33), .int cnt_1, .int z_22, .int z_8, .int z_12, .int z_17, .int st_1]) := e9_23
    have hI := IN_set (e := .inr (8, [.ref (g 11), .ref (g 31), .ref (g 32), .ref (g 33), .int cnt_1, .int z_22, .int z_8, .int z_12, .int z_17, .int st_1])) hI (gs_14 hG) (mk_14 (by first | assumption | omega | (subst hj1; omega)) (by first | assumption | omega | (subst hj1; omega)) (by first | assumption | omega | (subst hj1; omega))) fa_23 o_23
    have hF := FR_set hF (gs_14 hG) (show (14 : Nat) ∈ ([14] : List Nat) by decide) o_23
    have hFX := FX_setT hFX (gs_14 hG) (show (14 : Nat) ∈ ([14] : List Nat) by decide) o_23
    have fb_24 : f_23 (g 31) = .inl (cI, 301, .inl c_2) := f_at o_23 (S_ne (gs_31 hG) (gs_14 hG) (show (31 : Nat) ≠ 14 by decide)) fb_19
    have fb_25 : f_23 (g 32) = .inl (cI, 301, .inl c_3) := f_at o_23 (S_ne (gs_32 hG) (gs_14 hG) (show (32 : Nat) ≠ 14 by decide)) fb_20
    have fb_26 : f_23 (g 33) = .inl (cI, 301, .inl c_16) := f_at o_23 (S_ne (gs_33 hG) (gs_14 hG) (show (33 : Nat) ≠ 14 by decide)) fb_21
    exact g_vret f_23 hx hb hr hlocks hS rfl (⟨hI, hF, show TKm cI g ks vs f_23 (i + 1) from (⟨_, _, _, _, _, _, _, _, fa_23, fb_24, fb_25, adv_n ht9 (by subst hj1; omega) q_8 q_12 (by subst hj1; omega)⟩), show FX S (fun _ => False) [14] f f_23 from (by first | assumption | omega | (subst hj1; omega))⟩) hP hD hQ (Nat.le_of_ble_eq_true rfl) (Nat.le_of_ble_eq_true rfl) dX8_advance_68
set_option maxRecDepth 100000 in
set_option maxHeartbeats 4000000 in
theorem t_X4_expectm (l : Launch) (D : va_G) (cI cR cM : ClassId) (sz : Nat) {jn : Nat} {g : Nat → Nat} {L : List Nat} {S : Sg} {f : Nat → va_E} {x : Int32} {ks vs : Nat → Int} {i : Nat} {K9 : Int} (hj : 1 ≤ jn ∧ jn ≤ 3) (hG : SG g L S) (hI : IN jn cI cR cM g L S f) (hj1 : jn = 1) (hC : TKm cI g ks vs f i) (hKO : KO ks vs) (hx9 : x.toInt = cK K9) (hK9 : kOK K9) : Met l yX4_expect wsX4_expect ({ frames := 1, cells := 0, slots := 0, locals := 21 }) (P0 D cI cR cM [.ref (g 13), .int x] sz (va_pl L f)) (QG (S := Int32 × (Nat → va_E)) (fun u => some (.int u.1)) (fun u => va_pl L u.2) (fun u => IN jn cI cR cM g L S u.2 ∧ FR S [13, 14] f u.2 ∧ ((u.1.toInt = 1 ∧ ks i = K9 ∧ TKm cI g ks vs u.2 (i + 1)) ∨ (u.1.toInt = 0 ∧ ks i ≠ K9)) ∧ (FX S (fun _ => False) [13, 14] f u.2) ∧ (u.1.toInt = 0 ∨ u.1.toInt = 1)) D (va_A (va_pl L f) sz)) 0 0 (va_A (va_pl L f) sz) := by
  refine go (cc := cX4_expect) (maxL := 2) (ret := (some .boolean)) (by decide +kernel) rfl (Nat.le_of_ble_eq_true rfl) ?_
  intro p e s m below meth c ls args Q hQ hsz hx hb hr hml hts hown hlocks hnm hP hK hD hl
  subst hsz
  have hD := hD.self (sz := s.heap.size)
  generalize hAe : va_A (va_pl L f) s.heap.size = A at hD hQ
  have hA : ∀ q, s.heap.size ≤ q → A q := fun q h => by rw [← hAe]; exact Or.inr h
  have hS : va_S A s.heap s.heap [] := va_S.rf
  have hFX : FX S (fun _ => False) [13, 14] f f := FX_rf
  have hF : FR S [13, 14] f f := FR_rf
  have hl : lv_has ls 2 [(0, .ref (g 13)), (1, .int x)] := hl
  obtain ⟨cnt_1, nx_1, kd_1, vl_1, st_1, ls_1, fg_1, iv0_1, iv1_1, iv2_1⟩ := op_14 hI (gm_14 hG) (gs_14 hG)
  obtain ⟨kk_2, kv_2⟩ := TKm_k hC fg_1
  have kq_2 := cK_f (hKO (i)).1
  have kr_2 := hKO (i)
  refine lv_aload_n hx hb dX4_expect_0 rfl (lv_at hl 0 rfl) ?_
  obtain ⟨fa_3, pl_3, fg_3⟩ := op_13 hI (gm_13 hG) (gs_13 hG)
  refine t_get (D := D) (L := L) (f := f) (ci := 4) (v := .ref (g 14)) (C := RX4) (T := TX4) (N := 11) hx hb hts (by decide +kernel) hown hK.1 hP (gm_13 hG) fg_3 rfl 1 (by decide) (hts (.fieldLink RX4 41 "JugglingHall$Reader" "tokens" "LJugglingHall$Tokens;") (by decide +kernel)) (fun _ h9 => h9) rfl dX4_expect_1 ?_
  refine t_getN (D := D) (L := L) (f := f) (ci := 8) (v := .int kd_1) (C := RX8) (T := TX8) (N := 10) (host := "JugglingHall") hx hb hts (by decide +kernel) hown hK.1 hP (gm_14 hG) fg_1 rfl 6 (by decide) (hK.nw (.fieldLinkNest RX4 70 "JugglingHall$Tokens" "kind" "I" "JugglingHall") (by decide +kernel) rfl) (fun _ h9 => h9) rfl dX4_expect_4 ?_
  refine lv_iload_n hx hb dX4_expect_7 rfl (lv_at hl 1 rfl) ?_
  refine a_icmp_eq (u := kd_1.toInt) (v := x.toInt) (tgt := 17) hx hb dX4_expect_8 (by decide) (rfl) (rfl) (fun c_4 => ?_) (fun c_4 => ?_)
  · refine lv_aload_n hx hb dX4_expect_17 rfl (lv_at hl 0 rfl) ?_
    refine t_get (D := D) (L := L) (f := f) (ci := 4) (v := .ref (g 14)) (C := RX4) (T := TX4) (N := 11) hx hb hts (by decide +kernel) hown hK.1 hP (gm_13 hG) fg_3 rfl 1 (by decide) (hts (.fieldLink RX4 41 "JugglingHall$Reader" "tokens" "LJugglingHall$Tokens;") (by decide +kernel)) (fun _ h9 => h9) rfl dX4_expect_18 ?_
    refine call_p (va_runV (As := []) (rest := []) ⟨hx, hb, hml, hown, hts⟩ (t_X8_advancem l D cI cR cM _ (ks := ks) (vs := vs) (i := i)  hj hG hI  (by first | assumption | omega | (subst hj1; omega)) (by first | assumption | omega | (subst hj1; omega))) (cwV 0 hts gX4_expect_X8_advance rfl rfl rfl (by decide +kernel) ⟨Nat.le_of_ble_eq_true rfl, Nat.le_of_ble_eq_true rfl⟩) (pre_T hK hP hD (gm_14 hG) fg_1 rfl) rfl rfl hl.1 rfl (lv_room (Nat.le_of_ble_eq_true rfl)) dX4_expect_21 ⟨Nat.le_of_ble_eq_true rfl, Nat.le_of_ble_eq_true rfl⟩) hD hS hA (fun u_5 H locs hw hP hD hS => ?_)
    obtain ⟨f_5, e0_5⟩ : ∃ x, x = u_5 := ⟨_, rfl⟩
    subst e0_5
    obtain ⟨hI, hF_5, hC_5, hfx_5⟩ : IN jn cI cR cM g L S f_5 ∧ FR S [14] f f_5 ∧ (TKm cI g ks vs f_5 (i + 1)) ∧ (FX S (fun _ => False) [14] f f_5) := hw
    have hP : va_P D vwCl (va_pl L f_5) H := hP
    have hD : va_D A (va_pl L f_5) := hD
    have hF := FR_tr hF hF_5 (by decide)
    have hFX := FX_tr hFX hfx_5 (fun _ h9 => h9) (by decide)
    have fb_6 : f_5 (g 13) = .inr (4, [.int (nI jn), .ref (g 14), .ref (g 12), .ref (g 22), .ref (g 34), .ref (g 23), .ref (g 24), .ref (g 25), .ref (g 26), .int fa_3, .int pl_3]) := FR_at hF_5 (gs_13 hG) (show (13 : Nat) ∉ ([14] : List Nat) by decide) fg_3
    refine lv_iconst (v := 1) hx hb dX4_expect_24 (by decide) ?_
    have hz_7 : (1 : Int32).toInt = 1 := by decide
    exact g_zret ((1 : Int32), f_5) hx hb hr hlocks hS (by first | exact Or.inl rfl | exact Or.inr rfl) rfl (⟨hI, hF, show ((1 : Int32).toInt = 1 ∧ ks i = K9 ∧ TKm cI g ks vs f_5 (i + 1)) ∨ ((1 : Int32).toInt = 0 ∧ ks i ≠ K9) from (Or.inl ⟨rfl, cK_i (hKO i).1 hK9 (by subst hj1; omega), hC_5⟩), show FX S (fun _ => False) [13, 14] f f_5 from (by first | assumption | omega | (subst hj1; omega)), show (1 : Int32).toInt = 0 ∨ (1 : Int32).toInt = 1 from (by first | assumption | omega | (subst hj1; omega))⟩) hP hD hQ (Nat.le_of_ble_eq_true rfl) (Nat.le_of_ble_eq_true rfl) dX4_expect_25
  · refine lv_aload_n hx hb dX4_expect_11 rfl (lv_at hl 0 rfl) ?_
    refine lv_iconst (v := 1) hx hb dX4_expect_12 (by decide) ?_
    have hz_8 : (1 : Int32).toInt = 1 := by decide
    refine call_p (va_runV (As := [.int 1]) (rest := []) ⟨hx, hb, hml, hown, hts⟩ (t_X4_fail l D cI cR cM _   hj hG hI  ) (cwV 1 hts gX4_expect_X4_fail rfl rfl rfl (by decide +kernel) ⟨Nat.le_of_ble_eq_true rfl, Nat.le_of_ble_eq_true rfl⟩) (pre_T hK hP hD (gm_13 hG) fg_3 rfl) rfl rfl hl.1 rfl (lv_room (Nat.le_of_ble_eq_true rfl)) dX4_expect_13 ⟨Nat.le_of_ble_eq_true rfl, Nat.le_of_ble_eq_true rfl⟩) hD hS hA (fun u_9 H locs hw hP hD hS => ?_)
    obtain ⟨r_9, f_9⟩ := u_9
    obtain ⟨hI, hF_9, h0_9, h01_9⟩ : IN jn cI cR cM g L S f_9 ∧ FR S [13] f f_9 ∧ (r_9.toInt = 0) ∧ (r_9.toInt = 0 ∨ r_9.toInt = 1) := hw
    have hP : va_P D vwCl (va_pl L f_9) H := hP
    have hD : va_D A (va_pl L f_9) := hD
    have hF := FR_tr hF hF_9 (by decide)
    have hFX := FX_trR hFX hF_9 (by decide) (by decide)
    have fb_10 : f_9 (g 14) = .inr (8, [.ref (g 11), .ref (g 31), .ref (g 32), .ref (g 33), .int cnt_1, .int nx_1, .int kd_1, .int vl_1, .int st_1, .int ls_1]) := FR_at hF_9 (gs_14 hG) (show (14 : Nat) ∉ ([13] : List Nat) by decide) fg_1
    exact g_zret (r_9, f_9) hx hb hr hlocks hS (b01 (by subst hj1; omega)) rfl (⟨hI, hF, show (r_9.toInt = 1 ∧ ks i = K9 ∧ TKm cI g ks vs f_9 (i + 1)) ∨ (r_9.toInt = 0 ∧ ks i ≠ K9) from (Or.inr ⟨h0_9, fun q9 => by rw [q9] at kk_2; omega⟩), show FX S (fun _ => False) [13, 14] f f_9 from (by first | assumption | omega | (subst hj1; omega)), show r_9.toInt = 0 ∨ r_9.toInt = 1 from (by first | assumption | omega | (subst hj1; omega))⟩) hP hD hQ (Nat.le_of_ble_eq_true rfl) (Nat.le_of_ble_eq_true rfl) dX4_expect_16
set_option maxRecDepth 100000 in
set_option maxHeartbeats 4000000 in
theorem t_X4_beginsOnem (l : Launch) (D : va_G) (cI cR cM : ClassId) (sz : Nat) {jn : Nat} {g : Nat → Nat} {L : List Nat} {S : Sg} {f : Nat → va_E} {ks vs : Nat → Int} {i : Nat} (hj : 1 ≤ jn ∧ jn ≤ 3) (hG : SG g L S) (hI : IN jn cI cR cM g L S f) (hj1 : jn = 1) (hC : TKm cI g ks vs f i) (hKO : KO ks vs) : Met l yX4_beginsOne wsX4_beginsOne ({ frames := 0, cells := 0, slots := 0, locals := 0 }) (P0 D cI cR cM [.ref (g 13)] sz (va_pl L f)) (QP (fun r => ((r.toInt = 1 ∧ (ks i = 1 ∨ ks i = 2 ∨ ks i = 91 ∨ ks i = 40 ∨ (7 ≤ ks i ∧ ks i ≤ 10))) ∨ (r.toInt = 0 ∧ ¬ (ks i = 1 ∨ ks i = 2 ∨ ks i = 91 ∨ ks i = 40 ∨ (7 ≤ ks i ∧ ks i ≤ 10)))) ∧ (r.toInt = 0 ∨ r.toInt = 1)) sz) 0 0 (va_A [] sz) := by
  refine go (cc := cX4_beginsOne) (maxL := 1) (ret := (some .boolean)) (by decide +kernel) rfl (Nat.le_of_ble_eq_true rfl) ?_
  intro p e s m below meth c ls args Q hQ hsz hx hb hr hml hts hown hlocks hnm hP hK hD hl
  subst hsz
  have hS : va_S (va_A [] s.heap.size) s.heap s.heap [] := va_S.rf
  have hA : ∀ q, s.heap.size ≤ q → va_A [] s.heap.size q := fun q h => Or.inr h
  have hl : lv_has ls 1 [(0, .ref (g 13))] := hl
  obtain ⟨cnt_1, nx_1, kd_1, vl_1, st_1, ls_1, fg_1, iv0_1, iv1_1, iv2_1⟩ := op_14 hI (gm_14 hG) (gs_14 hG)
  obtain ⟨kk_2, kv_2⟩ := TKm_k hC fg_1
  have kq_2 := cK_f (hKO (i)).1
  have kr_2 := hKO (i)
  refine lv_aload_n hx hb dX4_beginsOne_0 rfl (lv_at hl 0 rfl) ?_
  obtain ⟨fa_3, pl_3, fg_3⟩ := op_13 hI (gm_13 hG) (gs_13 hG)
  refine t_get (D := D) (L := L) (f := f) (ci := 4) (v := .ref (g 14)) (C := RX4) (T := TX4) (N := 11) hx hb hts (by decide +kernel) hown hK.1 hP (gm_13 hG) fg_3 rfl 1 (by decide) (hts (.fieldLink RX4 41 "JugglingHall$Reader" "tokens" "LJugglingHall$Tokens;") (by decide +kernel)) (fun _ h9 => h9) rfl dX4_beginsOne_1 ?_
  refine t_getN (D := D) (L := L) (f := f) (ci := 8) (v := .int kd_1) (C := RX8) (T := TX8) (N := 10) (host := "JugglingHall") hx hb hts (by decide +kernel) hown hK.1 hP (gm_14 hG) fg_1 rfl 6 (by decide) (hK.nw (.fieldLinkNest RX4 70 "JugglingHall$Tokens" "kind" "I" "JugglingHall") (by decide +kernel) rfl) (fun _ h9 => h9) rfl dX4_beginsOne_4 ?_
  have hu_4 : kd_1.toInt = kd_1.toInt := rfl
  rcases (show (kd_1.toInt = 2) ∨ (kd_1.toInt = 3) ∨ (kd_1.toInt = 6) ∨ (kd_1.toInt = 7) ∨ (kd_1.toInt = 8) ∨ (kd_1.toInt = 9) ∨ (kd_1.toInt = 40) ∨ (kd_1.toInt = 60) ∨ (kd_1.toInt = 91) ∨ (kd_1.toInt ≠ 2 ∧ kd_1.toInt ≠ 3 ∧ kd_1.toInt ≠ 6 ∧ kd_1.toInt ≠ 7 ∧ kd_1.toInt ≠ 8 ∧ kd_1.toInt ≠ 9 ∧ kd_1.toInt ≠ 40 ∧ kd_1.toInt ≠ 60 ∧ kd_1.toInt ≠ 91) by omega) with c_4 | c_4 | c_4 | c_4 | c_4 | c_4 | c_4 | c_4 | c_4 | c_4
  · refine lv_lookup (off := 83) (tgt := 90) hx hb dX4_beginsOne_7 (by decide) (by rw [hu_4, c_4]; decide) (by decide) ?_
    refine lv_aload_n hx hb dX4_beginsOne_90 rfl (lv_at hl 0 rfl) ?_
    refine t_get (D := D) (L := L) (f := f) (ci := 4) (v := .int (nI jn)) (C := RX4) (T := TX4) (N := 11) hx hb hts (by decide +kernel) hown hK.1 hP (gm_13 hG) fg_3 rfl 0 (by decide) (hts (.fieldLink RX4 38 "JugglingHall$Reader" "jugglers" "I") (by decide +kernel)) (fun _ h9 => h9) rfl dX4_beginsOne_91 ?_
    refine lv_iconst (v := 1) hx hb dX4_beginsOne_94 (by decide) ?_
    refine a_icmp_ne (u := (jn : Int)) (v := 1) (tgt := 102) hx hb dX4_beginsOne_95 (by decide) (nI_toInt (by subst hj1; omega)) (by decide) (fun c_5 => ?_) (fun c_5 => ?_)
    · refine lv_iconst (v := 0) hx hb dX4_beginsOne_102 (by decide) ?_
      have hz_6 : (0 : Int32).toInt = 0 := by decide
      exact rp_zret hx hb hr hlocks hS (by first | exact Or.inl rfl | exact Or.inr rfl) (⟨show ((0 : Int32).toInt = 1 ∧ (ks i = 1 ∨ ks i = 2 ∨ ks i = 91 ∨ ks i = 40 ∨ (7 ≤ ks i ∧ ks i ≤ 10))) ∨ ((0 : Int32).toInt = 0 ∧ ¬ (ks i = 1 ∨ ks i = 2 ∨ ks i = 91 ∨ ks i = 40 ∨ (7 ≤ ks i ∧ ks i ≤ 10))) from (by subst hj1; omega), show (0 : Int32).toInt = 0 ∨ (0 : Int32).toInt = 1 from (by first | assumption | omega | (subst hj1; omega))⟩) hQ dX4_beginsOne_103
    · refine lv_iconst (v := 1) hx hb dX4_beginsOne_98 (by decide) ?_
      refine lv_goto (tgt := 103) hx hb dX4_beginsOne_99 (by decide) ?_
      have hz_7 : (1 : Int32).toInt = 1 := by decide
      exact rp_zret hx hb hr hlocks hS (by first | exact Or.inl rfl | exact Or.inr rfl) (⟨show ((1 : Int32).toInt = 1 ∧ (ks i = 1 ∨ ks i = 2 ∨ ks i = 91 ∨ ks i = 40 ∨ (7 ≤ ks i ∧ ks i ≤ 10))) ∨ ((1 : Int32).toInt = 0 ∧ ¬ (ks i = 1 ∨ ks i = 2 ∨ ks i = 91 ∨ ks i = 40 ∨ (7 ≤ ks i ∧ ks i ≤ 10))) from (by subst hj1; omega), show (1 : Int32).toInt = 0 ∨ (1 : Int32).toInt = 1 from (by first | assumption | omega | (subst hj1; omega))⟩) hQ dX4_beginsOne_103
  · refine lv_lookup (off := 81) (tgt := 88) hx hb dX4_beginsOne_7 (by decide) (by rw [hu_4, c_4]; decide) (by decide) ?_
    refine lv_iconst (v := 1) hx hb dX4_beginsOne_88 (by decide) ?_
    have hz_8 : (1 : Int32).toInt = 1 := by decide
    exact rp_zret hx hb hr hlocks hS (by first | exact Or.inl rfl | exact Or.inr rfl) (⟨show ((1 : Int32).toInt = 1 ∧ (ks i = 1 ∨ ks i = 2 ∨ ks i = 91 ∨ ks i = 40 ∨ (7 ≤ ks i ∧ ks i ≤ 10))) ∨ ((1 : Int32).toInt = 0 ∧ ¬ (ks i = 1 ∨ ks i = 2 ∨ ks i = 91 ∨ ks i = 40 ∨ (7 ≤ ks i ∧ ks i ≤ 10))) from (by subst hj1; omega), show (1 : Int32).toInt = 0 ∨ (1 : Int32).toInt = 1 from (by first | assumption | omega | (subst hj1; omega))⟩) hQ dX4_beginsOne_89
  · refine lv_lookup (off := 81) (tgt := 88) hx hb dX4_beginsOne_7 (by decide) (by rw [hu_4, c_4]; decide) (by decide) ?_
    refine lv_iconst (v := 1) hx hb dX4_beginsOne_88 (by decide) ?_
    have hz_9 : (1 : Int32).toInt = 1 := by decide
    exact rp_zret hx hb hr hlocks hS (by first | exact Or.inl rfl | exact Or.inr rfl) (⟨show ((1 : Int32).toInt = 1 ∧ (ks i = 1 ∨ ks i = 2 ∨ ks i = 91 ∨ ks i = 40 ∨ (7 ≤ ks i ∧ ks i ≤ 10))) ∨ ((1 : Int32).toInt = 0 ∧ ¬ (ks i = 1 ∨ ks i = 2 ∨ ks i = 91 ∨ ks i = 40 ∨ (7 ≤ ks i ∧ ks i ≤ 10))) from (by subst hj1; omega), show (1 : Int32).toInt = 0 ∨ (1 : Int32).toInt = 1 from (by first | assumption | omega | (subst hj1; omega))⟩) hQ dX4_beginsOne_89
  · refine lv_lookup (off := 81) (tgt := 88) hx hb dX4_beginsOne_7 (by decide) (by rw [hu_4, c_4]; decide) (by decide) ?_
    refine lv_iconst (v := 1) hx hb dX4_beginsOne_88 (by decide) ?_
    have hz_10 : (1 : Int32).toInt = 1 := by decide
    exact rp_zret hx hb hr hlocks hS (by first | exact Or.inl rfl | exact Or.inr rfl) (⟨show ((1 : Int32).toInt = 1 ∧ (ks i = 1 ∨ ks i = 2 ∨ ks i = 91 ∨ ks i = 40 ∨ (7 ≤ ks i ∧ ks i ≤ 10))) ∨ ((1 : Int32).toInt = 0 ∧ ¬ (ks i = 1 ∨ ks i = 2 ∨ ks i = 91 ∨ ks i = 40 ∨ (7 ≤ ks i ∧ ks i ≤ 10))) from (by subst hj1; omega), show (1 : Int32).toInt = 0 ∨ (1 : Int32).toInt = 1 from (by first | assumption | omega | (subst hj1; omega))⟩) hQ dX4_beginsOne_89
  · refine lv_lookup (off := 81) (tgt := 88) hx hb dX4_beginsOne_7 (by decide) (by rw [hu_4, c_4]; decide) (by decide) ?_
    refine lv_iconst (v := 1) hx hb dX4_beginsOne_88 (by decide) ?_
    have hz_11 : (1 : Int32).toInt = 1 := by decide
    exact rp_zret hx hb hr hlocks hS (by first | exact Or.inl rfl | exact Or.inr rfl) (⟨show ((1 : Int32).toInt = 1 ∧ (ks i = 1 ∨ ks i = 2 ∨ ks i = 91 ∨ ks i = 40 ∨ (7 ≤ ks i ∧ ks i ≤ 10))) ∨ ((1 : Int32).toInt = 0 ∧ ¬ (ks i = 1 ∨ ks i = 2 ∨ ks i = 91 ∨ ks i = 40 ∨ (7 ≤ ks i ∧ ks i ≤ 10))) from (by subst hj1; omega), show (1 : Int32).toInt = 0 ∨ (1 : Int32).toInt = 1 from (by first | assumption | omega | (subst hj1; omega))⟩) hQ dX4_beginsOne_89
  · refine lv_lookup (off := 81) (tgt := 88) hx hb dX4_beginsOne_7 (by decide) (by rw [hu_4, c_4]; decide) (by decide) ?_
    refine lv_iconst (v := 1) hx hb dX4_beginsOne_88 (by decide) ?_
    have hz_12 : (1 : Int32).toInt = 1 := by decide
    exact rp_zret hx hb hr hlocks hS (by first | exact Or.inl rfl | exact Or.inr rfl) (⟨show ((1 : Int32).toInt = 1 ∧ (ks i = 1 ∨ ks i = 2 ∨ ks i = 91 ∨ ks i = 40 ∨ (7 ≤ ks i ∧ ks i ≤ 10))) ∨ ((1 : Int32).toInt = 0 ∧ ¬ (ks i = 1 ∨ ks i = 2 ∨ ks i = 91 ∨ ks i = 40 ∨ (7 ≤ ks i ∧ ks i ≤ 10))) from (by subst hj1; omega), show (1 : Int32).toInt = 0 ∨ (1 : Int32).toInt = 1 from (by first | assumption | omega | (subst hj1; omega))⟩) hQ dX4_beginsOne_89
  · refine lv_lookup (off := 81) (tgt := 88) hx hb dX4_beginsOne_7 (by decide) (by rw [hu_4, c_4]; decide) (by decide) ?_
    refine lv_iconst (v := 1) hx hb dX4_beginsOne_88 (by decide) ?_
    have hz_13 : (1 : Int32).toInt = 1 := by decide
    exact rp_zret hx hb hr hlocks hS (by first | exact Or.inl rfl | exact Or.inr rfl) (⟨show ((1 : Int32).toInt = 1 ∧ (ks i = 1 ∨ ks i = 2 ∨ ks i = 91 ∨ ks i = 40 ∨ (7 ≤ ks i ∧ ks i ≤ 10))) ∨ ((1 : Int32).toInt = 0 ∧ ¬ (ks i = 1 ∨ ks i = 2 ∨ ks i = 91 ∨ ks i = 40 ∨ (7 ≤ ks i ∧ ks i ≤ 10))) from (by subst hj1; omega), show (1 : Int32).toInt = 0 ∨ (1 : Int32).toInt = 1 from (by first | assumption | omega | (subst hj1; omega))⟩) hQ dX4_beginsOne_89
  · refine lv_lookup (off := 97) (tgt := 104) hx hb dX4_beginsOne_7 (by decide) (by rw [hu_4, c_4]; decide) (by decide) ?_
    refine lv_aload_n hx hb dX4_beginsOne_104 rfl (lv_at hl 0 rfl) ?_
    refine t_get (D := D) (L := L) (f := f) (ci := 4) (v := .int (nI jn)) (C := RX4) (T := TX4) (N := 11) hx hb hts (by decide +kernel) hown hK.1 hP (gm_13 hG) fg_3 rfl 0 (by decide) (hts (.fieldLink RX4 38 "JugglingHall$Reader" "jugglers" "I") (by decide +kernel)) (fun _ h9 => h9) rfl dX4_beginsOne_105 ?_
    refine lv_iconst (v := 1) hx hb dX4_beginsOne_108 (by decide) ?_
    refine a_icmp_le (u := (jn : Int)) (v := 1) (tgt := 116) hx hb dX4_beginsOne_109 (by decide) (nI_toInt (by subst hj1; omega)) (by decide) (fun c_14 => ?_) (fun c_14 => ?_)
    · refine lv_iconst (v := 0) hx hb dX4_beginsOne_116 (by decide) ?_
      have hz_15 : (0 : Int32).toInt = 0 := by decide
      exact rp_zret hx hb hr hlocks hS (by first | exact Or.inl rfl | exact Or.inr rfl) (⟨show ((0 : Int32).toInt = 1 ∧ (ks i = 1 ∨ ks i = 2 ∨ ks i = 91 ∨ ks i = 40 ∨ (7 ≤ ks i ∧ ks i ≤ 10))) ∨ ((0 : Int32).toInt = 0 ∧ ¬ (ks i = 1 ∨ ks i = 2 ∨ ks i = 91 ∨ ks i = 40 ∨ (7 ≤ ks i ∧ ks i ≤ 10))) from (by subst hj1; omega), show (0 : Int32).toInt = 0 ∨ (0 : Int32).toInt = 1 from (by first | assumption | omega | (subst hj1; omega))⟩) hQ dX4_beginsOne_117
    · refine lv_iconst (v := 1) hx hb dX4_beginsOne_112 (by decide) ?_
      refine lv_goto (tgt := 117) hx hb dX4_beginsOne_113 (by decide) ?_
      have hz_16 : (1 : Int32).toInt = 1 := by decide
      exact rp_zret hx hb hr hlocks hS (by first | exact Or.inl rfl | exact Or.inr rfl) (⟨show ((1 : Int32).toInt = 1 ∧ (ks i = 1 ∨ ks i = 2 ∨ ks i = 91 ∨ ks i = 40 ∨ (7 ≤ ks i ∧ ks i ≤ 10))) ∨ ((1 : Int32).toInt = 0 ∧ ¬ (ks i = 1 ∨ ks i = 2 ∨ ks i = 91 ∨ ks i = 40 ∨ (7 ≤ ks i ∧ ks i ≤ 10))) from (by subst hj1; omega), show (1 : Int32).toInt = 0 ∨ (1 : Int32).toInt = 1 from (by first | assumption | omega | (subst hj1; omega))⟩) hQ dX4_beginsOne_117
  · refine lv_lookup (off := 83) (tgt := 90) hx hb dX4_beginsOne_7 (by decide) (by rw [hu_4, c_4]; decide) (by decide) ?_
    refine lv_aload_n hx hb dX4_beginsOne_90 rfl (lv_at hl 0 rfl) ?_
    refine t_get (D := D) (L := L) (f := f) (ci := 4) (v := .int (nI jn)) (C := RX4) (T := TX4) (N := 11) hx hb hts (by decide +kernel) hown hK.1 hP (gm_13 hG) fg_3 rfl 0 (by decide) (hts (.fieldLink RX4 38 "JugglingHall$Reader" "jugglers" "I") (by decide +kernel)) (fun _ h9 => h9) rfl dX4_beginsOne_91 ?_
    refine lv_iconst (v := 1) hx hb dX4_beginsOne_94 (by decide) ?_
    refine a_icmp_ne (u := (jn : Int)) (v := 1) (tgt := 102) hx hb dX4_beginsOne_95 (by decide) (nI_toInt (by subst hj1; omega)) (by decide) (fun c_17 => ?_) (fun c_17 => ?_)
    · refine lv_iconst (v := 0) hx hb dX4_beginsOne_102 (by decide) ?_
      have hz_18 : (0 : Int32).toInt = 0 := by decide
      exact rp_zret hx hb hr hlocks hS (by first | exact Or.inl rfl | exact Or.inr rfl) (⟨show ((0 : Int32).toInt = 1 ∧ (ks i = 1 ∨ ks i = 2 ∨ ks i = 91 ∨ ks i = 40 ∨ (7 ≤ ks i ∧ ks i ≤ 10))) ∨ ((0 : Int32).toInt = 0 ∧ ¬ (ks i = 1 ∨ ks i = 2 ∨ ks i = 91 ∨ ks i = 40 ∨ (7 ≤ ks i ∧ ks i ≤ 10))) from (by subst hj1; omega), show (0 : Int32).toInt = 0 ∨ (0 : Int32).toInt = 1 from (by first | assumption | omega | (subst hj1; omega))⟩) hQ dX4_beginsOne_103
    · refine lv_iconst (v := 1) hx hb dX4_beginsOne_98 (by decide) ?_
      refine lv_goto (tgt := 103) hx hb dX4_beginsOne_99 (by decide) ?_
      have hz_19 : (1 : Int32).toInt = 1 := by decide
      exact rp_zret hx hb hr hlocks hS (by first | exact Or.inl rfl | exact Or.inr rfl) (⟨show ((1 : Int32).toInt = 1 ∧ (ks i = 1 ∨ ks i = 2 ∨ ks i = 91 ∨ ks i = 40 ∨ (7 ≤ ks i ∧ ks i ≤ 10))) ∨ ((1 : Int32).toInt = 0 ∧ ¬ (ks i = 1 ∨ ks i = 2 ∨ ks i = 91 ∨ ks i = 40 ∨ (7 ≤ ks i ∧ ks i ≤ 10))) from (by subst hj1; omega), show (1 : Int32).toInt = 0 ∨ (1 : Int32).toInt = 1 from (by first | assumption | omega | (subst hj1; omega))⟩) hQ dX4_beginsOne_103
  · refine lv_lookup (off := 111) (tgt := 118) hx hb dX4_beginsOne_7 (by decide) (by rw [hu_4]; exact (show Op.lookupswitch.offset [(2, 83), (3, 81), (6, 81), (7, 81), (8, 81), (9, 81), (40, 81), (60, 97), (91, 83)] (111) kd_1.toInt = (111) from lkc (by subst hj1; omega) (lkc (by subst hj1; omega) (lkc (by subst hj1; omega) (lkc (by subst hj1; omega) (lkc (by subst hj1; omega) (lkc (by subst hj1; omega) (lkc (by subst hj1; omega) (lkc (by subst hj1; omega) (lkc (by subst hj1; omega) (lkn _ _))))))))))) (by decide) ?_
    refine lv_iconst (v := 0) hx hb dX4_beginsOne_118 (by decide) ?_
    have hz_20 : (0 : Int32).toInt = 0 := by decide
    exact rp_zret hx hb hr hlocks hS (by first | exact Or.inl rfl | exact Or.inr rfl) (⟨show ((0 : Int32).toInt = 1 ∧ (ks i = 1 ∨ ks i = 2 ∨ ks i = 91 ∨ ks i = 40 ∨ (7 ≤ ks i ∧ ks i ≤ 10))) ∨ ((0 : Int32).toInt = 0 ∧ ¬ (ks i = 1 ∨ ks i = 2 ∨ ks i = 91 ∨ ks i = 40 ∨ (7 ≤ ks i ∧ ks i ≤ 10))) from (by subst hj1; omega), show (0 : Int32).toInt = 0 ∨ (0 : Int32).toInt = 1 from (by first | assumption | omega | (subst hj1; omega))⟩) hQ dX4_beginsOne_119
