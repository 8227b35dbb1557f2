def GrC (cR : ClassId) (g gr : Nat → Nat) (f : Nat → va_E) : Prop := ∃ ch, f (g 23) = refs cR 8 ch ∧ ∀ k : Nat, k < 8 → ch k = some (gr k)
/-- what the class holds (one juggler): the book's rows by times, the tape, the reader's own rows -/
def CLS (cI cR : ClassId) (jn : Nat) (g lv gr : Nat → Nat) (L : List Nat) (S : Sg) (f : Nat → va_E) (T lk : Int) (Ev : Int → Env1) (cb : Nat → Int32) (n : Int) : Prop := BkR cI cR jn g lv gr S f T lk Ev ∧ TpC cI g f cb n ∧ LvC cR g lv f ∧ GrC cR g gr f ∧ RDC g lv gr S ∧ OWN L S ∧ ∀ a, NR g lv gr a → a ∈ L
theorem GrC_fr {cR : ClassId} {g gr : Nat → Nat} {L : List Nat} {S : Sg} {f f1 : Nat → va_E} {T : List Nat} (h : GrC cR g gr f) (hG : SG g L S) (hF : FR S T f f1) (ht : 23 ∉ T) : GrC cR g gr f1 := by
  obtain ⟨c, q1, q2⟩ := h
  exact ⟨c, by rw [hF _ (by rw [gs_23 hG]; exact ht)]; exact q1, q2⟩
theorem BkR_fx {cI cR : ClassId} {jn : Nat} {g lv gr : Nat → Nat} {L : List Nat} {S : Sg} {f f1 : Nat → va_E} {T lk : Int} {Ev : Int → Env1} {T9 T2 : List Nat} (h : BkR cI cR jn g lv gr S f T lk Ev) (hG : SG g L S) (hF : FR S T9 f f1) (hX : FX S (NR g lv gr) T2 f f1) (ht : 12 ∉ T9 ∧ 20 ∉ T9) (h2 : 0 ∉ T2 ∧ 1 ∉ T2) : BkR cI cR jn g lv gr S f1 T lk Ev := by
  obtain ⟨cb, tm, lk9, h1, h2', h3, h4, h5⟩ := h
  exact ⟨cb, tm, lk9, by rw [hF _ (by rw [gs_20 hG]; exact ht.2)]; exact h1, by rw [hF _ (by rw [gs_12 hG]; exact ht.1)]; exact h2', h3, h4, fun t l t0 t1 l0 l1 => Pg_fx (h5 t l t0 t1 l0 l1) hX h2 (fun _ h => h)⟩
theorem BkR_K {cI cR : ClassId} {jn : Nat} {g lv gr : Nat → Nat} {S : Sg} {f : Nat → va_E} {T lk : Int} {Ev : Int → Env1} (h : BkR cI cR jn g lv gr S f T lk Ev) (hg : GrC cR g gr f) (hT : 0 ≤ T) : EnvK cI cR jn g lv gr S f (Ev T) := by
  obtain ⟨cb, tm, lk9, h1, h2, h3, h4, h5⟩ := h
  refine ⟨hg, cb, tm, lk9, h1, h2, fun l l0 l1 => ?_⟩
  rw [h3]; exact h5 T l hT (Int.le_refl _) l0 l1
theorem RDC_ext {g lv gr : Nat → Nat} {L L1 : List Nat} {S S1 : Sg} (h : RDC g lv gr S) (hX : EXT L S L1 S1) (hn : ∀ a, NR g lv gr a → a ∈ L) : RDC g lv gr S1 := by
  obtain ⟨⟨a1, a2, a3⟩, b, c, d, e, f⟩ := h
  refine ⟨⟨by rw [(hX _ (hn _ (Or.inr (Or.inr (Or.inl rfl))))).2]; exact a1, by rw [(hX _ (hn _ (Or.inr (Or.inr (Or.inr rfl))))).2]; exact a2, a3⟩, fun k hk => ⟨by rw [(hX _ (hn _ (Or.inl ⟨k, hk, rfl⟩))).2]; exact (b k hk).1, (b k hk).2⟩, fun k hk => ⟨by rw [(hX _ (hn _ (Or.inr (Or.inl ⟨k, hk, rfl⟩)))).2]; exact (c k hk).1, (c k hk).2⟩, d, e, f⟩
/-- what leaves the book, the tape and the rows as they are -/
theorem CLS_fr {cI cR : ClassId} {jn : Nat} {g lv gr : Nat → Nat} {L : List Nat} {S : Sg} {f f1 : Nat → va_E} {T lk : Int} {Ev : Int → Env1} {cb : Nat → Int32} {n : Int} {T9 : List Nat} (h : CLS cI cR jn g lv gr L S f T lk Ev cb n) (hG : SG g L S) (hF : FR S T9 f f1) (ht : ∀ t ∈ ([0, 1, 11, 12, 20, 22, 23, 30] : List Nat), t ∉ T9) : CLS cI cR jn g lv gr L S f1 T lk Ev cb n :=
  ⟨BkR_fr h.1 hG hF (fun t h => ht t (by revert t; decide)), TpC_fr h.2.1 hG hF ⟨ht 11 (by decide), ht 30 (by decide)⟩, LvC_fr h.2.2.1 hG hF (ht 22 (by decide)), GrC_fr h.2.2.2.1 hG hF (ht 23 (by decide)), h.2.2.2.2⟩
theorem TpC_x {cI : ClassId} {g : Nat → Nat} {L : List Nat} {S : Sg} {f f1 : Nat → va_E} {cb : Nat → Int32} {n : Int} {T : List Nat} (h : TpC cI g f cb n) (hG : SG g L S) (hF : FRX L S T f f1) (ht : 11 ∉ T ∧ 30 ∉ T) : TpC cI g f1 cb n := by
  obtain ⟨l9, a1, a2, a3⟩ := h
  exact ⟨l9, by rw [hF _ (gm_11 hG) (by rw [gs_11 hG]; exact ht.1)]; exact a1, by rw [hF _ (gm_30 hG) (by rw [gs_30 hG]; exact ht.2)]; exact a2, a3⟩
theorem LvC_x {cR : ClassId} {g lv : Nat → Nat} {L : List Nat} {S : Sg} {f f1 : Nat → va_E} {T : List Nat} (h : LvC cR g lv f) (hG : SG g L S) (hF : FRX L S T f f1) (ht : 22 ∉ T) : LvC cR g lv f1 := by
  obtain ⟨c, q1, q2⟩ := h
  exact ⟨c, by rw [hF _ (gm_22 hG) (by rw [gs_22 hG]; exact ht)]; exact q1, q2⟩
theorem GrC_x {cR : ClassId} {g gr : Nat → Nat} {L : List Nat} {S : Sg} {f f1 : Nat → va_E} {T : List Nat} (h : GrC cR g gr f) (hG : SG g L S) (hF : FRX L S T f f1) (ht : 23 ∉ T) : GrC cR g gr f1 := by
  obtain ⟨c, q1, q2⟩ := h
  exact ⟨c, by rw [hF _ (gm_23 hG) (by rw [gs_23 hG]; exact ht)]; exact q1, q2⟩
theorem EnvC_11 {cI cR : ClassId} {jn : Nat} {g lv gr : Nat → Nat} {L : List Nat} {S : Sg} {f f1 : Nat → va_E} {E : Env1} {F : Int → Int} (h : EnvC cI cR jn g lv gr S f E F) (hG : SG g L S) (o1 : ∀ b, b ≠ g 11 → f1 b = f b) : EnvC cI cR jn g lv gr S f1 E F := by
  have hF : FR S [11] f f1 := FR_set FR_rf (gs_11 hG) (by decide) o1
  exact EnvC_fx h hG hF (FR_FX hF) (by decide) (by decide) (fun _ _ h => h) (fun _ _ h => h)
set_option maxRecDepth 100000 in
set_option maxHeartbeats 4000000 in
theorem t_X10_textm (l : Launch) (D : va_G) (cI cR cM : ClassId) (sz : Nat) {jn : Nat} {g : Nat → Nat} {L : List Nat} {S : Sg} {f : Nat → va_E} {adK adV : Nat → Nat} {B0 : Nat} {lv gr : Nat → Nat} {Ev : Int → Env1} {T9 lk9 : Int} {cb : Nat → Int32} {n9 : Int} {P ks vs : Nat → Int} (hj : 1 ≤ jn ∧ jn ≤ 3) (hG : SG g L S) (hI : IN jn cI cR cM g L S f) (hB : ∀ a, a ∈ L → B0 ≤ a) (hj1 : jn = 1) (hcl : CLS cI cR jn g lv gr L S f T9 lk9 Ev cb n9) (hSM : SM (sE cb n9) P ks vs) (hn9 : 0 ≤ n9 ∧ n9 ≤ 300) (hT9 : 0 ≤ T9 ∧ T9 ≤ 60) (hEO : EOk (Ev T9)) : Met l yX10_text wsX10_text ({ frames := 17, cells := 18, slots := 1193, locals := 430 }) (P0S D cI cR cM [.ref (g 10)] sz (va_pl L f) adK adV B0) (QG (S := Int32 × List Nat × Sg × (Nat → va_E)) (fun u => some (.int u.1)) (fun u => va_pl (u.2.1) (u.2.2.2)) (fun u => EXT L S u.2.1 u.2.2.1 ∧ IN jn cI cR cM g u.2.1 u.2.2.1 u.2.2.2 ∧ FRX L S [0, 1, 2, 3, 11, 12, 13, 14, 20, 21, 31, 32, 33, 34] f (u.2.2.2) ∧ (Hd ((T9 = 60 ∧ CLS cI cR jn g lv gr (u.2.1) (u.2.2.1) (u.2.2.2) T9 lk9 Ev cb n9) ∨ (T9 < 60 ∧ TFls ks vs (0, Ev T9, fun _ => 0) ∧ CLS cI cR jn g lv gr (u.2.1) (u.2.2.1) (u.2.2.2) T9 lk9 Ev cb 0) ∨ (T9 < 60 ∧ ∃ (i9 : Nat) (E9 : Env1) (F9 : Int → Int), TWel ks vs (0, Ev T9, fun _ => 0) (i9, E9, F9) ∧ EOk E9 ∧ CLS cI cR jn g lv gr (u.2.1) (u.2.2.1) (u.2.2.2) (T9 + 1) (T9 + 1) (evp Ev (T9 + 1) E9) cb 0)))) D (va_A (va_pl L f) sz)) 18 1193 (va_A (va_pl L f) sz) := by
  refine goS (cc := cX10_text) (maxL := 2) (ret := (some .int)) (by decide +kernel) rfl (Nat.le_of_ble_eq_true rfl) ?_
  intro p e s m below meth c ls args Q hQ hsz hx hb hr hml hts hown hlocks hnm hP hK hD hl hST
  subst hsz
  have hD := hD.self (sz := s.heap.size)
  generalize hAe : va_A (va_pl L f) s.heap.size = A at hD hQ
  have hA : ∀ q, s.heap.size ≤ q → A q := fun q h => by rw [← hAe]; exact Or.inr h
  have hS : va_S A s.heap s.heap [] := va_S.rf
  obtain ⟨L0, eL0⟩ : ∃ x, x = L := ⟨_, rfl⟩
  obtain ⟨S0, eS0⟩ : ∃ x, x = S := ⟨_, rfl⟩
  have hX : EXT L0 S0 L S := by rw [eL0, eS0]; exact EXT_rf
  have hF : FRX L0 S0 [0, 1, 2, 3, 11, 12, 13, 14, 20, 21, 31, 32, 33, 34] f f := FRX_rf
  have hAB : ∀ q, A q → B0 ≤ q := fun q h => by
    rw [← hAe] at h
    rcases h with ⟨k, e9, h⟩ | h
    · exact hB q (pl_mem h)
    · exact Nat.le_trans hST.1 h
  have hV := hST.2.1.narrow hAB
  have hZ9 := hST.2.2.2.1.narrow hAB
  have hQ9 := hST.2.2.2.2.narrow hAB
  have hl : lv_has ls 2 [(0, .ref (g 10))] := hl
  obtain ⟨cb0, tm0, lk0, q20, q12, qT, qlk, qP⟩ := hcl.1
  refine lv_aload_n hx hb dX10_text_0 rfl (lv_at hl 0 rfl) ?_
  have fg_1 := op_10 hI (gm_10 hG) (gs_10 hG)
  refine t_get (D := D) (L := L) (f := f) (ci := 10) (v := .ref (g 12)) (C := RX10) (T := TX10) (N := 8) hx hb hts (by decide +kernel) hown hK.1 hP (gm_10 hG) fg_1 rfl 2 (by decide) (hts (.fieldLink RX10 32 "JugglingHall" "book" "LJugglingHall$Book;") (by decide +kernel)) (fun _ h9 => h9) rfl dX10_text_1 ?_
  obtain ⟨tm_2, lk_2, fg_2, iv0_2, iv1_2, iv2_2⟩ := op_12 hI (gm_12 hG) (gs_12 hG)
  refine roP (va_runV (As := []) (rest := []) ⟨hx, hb, hml, hown, hts⟩ (t_X0_isFullm l D cI cR cM _   hj hG hI  ) (cwV 0 hts gX10_text_X0_isFull rfl rfl rfl (by decide +kernel) ⟨Nat.le_of_ble_eq_true rfl, Nat.le_of_ble_eq_true rfl⟩) (pre_T hK hP hD (gm_12 hG) fg_2 rfl) rfl rfl hl.1 rfl (lv_room (Nat.le_of_ble_eq_true rfl)) dX10_text_4 ⟨Nat.le_of_ble_eq_true rfl, Nat.le_of_ble_eq_true rfl⟩) hS hA hP (fun r_3 H locs hw hP hS => ?_)
  obtain ⟨hb_3, h01_3⟩ : (∀ tm lk, f (g 12) = .inr (0, [.ref (g 20), .ref (g 21), .int tm, .int lk]) → (r_3.toInt = 0 ∧ tm.toInt < 60) ∨ (r_3.toInt = 1 ∧ 60 ≤ tm.toInt)) ∧ (r_3.toInt = 0 ∨ r_3.toInt = 1) := hw
  have hfl := hb_3 _ _ q12
  have hfl2 : (r_3.toInt = 0 ∧ T9 < 60) ∨ (r_3.toInt = 1 ∧ 60 ≤ T9) := by rw [← qT]; exact hfl
  clear hfl
  refine a_if_eq (u := r_3.toInt) (tgt := 12) hx hb dX10_text_7 (by decide) (rfl) (fun c_4 => ?_) (fun c_4 => ?_)
  · refine lv_aload_n hx hb dX10_text_12 rfl (lv_at hl 0 rfl) ?_
    refine t_get (D := D) (L := L) (f := f) (ci := 10) (v := .ref (g 13)) (C := RX10) (T := TX10) (N := 8) hx hb hts (by decide +kernel) hown hK.1 hP (gm_10 hG) fg_1 rfl 3 (by decide) (hts (.fieldLink RX10 46 "JugglingHall" "reader" "LJugglingHall$Reader;") (by decide +kernel)) (fun _ h9 => h9) rfl dX10_text_13 ?_
    obtain ⟨fa_5, pl_5, fg_5⟩ := op_13 hI (gm_13 hG) (gs_13 hG)
    refine call_p (va_runV (As := []) (rest := []) ⟨hx, hb, hml, hown, hts⟩ (t_X4_readTapem l D cI cR cM _ (cb := cb) (n9 := n9) (P := P) (ks := ks) (vs := vs) (lv := lv) (gr := gr) (E := Ev T9)  hj hG hI hB  (by first | assumption | omega | (subst hj1; omega)) (hcl.2.1) (hSM) (hn9) (KO_SM hSM) (hcl.2.2.2.2.1) (hcl.2.2.1) (BkR_K hcl.1 hcl.2.2.2.1 (by subst hj1; omega)) (hEO)) (cwV 0 hts gX10_text_X4_readTape rfl rfl rfl (by decide +kernel) ⟨Nat.le_of_ble_eq_true rfl, Nat.le_of_ble_eq_true rfl⟩) (pre_TS hK hST hS hAB hP hD (gm_13 hG) fg_5 rfl) rfl rfl hl.1 rfl (lv_room (Nat.le_of_ble_eq_true rfl)) dX10_text_16 ⟨Nat.le_of_ble_eq_true rfl, Nat.le_of_ble_eq_true rfl⟩) hD hS hA (fun u_6 H locs hw hP hD hS => ?_)
    obtain ⟨r_6, f_6⟩ := u_6
    obtain ⟨hI, hF_6, hp_6, hfx_6, h01_6⟩ : IN jn cI cR cM g L S f_6 ∧ FR S [0, 1, 2, 3, 13, 14, 31, 32, 33, 34] f f_6 ∧ (Hd ((r_6.toInt = 1 ∧ ∃ (i9 : Nat) (E9 : Env1) (F9 : Int → Int), TWel ks vs (0, (Ev T9), fun _ => 0) (i9, E9, F9) ∧ EnvC cI cR jn g lv gr S f_6 E9 F9 ∧ EOk E9) ∨ (r_6.toInt = 0 ∧ TFls ks vs (0, (Ev T9), fun _ => 0)))) ∧ (FX S (NR g lv gr) [2, 3, 13, 14, 31, 32, 33, 34] f f_6) ∧ (r_6.toInt = 0 ∨ r_6.toInt = 1) := hw
    have hP : va_P D vwCl (va_pl L f_6) H := hP
    have hD : va_D A (va_pl L f_6) := hD
    have hF := FRX_tr hF hX hF_6 (by decide)
    have fb_7 : f_6 (g 10) = .inr (10, [.int (nI jn), .ref (g 11), .ref (g 12), .ref (g 13), .ref (g 15), .ref (g 16), .ref (g 17), .ref (g 18)]) := FR_at hF_6 (gs_10 hG) (show (10 : Nat) ∉ ([0, 1, 2, 3, 13, 14, 31, 32, 33, 34] : List Nat) by decide) fg_1
    have fb_8 : f_6 (g 12) = .inr (0, [.ref (g 20), .ref (g 21), .int tm_2, .int lk_2]) := FR_at hF_6 (gs_12 hG) (show (12 : Nat) ∉ ([0, 1, 2, 3, 13, 14, 31, 32, 33, 34] : List Nat) by decide) fg_2
    have hBk1 := BkR_fx hcl.1 hG hF_6 hfx_6 (by decide) (by decide)
    have hTp1 := TpC_fr hcl.2.1 hG hF_6 (by decide)
    have hLv1 := LvC_fr hcl.2.2.1 hG hF_6 (by decide)
    have hGr1 := GrC_fr hcl.2.2.2.1 hG hF_6 (by decide)
    refine lv_istore_n (lv' := [(1, .int r_6), (0, .ref (g 10))]) hx hb dX10_text_19 rfl hl (by decide) rfl (fun ls hl => ?_)
    refine lv_aload_n hx hb dX10_text_20 rfl (lv_at hl 1 rfl) ?_
    refine t_get (D := D) (L := L) (f := f_6) (ci := 10) (v := .ref (g 11)) (C := RX10) (T := TX10) (N := 8) hx hb hts (by decide +kernel) hown hK.1 hP (gm_10 hG) fb_7 rfl 1 (by decide) (hts (.fieldLink RX10 25 "JugglingHall" "tape" "LJugglingHall$Tape;") (by decide +kernel)) (fun _ h9 => h9) rfl dX10_text_21 ?_
    refine lv_iconst (v := 0) hx hb dX10_text_24 (by decide) ?_
    obtain ⟨len_9, fg_9, iv0_9, iv1_9⟩ := op_11 hI (gm_11 hG) (gs_11 hG)
    have hz_11 : (0 : Int32).toInt = 0 := by decide
    refine t_putN (D := D) (L := L) (f := f_6) (ci := 7) (v := .int 0) (ty := .int) (C := RX7) (T := TX7) (N := 2) (host := "JugglingHall") hx hb hts (by decide +kernel) tyX7 tyX7_ok nmX7 hown hK.1 hP hD hS (gm_11 hG) fg_9 rfl 1 (by decide) (hK.nw (.fieldLinkNest RX10 86 "JugglingHall$Tape" "length" "I" "JugglingHall") (by decide +kernel) rfl) (fun _ h9 => h9) rfl (by decide +kernel) rfl rfl (Nat.le_of_ble_eq_true rfl) dX10_text_25 (fun f_10 H locs e9_10 o_10 hP hD hS => ?_)
    have fa_10 : f_10 (g 11) = .inr (7, [.ref (g 30), .int 0]) := e9_10
    have hI := IN_set (e := .inr (7, [.ref (g 30), .int 0])) hI (gs_11 hG) (mk_11 (by first | assumption | omega | (subst hj1; omega)) (by first | assumption | omega | (subst hj1; omega))) fa_10 o_10
    have hF := FRX_set hF hX (gs_11 hG) (show (11 : Nat) ∈ ([0, 1, 2, 3, 11, 12, 13, 14, 20, 21, 31, 32, 33, 34] : List Nat) by decide) o_10
    have fb_12 : f_10 (g 10) = .inr (10, [.int (nI jn), .ref (g 11), .ref (g 12), .ref (g 13), .ref (g 15), .ref (g 16), .ref (g 17), .ref (g 18)]) := f_at o_10 (S_ne (gs_10 hG) (gs_11 hG) (show (10 : Nat) ≠ 11 by decide)) fb_7
    have fb_13 : f_10 (g 12) = .inr (0, [.ref (g 20), .ref (g 21), .int tm_2, .int lk_2]) := f_at o_10 (S_ne (gs_12 hG) (gs_11 hG) (show (12 : Nat) ≠ 11 by decide)) fb_8
    have hFo : FR S [11] f_6 f_10 := FR_set FR_rf (gs_11 hG) (show (11 : Nat) ∈ ([11] : List Nat) by decide) o_10
    have hBk2 := BkR_fr hBk1 hG hFo (by decide)
    have hLv2 := LvC_fr hLv1 hG hFo (by decide)
    have hGr2 := GrC_fr hGr1 hG hFo (by decide)
    have hTp2 : TpC cI g f_10 cb 0 := by
      obtain ⟨l9, u1, u2, u3⟩ := hTp1
      exact ⟨0, fa_10, by rw [hFo _ (by rw [gs_30 hG]; decide)]; exact u2, rfl⟩
    refine lv_iload_n hx hb dX10_text_28 rfl (lv_at hl 0 rfl) ?_
    refine a_if_ne (u := r_6.toInt) (tgt := 34) hx hb dX10_text_29 (by decide) (rfl) (fun c_14 => ?_) (fun c_14 => ?_)
    · obtain ⟨-, i9_, E9_, F9_, t1_, t2_, t3_⟩ := hp_6.resolve_right (fun q9 => by have := q9.1; omega)
      have hEC2 := EnvC_11 t2_ hG o_10
      have hGo := hG
      have hIo := hI
      refine lv_aload_n hx hb dX10_text_34 rfl (lv_at hl 1 rfl) ?_
      refine t_get (D := D) (L := L) (f := f_10) (ci := 10) (v := .ref (g 13)) (C := RX10) (T := TX10) (N := 8) hx hb hts (by decide +kernel) hown hK.1 hP (gm_10 hG) fb_12 rfl 3 (by decide) (hts (.fieldLink RX10 46 "JugglingHall" "reader" "LJugglingHall$Reader;") (by decide +kernel)) (fun _ h9 => h9) rfl dX10_text_35 ?_
      obtain ⟨fa_15, pl_15, fg_15⟩ := op_13 hI (gm_13 hG) (gs_13 hG)
      refine call_p (va_runV (As := []) (rest := []) ⟨hx, hb, hml, hown, hts⟩ (t_X4_tellAllm l D cI cR cM _ (lv := lv) (gr := gr) (E := E9_) (F := F9_) (Ev := Ev) (T9 := T9) (lk9 := lk9)  hj hG hI  (by first | assumption | omega | (subst hj1; omega)) (hEC2) (hBk2) (by subst hj1; omega) (hcl.2.2.2.2.2.1) (hcl.2.2.2.2.2.2)) (cwV 0 hts gX10_text_X4_tellAll rfl rfl rfl (by decide +kernel) ⟨Nat.le_of_ble_eq_true rfl, Nat.le_of_ble_eq_true rfl⟩) (pre_T hK hP hD (gm_13 hG) fg_15 rfl) rfl rfl hl.1 rfl (lv_room (Nat.le_of_ble_eq_true rfl)) dX10_text_38 ⟨Nat.le_of_ble_eq_true rfl, Nat.le_of_ble_eq_true rfl⟩) hD hS hA (fun u_16 H locs hw hP hD hS => ?_)
      obtain ⟨L, S, f_16⟩ := u_16
      dsimp only at hw hP hD
      obtain ⟨hX_16, hI_16, hF_16, hBk_16, hOW_16⟩ := hw
      have fb_17 : f_16 (g 10) = .inr (10, [.int (nI jn), .ref (g 11), .ref (g 12), .ref (g 13), .ref (g 15), .ref (g 16), .ref (g 17), .ref (g 18)]) := FRX_at hF_16 (gm_10 hG) (gs_10 hG) (show (10 : Nat) ∉ ([2, 3, 12, 20, 21] : List Nat) by decide) fb_12
      have fb_18 : f_16 (g 11) = .inr (7, [.ref (g 30), .int 0]) := FRX_at hF_16 (gm_11 hG) (gs_11 hG) (show (11 : Nat) ∉ ([2, 3, 12, 20, 21] : List Nat) by decide) fa_10
      have fb_19 : f_16 (g 13) = .inr (4, [.int (nI jn), .ref (g 14), .ref (g 12), .ref (g 22), .ref (g 34), .ref (g 23), .ref (g 24), .ref (g 25), .ref (g 26), .int fa_15, .int pl_15]) := FRX_at hF_16 (gm_13 hG) (gs_13 hG) (show (13 : Nat) ∉ ([2, 3, 12, 20, 21] : List Nat) by decide) fg_15
      have hF := FRX_trX hF hX hF_16 (by decide)
      have hX := EXT_tr hX hX_16
      have hG := SG_ext hX_16 hG
      have hI := hI_16
      refine W.widen (k := 18) (n := 1193) (Nat.le_of_ble_eq_true rfl) (Nat.le_of_ble_eq_true rfl) ?_
      refine lv_aload_n hx hb dX10_text_41 rfl (lv_at hl 1 rfl) ?_
      refine t_get (D := D) (L := L) (f := f_16) (ci := 10) (v := .ref (g 12)) (C := RX10) (T := TX10) (N := 8) hx hb hts (by decide +kernel) hown hK.1 hP (gm_10 hG) fb_17 rfl 2 (by decide) (hts (.fieldLink RX10 32 "JugglingHall" "book" "LJugglingHall$Book;") (by decide +kernel)) (fun _ h9 => h9) rfl dX10_text_42 ?_
      obtain ⟨tm_20, lk_20, fg_20, iv0_20, iv1_20, iv2_20⟩ := op_12 hI (gm_12 hG) (gs_12 hG)
      refine t_getN (D := D) (L := L) (f := f_16) (ci := 0) (v := .int tm_20) (C := RX0) (T := TX0) (N := 4) (host := "JugglingHall") hx hb hts (by decide +kernel) hown hK.1 hP (gm_12 hG) fg_20 rfl 2 (by decide) (hK.nw (.fieldLinkNest RX10 99 "JugglingHall$Book" "time" "I" "JugglingHall") (by decide +kernel) rfl) (fun _ h9 => h9) rfl dX10_text_45 ?_
      exact g_iret (tm_20, L, S, f_16) hx hb hr hlocks hS rfl (⟨EXT_c eL0 eS0 hX, hI, FRX_c eL0 eS0 hF, (Or.inr (Or.inr ⟨by omega, i9_, E9_, F9_, t1_, t3_, hBk_16, TpC_x hTp2 hGo hF_16 (by decide), LvC_x hLv2 hGo hF_16 (by decide), GrC_x hGr2 hGo hF_16 (by decide), RDC_ext hcl.2.2.2.2.1 hX_16 hcl.2.2.2.2.2.2, hOW_16, fun a9 h9 => (hX_16 a9 (hcl.2.2.2.2.2.2 a9 h9)).1⟩))⟩) hP hD hQ (Nat.le_of_ble_eq_true rfl) (Nat.le_of_ble_eq_true rfl) dX10_text_48
    · refine lv_iconst (v := (-1)) hx hb dX10_text_32 (by decide) ?_
      have hz_21 : (-1 : Int32).toInt = (-1) := by decide
      exact g_iret ((-1 : Int32), L, S, f_10) hx hb hr hlocks hS rfl (⟨EXT_c eL0 eS0 hX, hI, FRX_c eL0 eS0 hF, (Or.inr (Or.inl ⟨by omega, (hp_6.resolve_left (fun q9 => by have := q9.1; omega)).2, hBk2, hTp2, hLv2, hGr2, hcl.2.2.2.2⟩))⟩) hP hD hQ (Nat.le_of_ble_eq_true rfl) (Nat.le_of_ble_eq_true rfl) dX10_text_33
  · refine lv_iconst (v := (-1)) hx hb dX10_text_10 (by decide) ?_
    have hz_22 : (-1 : Int32).toInt = (-1) := by decide
    exact g_iret ((-1 : Int32), L, S, f) hx hb hr hlocks hS rfl (⟨EXT_c eL0 eS0 hX, hI, FRX_c eL0 eS0 hF, (Or.inl ⟨by omega, hcl⟩)⟩) hP hD hQ (Nat.le_of_ble_eq_true rfl) (Nat.le_of_ble_eq_true rfl) dX10_text_11
