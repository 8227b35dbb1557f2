/-- a ONE was read -/
def OneR (cI : ClassId) (jn : Nat) (g lv : Nat → Nat) (S : Sg) (f : Nat → va_E) (ks vs : Nat → Int) (E : Env1) (i : Nat) (d top one may isO : Int) (w st op dg st1 op1 dg1 : Int → Int) : Prop := ∃ (i2 : Nat) (top2 : Int) (w2 st2 op2 dg2 : Int → Int), Go ks vs E (i, d, top, one, may, isO, w, st1, op1, dg1) (i2, d, top2, top, 1, 1, w2, st2, op2, dg2) ∧ i < i2 ∧ top < top2 ∧ TKm cI g ks vs f i2 ∧ MSt cI jn g lv S f d top2 w2 st op dg ∧ (∀ k : Int, 0 ≤ k → k ≤ d → st2 k = st k) ∧ (∀ k : Int, 0 ≤ k → k < d → op2 k = op k ∧ dg2 k = dg k) ∧ ∀ j : Int, 0 ≤ j → j < 2 * st d → w2 j = w j
/-- a sequence, as far as it was read -/
def SeqI (cI : ClassId) (jn : Nat) (g lv : Nat → Nat) (S : Sg) (f : Nat → va_E) (ks vs : Nat → Int) (E : Env1) (i : Nat) (d top one : Int) (w st op dg st1 op1 dg1 : Int → Int) (n : Int) (i2 : Nat) (top2 one2 may2 isO2 : Int) (w2 st2 op2 dg2 : Int → Int) : Prop := Go ks vs E (i, d, top, one, 0, 0, w, st1, op1, dg1) (i2, d, top2, one2, may2, isO2, w2, st2, op2, dg2) ∧ TKm cI g ks vs f i2 ∧ MSt cI jn g lv S f d top2 w2 st op dg ∧ (∀ k : Int, 0 ≤ k → k ≤ d → st2 k = st k) ∧ (∀ k : Int, 0 ≤ k → k < d → op2 k = op k ∧ dg2 k = dg k) ∧ (∀ j : Int, 0 ≤ j → j < 2 * st d → w2 j = w j) ∧ ¬ (may2 = 1 ∧ ks i2 = 42) ∧ ((n = 0 ∧ isO2 = 0 ∧ may2 = 0 ∧ i = i2 ∧ top = top2) ∨ (0 < n ∧ isO2 = 1 ∧ i < i2 ∧ top < top2)) ∧ n ≤ (i2 : Int)
def SeqR (cI : ClassId) (jn : Nat) (g lv : Nat → Nat) (S : Sg) (f : Nat → va_E) (ks vs : Nat → Int) (E : Env1) (i : Nat) (d top one : Int) (w st op dg st1 op1 dg1 : Int → Int) : Prop := ∃ (n : Int) (i2 : Nat) (top2 one2 may2 : Int) (w2 st2 op2 dg2 : Int → Int), SeqI cI jn g lv S f ks vs E i d top one w st op dg st1 op1 dg1 n i2 top2 one2 may2 1 w2 st2 op2 dg2 ∧ 0 < n ∧ ¬ (ks i2 = 1 ∨ ks i2 = 2 ∨ ks i2 = 91 ∨ ks i2 = 40 ∨ (7 ≤ ks i2 ∧ ks i2 ≤ 10))
theorem L_opens {cI : ClassId} {g : Nat → Nat} {f : Nat → va_E} {ks vs : Nat → Int} {E : Env1} {i : Nat} {d top one may isO : Int} {w st op dg : Int → Int} (hm : ¬ (may = 1 ∧ ks i = 42)) (h : d < 5 ∧ ((ks i = 40 ∧ TKm cI g ks vs f (i + 1)) ∨ ((7 ≤ ks i ∧ ks i ≤ 9) ∧ ks (i + 1) = 40 ∧ TKm cI g ks vs f (i + 2)) ∨ (ks i = 10 ∧ ks (i + 1) = 1 ∧ ks (i + 2) = 40 ∧ TKm cI g ks vs f (i + 3) ∧ TNf cI g f d (vs (i + 1))))) :
    ∃ (i1 : Nat) (K D : Int), Sqp ks vs E (i, d, top, one, may, isO, w, st, op, dg) (i1, d + 1, top, one, 0, 0, w, fupd st (d + 1) top, fupd op d K, fupd dg d D) ∧ TKm cI g ks vs f i1 ∧ i < i1 ∧ ((ks i = 40 ∧ K = 0) ∨ (ks i ≠ 40 ∧ K = ks i)) ∧ (K = 10 → TNf cI g f d D) := by
  obtain ⟨hd, h⟩ := h
  rcases h with ⟨h1, h2⟩ | ⟨h1, h2, h3⟩ | ⟨h1, h2, h3, h4, h5⟩
  · refine ⟨i + 1, 0, 0, ?_, h2, by omega, Or.inl ⟨h1, rfl⟩, fun q => absurd q (by decide)⟩
    unfold Sqp
    dsimp only
    exact Or.inr (Or.inr (Or.inl ⟨hm, fun q => by omega, hd, Or.inl ⟨h1, rfl⟩⟩))
  · refine ⟨i + 2, ks i, 0, ?_, h3, by omega, Or.inr ⟨by omega, rfl⟩, fun q => by omega⟩
    unfold Sqp
    dsimp only
    exact Or.inr (Or.inr (Or.inl ⟨hm, fun q => by omega, hd, Or.inr (Or.inl ⟨h1, h2, rfl⟩)⟩))
  · refine ⟨i + 3, 10, vs (i + 1), ?_, h4, by omega, Or.inr ⟨by omega, by omega⟩, fun _ => h5⟩
    unfold Sqp
    dsimp only
    exact Or.inr (Or.inr (Or.inl ⟨hm, fun q => by omega, hd, Or.inr (Or.inr ⟨h1, h2, h3, rfl⟩)⟩))
/-- the rows of a bracket and around it -/
theorem L_pre {cI : ClassId} {jn : Nat} {g lv : Nat → Nat} {S : Sg} {f : Nat → va_E} {d top top2 K D : Int} {w st op dg : Int → Int} (h : MSt cI jn g lv S f (d + 1) top2 w (fupd st (d + 1) top) (fupd op d K) (fupd dg d D)) (hd : 0 ≤ d) : RWf cI jn S f (lv d.toNat) (top - st d) (fun j => w (2 * st d + j)) ∧ RWf cI jn S f (lv (d + 1).toNat) (top2 - top) (fun j => w (2 * top + j)) ∧ (top2 - top ≤ 24 ∧ top - st d ≤ 24 ∧ st d ≤ top) ∧ (K = 10 → TNf cI g f d D) ∧ ∀ b : Int, 0 ≤ b → b < top2 → Srt w b := by
  obtain ⟨⟨a1, a2, a3, a4, a5⟩, b1, b2⟩ := h
  obtain ⟨c1, c2, c3, c4, c5⟩ := a3 d hd (by omega)
  rw [fu_s] at b1 b2 c1 c2 c3 c4
  rw [fu_n (show d ≠ d + 1 by omega)] at c1 c3 c4
  rw [fu_s, fu_s] at c5
  exact ⟨c4, b2, ⟨b1, c3, c1⟩, c5, a5⟩
theorem srt_sh {w : Int → Int} {o m : Int} (ho : 0 ≤ o) (h : ∀ b : Int, 0 ≤ b → b < o + m → Srt w b) : ∀ b : Int, 0 ≤ b → b < m → Srt (fun j => w (2 * o + j)) b := by
  intro b b0 b1
  have := h (o + b) (by omega) (by omega)
  unfold Srt at this ⊢
  show w (2 * o + (2 * b + 1)) ≤ w (2 * o + 2 * b) ∧ 0 ≤ w (2 * o + (2 * b + 1)) ∧ w (2 * o + 2 * b) ≤ 9
  rw [show 2 * o + (2 * b + 1) = 2 * (o + b) + 1 by omega, show 2 * o + 2 * b = 2 * (o + b) by omega]
  exact this
theorem TN_o {cI : ClassId} {g : Nat → Nat} {L : List Nat} {S : Sg} {f f1 : Nat → va_E} {a : Nat} {q : Nat × Nat × Nat} (hG : SG g L S) (hs : S a = q) (ht : q.1 ≠ 34) (o1 : ∀ b, b ≠ a → f1 b = f b) (k v : Int) (h : TNf cI g f k v) : TNf cI g f1 k v := by
  obtain ⟨ct, q1, q2⟩ := h
  exact ⟨ct, by rw [o1 _ (fun e => ht (by rw [← hs, ← e, gs_34 hG]))]; exact q1, q2⟩
/-- the rows that a sequence at depth d may change -/
def BXp (g lv : Nat → Nat) (d : Int) (a : Nat) : Prop := (∃ k9, d.toNat ≤ k9 ∧ k9 < 6 ∧ a = lv k9) ∨ a = g 24 ∨ a = g 25
theorem nb_lv {g lv gr : Nat → Nat} {S : Sg} {d : Int} (hRD : RDC g lv gr S) (hd : d ≤ 5) (k9 : Int) (h8 : 0 ≤ k9) (h7 : k9 < d) : ¬ BXp g lv d (lv k9.toNat) := fun q9 => by
  rcases q9 with ⟨k8, h6, h5, h4⟩ | h4 | h4
  · exact hRD.2.2.2.2.1 k9.toNat k8 (by omega) h5 (by omega) h4
  · exact (hRD.2.1 k9.toNat (by omega)).2.1 h4
  · exact (hRD.2.1 k9.toNat (by omega)).2.2 h4
theorem nb_gr {g lv gr : Nat → Nat} {S : Sg} {d : Int} (hRD : RDC g lv gr S) (k9 : Nat) (h9 : k9 < 8) : ¬ BXp g lv d (gr k9) := fun q9 => by
  rcases q9 with ⟨k8, h6, h5, h4⟩ | h4 | h4
  · exact hRD.2.2.2.1 k8 k9 h5 h9 h4.symm
  · exact (hRD.2.2.1 k9 h9).2.1 h4
  · exact (hRD.2.2.1 k9 h9).2.2 h4
theorem nb_nr {g lv gr : Nat → Nat} {d : Int} (r : Nat) (h9 : ¬ NR g lv gr r) : ¬ BXp g lv d r := fun q9 => h9 (by
  rcases q9 with ⟨k8, h6, h5, h4⟩ | h4 | h4
  · exact Or.inl ⟨k8, h5, h4⟩
  · exact Or.inr (Or.inr (Or.inl h4))
  · exact Or.inr (Or.inr (Or.inr h4)))
theorem Fls_0 {ks vs : Nat → Int} {E : Env1} {c : Cf} (h : ¬ Dne ks c ∧ ∀ d, ¬ Sqp ks vs E c d) : Fls ks vs E c := ⟨c, Go_rf, h.1, h.2⟩
set_option maxRecDepth 100000 in
set_option maxHeartbeats 4000000 in
theorem t_X4_readOnem_1 (l : Launch) (D : va_G) (cI cR cM : ClassId) (sz : Nat) {jn : Nat} {g : Nat → Nat} {L : List Nat} {S : Sg} {f : Nat → va_E} {x : Int32} {ks vs : Nat → Int} {i : Nat} {lv gr : Nat → Nat} {E : Env1} {F : Int → Int} {top one may isO : Int} {w st op dg st1 op1 dg1 : Int → Int} (hj : 1 ≤ jn ∧ jn ≤ 3) (hG : SG g L S) (hI : IN jn cI cR cM g L S f) (hj1 : jn = 1) (hC : TKm cI g ks vs f i) (hKO : KO ks vs) (hRD : RDC g lv gr S) (hLv : LvC cR g lv f) (hEC : EnvC cI cR jn g lv gr S f E F) (hEO : EOk E) (hx0 : 0 ≤ x.toInt ∧ x.toInt ≤ 5) (hd : 5 ≤ x.toInt) (hMS : MSt cI jn g lv S f x.toInt top w st op dg) (hst : ∀ k9 : Int, 0 ≤ k9 → k9 ≤ x.toInt → st1 k9 = st k9) (hop : ∀ k9 : Int, 0 ≤ k9 → k9 < x.toInt → op1 k9 = op k9 ∧ dg1 k9 = dg k9) (hm9 : ¬ (may = 1 ∧ ks i = 42)) (hbg : (isO = 0 ∧ may = 0) ∨ (ks i = 1 ∨ ks i = 2 ∨ ks i = 91 ∨ ks i = 40 ∨ (7 ≤ ks i ∧ ks i ≤ 10))) : Met l yX4_readOne wsX4_readOne ({ frames := 3, cells := 0, slots := 0, locals := 111 }) (P0 D cI cR cM [.ref (g 13), .int x] sz (va_pl L f)) (QG (S := Int32 × (Nat → va_E)) (fun u => some (.int u.1)) (fun u => va_pl L u.2) (fun u => IN jn cI cR cM g L S u.2 ∧ FR S [0, 1, 13, 14, 34] f u.2 ∧ (Hd ((u.1.toInt = 1 ∧ OneR cI jn g lv S u.2 ks vs E i x.toInt top one may isO w st op dg st1 op1 dg1) ∨ (u.1.toInt = 0 ∧ Fls ks vs E (i, x.toInt, top, one, may, isO, w, st1, op1, dg1)))) ∧ (∀ k9 v9 : Int, 0 ≤ k9 → k9 < x.toInt → TNf cI g f k9 v9 → TNf cI g u.2 k9 v9) ∧ (FX S (BXp g lv x.toInt) [13, 14, 34] f u.2) ∧ (u.1.toInt = 0 ∨ u.1.toInt = 1)) D (va_A (va_pl L f) sz)) 0 0 (va_A (va_pl L f) sz) := by
  refine go (cc := cX4_readOne) (maxL := 3) (ret := (some .boolean)) (by decide +kernel) rfl (Nat.le_of_ble_eq_true rfl) ?_
  intro p e s m below meth c ls args Q hQ hsz hx hb hr hml hts hown hlocks hnm hP hK hD hl
  subst hsz
  have hD := hD.self (sz := s.heap.size)
  generalize hAe : va_A (va_pl L f) s.heap.size = A at hD hQ
  have hA : ∀ q, s.heap.size ≤ q → A q := fun q h => by rw [← hAe]; exact Or.inr h
  have hS : va_S A s.heap s.heap [] := va_S.rf
  have hFX : FX S (BXp g lv x.toInt) [13, 14, 34] f f := FX_rf
  have hF : FR S [0, 1, 13, 14, 34] f f := FR_rf
  have hl : lv_has ls 3 [(0, .ref (g 13)), (1, .int x)] := hl
  refine lv_aload_n hx hb dX4_readOne_0 rfl (lv_at hl 0 rfl) ?_
  obtain ⟨fa_1, pl_1, fg_1⟩ := op_13 hI (gm_13 hG) (gs_13 hG)
  refine roP (va_runV (As := []) (rest := []) ⟨hx, hb, hml, hown, hts⟩ (t_X4_beginsOnem l D cI cR cM _ (ks := ks) (vs := vs) (i := i)  hj hG hI  (by first | assumption | omega | (subst hj1; omega)) (hC) (by first | assumption | omega | (subst hj1; omega))) (cwV 0 hts gX4_readOne_X4_beginsOne rfl rfl rfl (by decide +kernel) ⟨Nat.le_of_ble_eq_true rfl, Nat.le_of_ble_eq_true rfl⟩) (pre_T hK hP hD (gm_13 hG) fg_1 rfl) rfl rfl hl.1 rfl (lv_room (Nat.le_of_ble_eq_true rfl)) dX4_readOne_1 ⟨Nat.le_of_ble_eq_true rfl, Nat.le_of_ble_eq_true rfl⟩) hS hA hP (fun r_2 H locs hw hP hS => ?_)
  obtain ⟨hp_2, h01_2⟩ : ((r_2.toInt = 1 ∧ (ks i = 1 ∨ ks i = 2 ∨ ks i = 91 ∨ ks i = 40 ∨ (7 ≤ ks i ∧ ks i ≤ 10))) ∨ (r_2.toInt = 0 ∧ ¬ (ks i = 1 ∨ ks i = 2 ∨ ks i = 91 ∨ ks i = 40 ∨ (7 ≤ ks i ∧ ks i ≤ 10)))) ∧ (r_2.toInt = 0 ∨ r_2.toInt = 1) := hw
  refine a_if_ne (u := r_2.toInt) (tgt := 13) hx hb dX4_readOne_4 (by decide) (rfl) (fun c_3 => ?_) (fun c_3 => ?_)
  · refine lv_aload_n hx hb dX4_readOne_13 rfl (lv_at hl 0 rfl) ?_
    obtain ⟨cnt_4, nx_4, kd_4, vl_4, st_4, ls_4, fg_4, iv0_4, iv1_4, iv2_4⟩ := op_14 hI (gm_14 hG) (gs_14 hG)
    obtain ⟨kk_5, kv_5⟩ := TKm_k hC fg_4
    refine t_get (D := D) (L := L) (f := f) (ci := 4) (v := .ref (g 14)) (C := RX4) (T := TX4) (N := 11) hx hb hts (by decide +kernel) hown hK.1 hP (gm_13 hG) fg_1 rfl 1 (by decide) (hts (.fieldLink RX4 41 "JugglingHall$Reader" "tokens" "LJugglingHall$Tokens;") (by decide +kernel)) (fun _ h9 => h9) rfl dX4_readOne_14 ?_
    refine t_getN (D := D) (L := L) (f := f) (ci := 8) (v := .int kd_4) (C := RX8) (T := TX8) (N := 10) (host := "JugglingHall") hx hb hts (by decide +kernel) hown hK.1 hP (gm_14 hG) fg_4 rfl 6 (by decide) (hK.nw (.fieldLinkNest RX4 70 "JugglingHall$Tokens" "kind" "I" "JugglingHall") (by decide +kernel) rfl) (fun _ h9 => h9) rfl dX4_readOne_17 ?_
    refine lv_istore_n (lv' := [(2, .int kd_4), (0, .ref (g 13)), (1, .int x)]) hx hb dX4_readOne_20 rfl hl (by decide) rfl (fun ls hl => ?_)
    refine lv_iload_n hx hb dX4_readOne_21 rfl (lv_at hl 0 rfl) ?_
    have hu_6 : kd_4.toInt = kd_4.toInt := rfl
    rcases (show (kd_4.toInt = 2) ∨ (kd_4.toInt = 3) ∨ (kd_4.toInt = 60) ∨ (kd_4.toInt = 91) ∨ (kd_4.toInt ≠ 2 ∧ kd_4.toInt ≠ 3 ∧ kd_4.toInt ≠ 60 ∧ kd_4.toInt ≠ 91) by omega) with c_6 | c_6 | c_6 | c_6 | c_6
    · refine lv_lookup (off := 53) (tgt := 75) hx hb dX4_readOne_22 (by decide) (by rw [hu_6, c_6]; decide) (by decide) ?_
      have kb9 : ks i = 1 := cK_p (hKO i).1 (Or.inl ⟨by decide, by decide⟩) kk_5 (c := 2) (by subst hj1; omega) (by decide)
      refine lv_aload_n hx hb dX4_readOne_75 rfl (lv_at hl 1 rfl) ?_
      refine lv_aload_n hx hb dX4_readOne_76 rfl (lv_at hl 1 rfl) ?_
      refine t_get (D := D) (L := L) (f := f) (ci := 4) (v := .ref (g 22)) (C := RX4) (T := TX4) (N := 11) hx hb hts (by decide +kernel) hown hK.1 hP (gm_13 hG) fg_1 rfl 3 (by decide) (hts (.fieldLink RX4 13 "JugglingHall$Reader" "levels" "[LJugglingHall$Row;") (by decide +kernel)) (fun _ h9 => h9) rfl dX4_readOne_77 ?_
      refine lv_iload_n hx hb dX4_readOne_80 rfl (lv_at hl 2 rfl) ?_
      obtain ⟨c_7, fg_7, iv0_7⟩ := op_22 hI (gm_22 hG) (gs_22 hG)
      refine t_aald (L := L) (f := f) (y := c_7) (u := x.toInt) hx hb hK.1 hP (gm_22 hG) 1 fg_7 rfl dX4_readOne_81 (rfl) (by subst hj1; omega) (fun w_8 q_8 => ?_)
      obtain ⟨r_8, p_8, n_8, er_8, m_8, s_8⟩ := iv0_7 x.toInt (by subst hj1; omega) (by subst hj1; omega)
      have q_8 := q_8.trans er_8
      subst q_8
      refine W.eq (g2 := F0 m 82 ls [.ref r_8, .ref (g 13)]) rfl ?_
      have hh_8 : r_8 = lv x.toInt.toNat := LvC_at (l := x.toInt) hLv fg_7 (by subst hj1; omega) (by subst hj1; omega) (by rw [show x.toInt = x.toInt by omega]; exact er_8)
      have hR_8 := RWf_e hMS.2.2 hh_8
      obtain ⟨len_9, fg_9, v1_9, v2_9, v3_9, mp_9, sp_9⟩ := op_0 hI m_8 s_8
      obtain ⟨w1_9, w2_9, w3_9, w4_9, w5_9⟩ := lenw hj v1_9 v2_9 v3_9
      obtain ⟨c_10, fg_10, iv0_10⟩ := op_1 hI mp_9 sp_9
      obtain ⟨hl_11, hc_11⟩ := RWf_at hR_8 s_8 fg_9 fg_10
      have hN_8 := cap_of (S := S) (a := r_8) (k := 48) (by rw [hh_8]; exact (hRD.2.1 _ (by subst hj1; omega)).1) s_8
      refine call_p (va_runV (As := [.ref r_8]) (rest := []) ⟨hx, hb, hml, hown, hts⟩ (t_X4_readBeatm l D cI cR cM _ (ks := ks) (vs := vs) (i := i) (w := (fun j => w (2 * st x.toInt + j)))  hj hG hI m_8 s_8 fg_9 fg_10 (by first | assumption | omega | (subst hj1; omega)) (hC) (by first | assumption | omega | (subst hj1; omega)) (by rw [hh_8]; exact (hRD.2.1 _ (by subst hj1; omega)).2.1) (hRD.1.1) (by rw [hl_11]; exact hc_11)) (cwV 1 hts gX4_readOne_X4_readBeat rfl rfl rfl (by decide +kernel) ⟨Nat.le_of_ble_eq_true rfl, Nat.le_of_ble_eq_true rfl⟩) (pre_T hK hP hD (gm_13 hG) fg_1 rfl) rfl rfl hl.1 rfl (lv_room (Nat.le_of_ble_eq_true rfl)) dX4_readOne_82 ⟨Nat.le_of_ble_eq_true rfl, Nat.le_of_ble_eq_true rfl⟩) hD hS hA (fun u_12 H locs hw hP hD hS => ?_)
      obtain ⟨r_12, f_12⟩ := u_12
      obtain ⟨hI, hF_12, hp_12, hfx_12, h01_12⟩ : IN jn cI cR cM g L S f_12 ∧ FR S [0, 1, 13, 14] f f_12 ∧ ((r_12.toInt = 1 ∧ ∃ (a9 b9 : Int) (j9 : Nat), BtR ks vs i a9 b9 j9 ∧ TKm cI g ks vs f_12 j9 ∧ 2 * (len_9.toInt + 1) ≤ (n_8 : Int) ∧ RWf cI jn S f_12 r_8 (len_9.toInt + 1) (fupd (fupd (fun j => w (2 * st x.toInt + j)) (2 * len_9.toInt) a9) (2 * len_9.toInt + 1) b9)) ∨ (r_12.toInt = 0 ∧ (BtF ks vs i ∨ (n_8 : Int) < 2 * (len_9.toInt + 1)))) ∧ (FX S (fun a9 => a9 = r_8 ∨ a9 = g 24) [13, 14] f f_12) ∧ (r_12.toInt = 0 ∨ r_12.toInt = 1) := hw
      have hP : va_P D vwCl (va_pl L f_12) H := hP
      have hD : va_D A (va_pl L f_12) := hD
      have hF := FR_tr hF hF_12 (by decide)
      have hFX := FX_tr hFX hfx_12 (fun a9 h9 => h9.elim (fun h9 => Or.inl ⟨x.toInt.toNat, Nat.le_refl _, by omega, h9.trans hh_8⟩) (fun h9 => Or.inr (Or.inl h9))) (by decide)
      have fb_13 : f_12 (g 22) = .inl (cR, 6, .inr (.inr (.inr (.inr c_7)))) := FR_at hF_12 (gs_22 hG) (show (22 : Nat) ∉ ([0, 1, 13, 14] : List Nat) by decide) fg_7
      exact g_zret (r_12, f_12) hx hb hr hlocks hS (b01 (by subst hj1; omega)) rfl (⟨hI, hF, show Hd ((r_12.toInt = 1 ∧ OneR cI jn g lv S f_12 ks vs E i x.toInt top one may isO w st op dg st1 op1 dg1) ∨ (r_12.toInt = 0 ∧ Fls ks vs E (i, x.toInt, top, one, may, isO, w, st1, op1, dg1))) from (by
        rw [hl_11] at hp_12
        rcases hp_12 with ⟨h5, a9, b9, j9, h6, h7, h8, h9⟩ | ⟨h5, h6⟩
        · have h9 := RWf_e h9 hh_8.symm
          obtain ⟨q1, q2, q3⟩ := L_beat (E := E) (one := one) (isO := isO) (op1 := op1) (dg1 := dg1) hMS (fun top9 w9 q1 q2 q3 => MSb_fx hMS.1 hfx_12 (by decide) (fun k9 h8 h7 => (fun q9 => q9.elim (fun q9 => (hRD.2.2.2.2.1 k9.toNat x.toInt.toNat (by subst hj1; omega) (by subst hj1; omega) (by subst hj1; omega)) (q9.trans hh_8)) (fun q8 => (hRD.2.1 k9.toNat (by subst hj1; omega)).2.1 q8))) (fun k9 v9 _ _ h9 => TN_fr hG hF_12 (by decide) k9 v9 h9) q1 q2 q3) hm9 (hst _ (by subst hj1; omega) (Int.le_refl _)) h6 (Bt_vK hKO h6) (by subst hj1; omega) h9
          exact Or.inl ⟨h5, j9, _, _, st1, op1, dg1, Go_1 q1, Bt_lt h6, by omega, h7, q2, hst, hop, q3⟩
        · refine Or.inr ⟨h5, Fls_0 (F_beat hm9 (fun q9 => by omega) (by subst hj1; omega) (by subst hj1; omega) (fun _ => by unfold Bgn; omega) ?_)⟩
          rw [hst _ (by subst hj1; omega) (Int.le_refl _)]
          exact h6.imp id (fun q9 => by omega)), show ∀ k9 v9 : Int, 0 ≤ k9 → k9 < x.toInt → TNf cI g f k9 v9 → TNf cI g f_12 k9 v9 from (fun k9 v9 _ _ h9 => TN_fr hG hF_12 (by decide) k9 v9 h9), show FX S (BXp g lv x.toInt) [13, 14, 34] f f_12 from (by first | assumption | omega | (subst hj1; omega)), show r_12.toInt = 0 ∨ r_12.toInt = 1 from (by first | assumption | omega | (subst hj1; omega))⟩) hP hD hQ (Nat.le_of_ble_eq_true rfl) (Nat.le_of_ble_eq_true rfl) dX4_readOne_85
    · refine lv_lookup (off := 42) (tgt := 64) hx hb dX4_readOne_22 (by decide) (by rw [hu_6, c_6]; decide) (by decide) ?_
      have kb9 : ks i = 2 := cK_p (hKO i).1 (Or.inl ⟨by decide, by decide⟩) kk_5 (c := 3) (by subst hj1; omega) (by decide)
      refine lv_aload_n hx hb dX4_readOne_64 rfl (lv_at hl 1 rfl) ?_
      refine lv_aload_n hx hb dX4_readOne_65 rfl (lv_at hl 1 rfl) ?_
      refine t_get (D := D) (L := L) (f := f) (ci := 4) (v := .ref (g 22)) (C := RX4) (T := TX4) (N := 11) hx hb hts (by decide +kernel) hown hK.1 hP (gm_13 hG) fg_1 rfl 3 (by decide) (hts (.fieldLink RX4 13 "JugglingHall$Reader" "levels" "[LJugglingHall$Row;") (by decide +kernel)) (fun _ h9 => h9) rfl dX4_readOne_66 ?_
      refine lv_iload_n hx hb dX4_readOne_69 rfl (lv_at hl 2 rfl) ?_
      obtain ⟨c_14, fg_14, iv0_14⟩ := op_22 hI (gm_22 hG) (gs_22 hG)
      refine t_aald (L := L) (f := f) (y := c_14) (u := x.toInt) hx hb hK.1 hP (gm_22 hG) 1 fg_14 rfl dX4_readOne_70 (rfl) (by subst hj1; omega) (fun w_15 q_15 => ?_)
      obtain ⟨r_15, p_15, n_15, er_15, m_15, s_15⟩ := iv0_14 x.toInt (by subst hj1; omega) (by subst hj1; omega)
      have q_15 := q_15.trans er_15
      subst q_15
      refine W.eq (g2 := F0 m 71 ls [.ref r_15, .ref (g 13)]) rfl ?_
      have hh_15 : r_15 = lv x.toInt.toNat := LvC_at (l := x.toInt) hLv fg_14 (by subst hj1; omega) (by subst hj1; omega) (by rw [show x.toInt = x.toInt by omega]; exact er_15)
      have hR_15 := RWf_e hMS.2.2 hh_15
      obtain ⟨len_16, fg_16, v1_16, v2_16, v3_16, mp_16, sp_16⟩ := op_0 hI m_15 s_15
      obtain ⟨w1_16, w2_16, w3_16, w4_16, w5_16⟩ := lenw hj v1_16 v2_16 v3_16
      obtain ⟨c_17, fg_17, iv0_17⟩ := op_1 hI mp_16 sp_16
      obtain ⟨hl_18, hc_18⟩ := RWf_at hR_15 s_15 fg_16 fg_17
      have hN_15 := cap_of (S := S) (a := r_15) (k := 48) (by rw [hh_15]; exact (hRD.2.1 _ (by subst hj1; omega)).1) s_15
      refine call_p (va_runV (As := [.ref r_15]) (rest := []) ⟨hx, hb, hml, hown, hts⟩ (t_X4_readLetterm l D cI cR cM _ (ks := ks) (vs := vs) (i := i) (lv := lv) (gr := gr) (E := E) (F := F) (w := (fun j => w (2 * st x.toInt + j)))  hj hG hI m_15 s_15 fg_16 fg_17 (by first | assumption | omega | (subst hj1; omega)) (hC) (by first | assumption | omega | (subst hj1; omega)) (kb9) (hEC) (by rw [hl_18]; exact hc_18)) (cwV 1 hts gX4_readOne_X4_readLetter rfl rfl rfl (by decide +kernel) ⟨Nat.le_of_ble_eq_true rfl, Nat.le_of_ble_eq_true rfl⟩) (pre_T hK hP hD (gm_13 hG) fg_1 rfl) rfl rfl hl.1 rfl (lv_room (Nat.le_of_ble_eq_true rfl)) dX4_readOne_71 ⟨Nat.le_of_ble_eq_true rfl, Nat.le_of_ble_eq_true rfl⟩) hD hS hA (fun u_19 H locs hw hP hD hS => ?_)
      obtain ⟨r_19, f_19⟩ := u_19
      obtain ⟨hI, hF_19, hp_19, hfx_19, h01_19⟩ : IN jn cI cR cM g L S f_19 ∧ FR S [0, 1, 13, 14] f f_19 ∧ ((r_19.toInt = 1 ∧ 0 < (E (vs i)).1 ∧ TKm cI g ks vs f_19 (i + 1) ∧ 2 * (len_16.toInt + (E (vs i)).1) ≤ (n_15 : Int) ∧ RWf cI jn S f_19 r_15 (len_16.toInt + (E (vs i)).1) (fun j => if j < 2 * len_16.toInt then (fun j => w (2 * st x.toInt + j)) j else (E (vs i)).2 (j - 2 * len_16.toInt))) ∨ (r_19.toInt = 0 ∧ ((E (vs i)).1 ≤ 0 ∨ (n_15 : Int) < 2 * (len_16.toInt + (E (vs i)).1)))) ∧ (FX S (fun a9 => a9 = r_15) [13, 14] f f_19) ∧ (r_19.toInt = 0 ∨ r_19.toInt = 1) := hw
      have hP : va_P D vwCl (va_pl L f_19) H := hP
      have hD : va_D A (va_pl L f_19) := hD
      have hF := FR_tr hF hF_19 (by decide)
      have hFX := FX_tr hFX hfx_19 (fun a9 h9 => Or.inl ⟨x.toInt.toNat, Nat.le_refl _, by omega, h9.trans hh_15⟩) (by decide)
      have fb_20 : f_19 (g 22) = .inl (cR, 6, .inr (.inr (.inr (.inr c_14)))) := FR_at hF_19 (gs_22 hG) (show (22 : Nat) ∉ ([0, 1, 13, 14] : List Nat) by decide) fg_14
      exact g_zret (r_19, f_19) hx hb hr hlocks hS (b01 (by subst hj1; omega)) rfl (⟨hI, hF, show Hd ((r_19.toInt = 1 ∧ OneR cI jn g lv S f_19 ks vs E i x.toInt top one may isO w st op dg st1 op1 dg1) ∨ (r_19.toInt = 0 ∧ Fls ks vs E (i, x.toInt, top, one, may, isO, w, st1, op1, dg1))) from (by
        rw [hl_18] at hp_19
        rcases hp_19 with ⟨h5, h6, h7, h8, h9⟩ | ⟨h5, h6⟩
        · have h9 := RWf_e h9 hh_15.symm
          obtain ⟨q1, q2, q3⟩ := L_letter (E := E) (one := one) (isO := isO) (op1 := op1) (dg1 := dg1) hMS (fun top9 w9 q1 q2 q3 => MSb_fx hMS.1 hfx_19 (by decide) (fun k9 h8 h7 => (fun q9 => (hRD.2.2.2.2.1 k9.toNat x.toInt.toNat (by subst hj1; omega) (by subst hj1; omega) (by subst hj1; omega)) (q9.trans hh_15))) (fun k9 v9 _ _ h9 => TN_fr hG hF_19 (by decide) k9 v9 h9) q1 q2 q3) hm9 (hst _ (by subst hj1; omega) (Int.le_refl _)) kb9 h6 (hEO _ (by have := (hKO i).2.2 kb9; omega) (by have := (hKO i).2.2 kb9; omega)).2.2 (by subst hj1; omega) h9
          exact Or.inl ⟨h5, i + 1, _, _, st1, op1, dg1, Go_1 q1, by omega, by omega, h7, q2, hst, hop, q3⟩
        · exact Or.inr ⟨h5, Fls_0 (F_letter kb9 (by rw [hst _ (by subst hj1; omega) (Int.le_refl _)]; omega))⟩), show ∀ k9 v9 : Int, 0 ≤ k9 → k9 < x.toInt → TNf cI g f k9 v9 → TNf cI g f_19 k9 v9 from (fun k9 v9 _ _ h9 => TN_fr hG hF_19 (by decide) k9 v9 h9), show FX S (BXp g lv x.toInt) [13, 14, 34] f f_19 from (by first | assumption | omega | (subst hj1; omega)), show r_19.toInt = 0 ∨ r_19.toInt = 1 from (by first | assumption | omega | (subst hj1; omega))⟩) hP hD hQ (Nat.le_of_ble_eq_true rfl) (Nat.le_of_ble_eq_true rfl) dX4_readOne_74
    · refine lv_lookup (off := 53) (tgt := 75) hx hb dX4_readOne_22 (by decide) (by rw [hu_6, c_6]; decide) (by decide) ?_
      have kb9 : ks i = 60 := cK_p (hKO i).1 (Or.inr ⟨by decide, by decide⟩) kk_5 (c := 60) (by subst hj1; omega) (by decide)
      refine lv_aload_n hx hb dX4_readOne_75 rfl (lv_at hl 1 rfl) ?_
      refine lv_aload_n hx hb dX4_readOne_76 rfl (lv_at hl 1 rfl) ?_
      refine t_get (D := D) (L := L) (f := f) (ci := 4) (v := .ref (g 22)) (C := RX4) (T := TX4) (N := 11) hx hb hts (by decide +kernel) hown hK.1 hP (gm_13 hG) fg_1 rfl 3 (by decide) (hts (.fieldLink RX4 13 "JugglingHall$Reader" "levels" "[LJugglingHall$Row;") (by decide +kernel)) (fun _ h9 => h9) rfl dX4_readOne_77 ?_
      refine lv_iload_n hx hb dX4_readOne_80 rfl (lv_at hl 2 rfl) ?_
      obtain ⟨c_21, fg_21, iv0_21⟩ := op_22 hI (gm_22 hG) (gs_22 hG)
      refine t_aald (L := L) (f := f) (y := c_21) (u := x.toInt) hx hb hK.1 hP (gm_22 hG) 1 fg_21 rfl dX4_readOne_81 (rfl) (by subst hj1; omega) (fun w_22 q_22 => ?_)
      obtain ⟨r_22, p_22, n_22, er_22, m_22, s_22⟩ := iv0_21 x.toInt (by subst hj1; omega) (by subst hj1; omega)
      have q_22 := q_22.trans er_22
      subst q_22
      refine W.eq (g2 := F0 m 82 ls [.ref r_22, .ref (g 13)]) rfl ?_
      have hh_22 : r_22 = lv x.toInt.toNat := LvC_at (l := x.toInt) hLv fg_21 (by subst hj1; omega) (by subst hj1; omega) (by rw [show x.toInt = x.toInt by omega]; exact er_22)
      have hR_22 := RWf_e hMS.2.2 hh_22
      obtain ⟨len_23, fg_23, v1_23, v2_23, v3_23, mp_23, sp_23⟩ := op_0 hI m_22 s_22
      obtain ⟨w1_23, w2_23, w3_23, w4_23, w5_23⟩ := lenw hj v1_23 v2_23 v3_23
      obtain ⟨c_24, fg_24, iv0_24⟩ := op_1 hI mp_23 sp_23
      obtain ⟨hl_25, hc_25⟩ := RWf_at hR_22 s_22 fg_23 fg_24
      have hN_22 := cap_of (S := S) (a := r_22) (k := 48) (by rw [hh_22]; exact (hRD.2.1 _ (by subst hj1; omega)).1) s_22
      refine call_p (va_runV (As := [.ref r_22]) (rest := []) ⟨hx, hb, hml, hown, hts⟩ (t_X4_readBeatm l D cI cR cM _ (ks := ks) (vs := vs) (i := i) (w := (fun j => w (2 * st x.toInt + j)))  hj hG hI m_22 s_22 fg_23 fg_24 (by first | assumption | omega | (subst hj1; omega)) (hC) (by first | assumption | omega | (subst hj1; omega)) (by rw [hh_22]; exact (hRD.2.1 _ (by subst hj1; omega)).2.1) (hRD.1.1) (by rw [hl_25]; exact hc_25)) (cwV 1 hts gX4_readOne_X4_readBeat rfl rfl rfl (by decide +kernel) ⟨Nat.le_of_ble_eq_true rfl, Nat.le_of_ble_eq_true rfl⟩) (pre_T hK hP hD (gm_13 hG) fg_1 rfl) rfl rfl hl.1 rfl (lv_room (Nat.le_of_ble_eq_true rfl)) dX4_readOne_82 ⟨Nat.le_of_ble_eq_true rfl, Nat.le_of_ble_eq_true rfl⟩) hD hS hA (fun u_26 H locs hw hP hD hS => ?_)
      obtain ⟨r_26, f_26⟩ := u_26
      obtain ⟨hI, hF_26, hp_26, hfx_26, h01_26⟩ : IN jn cI cR cM g L S f_26 ∧ FR S [0, 1, 13, 14] f f_26 ∧ ((r_26.toInt = 1 ∧ ∃ (a9 b9 : Int) (j9 : Nat), BtR ks vs i a9 b9 j9 ∧ TKm cI g ks vs f_26 j9 ∧ 2 * (len_23.toInt + 1) ≤ (n_22 : Int) ∧ RWf cI jn S f_26 r_22 (len_23.toInt + 1) (fupd (fupd (fun j => w (2 * st x.toInt + j)) (2 * len_23.toInt) a9) (2 * len_23.toInt + 1) b9)) ∨ (r_26.toInt = 0 ∧ (BtF ks vs i ∨ (n_22 : Int) < 2 * (len_23.toInt + 1)))) ∧ (FX S (fun a9 => a9 = r_22 ∨ a9 = g 24) [13, 14] f f_26) ∧ (r_26.toInt = 0 ∨ r_26.toInt = 1) := hw
      have hP : va_P D vwCl (va_pl L f_26) H := hP
      have hD : va_D A (va_pl L f_26) := hD
      have hF := FR_tr hF hF_26 (by decide)
      have hFX := FX_tr hFX hfx_26 (fun a9 h9 => h9.elim (fun h9 => Or.inl ⟨x.toInt.toNat, Nat.le_refl _, by omega, h9.trans hh_22⟩) (fun h9 => Or.inr (Or.inl h9))) (by decide)
      have fb_27 : f_26 (g 22) = .inl (cR, 6, .inr (.inr (.inr (.inr c_21)))) := FR_at hF_26 (gs_22 hG) (show (22 : Nat) ∉ ([0, 1, 13, 14] : List Nat) by decide) fg_21
      exact g_zret (r_26, f_26) hx hb hr hlocks hS (b01 (by subst hj1; omega)) rfl (⟨hI, hF, show Hd ((r_26.toInt = 1 ∧ OneR cI jn g lv S f_26 ks vs E i x.toInt top one may isO w st op dg st1 op1 dg1) ∨ (r_26.toInt = 0 ∧ Fls ks vs E (i, x.toInt, top, one, may, isO, w, st1, op1, dg1))) from (by exfalso; omega), show ∀ k9 v9 : Int, 0 ≤ k9 → k9 < x.toInt → TNf cI g f k9 v9 → TNf cI g f_26 k9 v9 from (fun k9 v9 _ _ h9 => TN_fr hG hF_26 (by decide) k9 v9 h9), show FX S (BXp g lv x.toInt) [13, 14, 34] f f_26 from (by first | assumption | omega | (subst hj1; omega)), show r_26.toInt = 0 ∨ r_26.toInt = 1 from (by first | assumption | omega | (subst hj1; omega))⟩) hP hD hQ (Nat.le_of_ble_eq_true rfl) (Nat.le_of_ble_eq_true rfl) dX4_readOne_85
    · refine lv_lookup (off := 53) (tgt := 75) hx hb dX4_readOne_22 (by decide) (by rw [hu_6, c_6]; decide) (by decide) ?_
      have kb9 : ks i = 91 := cK_p (hKO i).1 (Or.inr ⟨by decide, by decide⟩) kk_5 (c := 91) (by subst hj1; omega) (by decide)
      refine lv_aload_n hx hb dX4_readOne_75 rfl (lv_at hl 1 rfl) ?_
      refine lv_aload_n hx hb dX4_readOne_76 rfl (lv_at hl 1 rfl) ?_
      refine t_get (D := D) (L := L) (f := f) (ci := 4) (v := .ref (g 22)) (C := RX4) (T := TX4) (N := 11) hx hb hts (by decide +kernel) hown hK.1 hP (gm_13 hG) fg_1 rfl 3 (by decide) (hts (.fieldLink RX4 13 "JugglingHall$Reader" "levels" "[LJugglingHall$Row;") (by decide +kernel)) (fun _ h9 => h9) rfl dX4_readOne_77 ?_
      refine lv_iload_n hx hb dX4_readOne_80 rfl (lv_at hl 2 rfl) ?_
      obtain ⟨c_28, fg_28, iv0_28⟩ := op_22 hI (gm_22 hG) (gs_22 hG)
      refine t_aald (L := L) (f := f) (y := c_28) (u := x.toInt) hx hb hK.1 hP (gm_22 hG) 1 fg_28 rfl dX4_readOne_81 (rfl) (by subst hj1; omega) (fun w_29 q_29 => ?_)
      obtain ⟨r_29, p_29, n_29, er_29, m_29, s_29⟩ := iv0_28 x.toInt (by subst hj1; omega) (by subst hj1; omega)
      have q_29 := q_29.trans er_29
      subst q_29
      refine W.eq (g2 := F0 m 82 ls [.ref r_29, .ref (g 13)]) rfl ?_
      have hh_29 : r_29 = lv x.toInt.toNat := LvC_at (l := x.toInt) hLv fg_28 (by subst hj1; omega) (by subst hj1; omega) (by rw [show x.toInt = x.toInt by omega]; exact er_29)
      have hR_29 := RWf_e hMS.2.2 hh_29
      obtain ⟨len_30, fg_30, v1_30, v2_30, v3_30, mp_30, sp_30⟩ := op_0 hI m_29 s_29
      obtain ⟨w1_30, w2_30, w3_30, w4_30, w5_30⟩ := lenw hj v1_30 v2_30 v3_30
      obtain ⟨c_31, fg_31, iv0_31⟩ := op_1 hI mp_30 sp_30
      obtain ⟨hl_32, hc_32⟩ := RWf_at hR_29 s_29 fg_30 fg_31
      have hN_29 := cap_of (S := S) (a := r_29) (k := 48) (by rw [hh_29]; exact (hRD.2.1 _ (by subst hj1; omega)).1) s_29
      refine call_p (va_runV (As := [.ref r_29]) (rest := []) ⟨hx, hb, hml, hown, hts⟩ (t_X4_readBeatm l D cI cR cM _ (ks := ks) (vs := vs) (i := i) (w := (fun j => w (2 * st x.toInt + j)))  hj hG hI m_29 s_29 fg_30 fg_31 (by first | assumption | omega | (subst hj1; omega)) (hC) (by first | assumption | omega | (subst hj1; omega)) (by rw [hh_29]; exact (hRD.2.1 _ (by subst hj1; omega)).2.1) (hRD.1.1) (by rw [hl_32]; exact hc_32)) (cwV 1 hts gX4_readOne_X4_readBeat rfl rfl rfl (by decide +kernel) ⟨Nat.le_of_ble_eq_true rfl, Nat.le_of_ble_eq_true rfl⟩) (pre_T hK hP hD (gm_13 hG) fg_1 rfl) rfl rfl hl.1 rfl (lv_room (Nat.le_of_ble_eq_true rfl)) dX4_readOne_82 ⟨Nat.le_of_ble_eq_true rfl, Nat.le_of_ble_eq_true rfl⟩) hD hS hA (fun u_33 H locs hw hP hD hS => ?_)
      obtain ⟨r_33, f_33⟩ := u_33
      obtain ⟨hI, hF_33, hp_33, hfx_33, h01_33⟩ : IN jn cI cR cM g L S f_33 ∧ FR S [0, 1, 13, 14] f f_33 ∧ ((r_33.toInt = 1 ∧ ∃ (a9 b9 : Int) (j9 : Nat), BtR ks vs i a9 b9 j9 ∧ TKm cI g ks vs f_33 j9 ∧ 2 * (len_30.toInt + 1) ≤ (n_29 : Int) ∧ RWf cI jn S f_33 r_29 (len_30.toInt + 1) (fupd (fupd (fun j => w (2 * st x.toInt + j)) (2 * len_30.toInt) a9) (2 * len_30.toInt + 1) b9)) ∨ (r_33.toInt = 0 ∧ (BtF ks vs i ∨ (n_29 : Int) < 2 * (len_30.toInt + 1)))) ∧ (FX S (fun a9 => a9 = r_29 ∨ a9 = g 24) [13, 14] f f_33) ∧ (r_33.toInt = 0 ∨ r_33.toInt = 1) := hw
      have hP : va_P D vwCl (va_pl L f_33) H := hP
      have hD : va_D A (va_pl L f_33) := hD
      have hF := FR_tr hF hF_33 (by decide)
      have hFX := FX_tr hFX hfx_33 (fun a9 h9 => h9.elim (fun h9 => Or.inl ⟨x.toInt.toNat, Nat.le_refl _, by omega, h9.trans hh_29⟩) (fun h9 => Or.inr (Or.inl h9))) (by decide)
      have fb_34 : f_33 (g 22) = .inl (cR, 6, .inr (.inr (.inr (.inr c_28)))) := FR_at hF_33 (gs_22 hG) (show (22 : Nat) ∉ ([0, 1, 13, 14] : List Nat) by decide) fg_28
      exact g_zret (r_33, f_33) hx hb hr hlocks hS (b01 (by subst hj1; omega)) rfl (⟨hI, hF, show Hd ((r_33.toInt = 1 ∧ OneR cI jn g lv S f_33 ks vs E i x.toInt top one may isO w st op dg st1 op1 dg1) ∨ (r_33.toInt = 0 ∧ Fls ks vs E (i, x.toInt, top, one, may, isO, w, st1, op1, dg1))) from (by
        rw [hl_32] at hp_33
        rcases hp_33 with ⟨h5, a9, b9, j9, h6, h7, h8, h9⟩ | ⟨h5, h6⟩
        · have h9 := RWf_e h9 hh_29.symm
          obtain ⟨q1, q2, q3⟩ := L_beat (E := E) (one := one) (isO := isO) (op1 := op1) (dg1 := dg1) hMS (fun top9 w9 q1 q2 q3 => MSb_fx hMS.1 hfx_33 (by decide) (fun k9 h8 h7 => (fun q9 => q9.elim (fun q9 => (hRD.2.2.2.2.1 k9.toNat x.toInt.toNat (by subst hj1; omega) (by subst hj1; omega) (by subst hj1; omega)) (q9.trans hh_29)) (fun q8 => (hRD.2.1 k9.toNat (by subst hj1; omega)).2.1 q8))) (fun k9 v9 _ _ h9 => TN_fr hG hF_33 (by decide) k9 v9 h9) q1 q2 q3) hm9 (hst _ (by subst hj1; omega) (Int.le_refl _)) h6 (Bt_vK hKO h6) (by subst hj1; omega) h9
          exact Or.inl ⟨h5, j9, _, _, st1, op1, dg1, Go_1 q1, Bt_lt h6, by omega, h7, q2, hst, hop, q3⟩
        · refine Or.inr ⟨h5, Fls_0 (F_beat hm9 (fun q9 => by omega) (by subst hj1; omega) (by subst hj1; omega) (fun _ => by unfold Bgn; omega) ?_)⟩
          rw [hst _ (by subst hj1; omega) (Int.le_refl _)]
          exact h6.imp id (fun q9 => by omega)), show ∀ k9 v9 : Int, 0 ≤ k9 → k9 < x.toInt → TNf cI g f k9 v9 → TNf cI g f_33 k9 v9 from (fun k9 v9 _ _ h9 => TN_fr hG hF_33 (by decide) k9 v9 h9), show FX S (BXp g lv x.toInt) [13, 14, 34] f f_33 from (by first | assumption | omega | (subst hj1; omega)), show r_33.toInt = 0 ∨ r_33.toInt = 1 from (by first | assumption | omega | (subst hj1; omega))⟩) hP hD hQ (Nat.le_of_ble_eq_true rfl) (Nat.le_of_ble_eq_true rfl) dX4_readOne_85
    · refine lv_lookup (off := 64) (tgt := 86) hx hb dX4_readOne_22 (by decide) (by rw [hu_6]; exact (show Op.lookupswitch.offset [(2, 53), (3, 42), (60, 53), (91, 53)] (64) kd_4.toInt = (64) from lkc (by subst hj1; omega) (lkc (by subst hj1; omega) (lkc (by subst hj1; omega) (lkc (by subst hj1; omega) (lkn _ _)))))) (by decide) ?_
      have hkg : ks i = 40 ∨ (7 ≤ ks i ∧ ks i ≤ 10) := by have h9 := cK_f (hKO i).1; omega
      refine lv_aload_n hx hb dX4_readOne_86 rfl (lv_at hl 1 rfl) ?_
      refine lv_iload_n hx hb dX4_readOne_87 rfl (lv_at hl 0 rfl) ?_
      refine lv_iload_n hx hb dX4_readOne_88 rfl (lv_at hl 2 rfl) ?_
      refine call_p (va_runV (As := [.int kd_4, .int x]) (rest := []) ⟨hx, hb, hml, hown, hts⟩ (t_X4_openGroupm l D cI cR cM _ (ks := ks) (vs := vs) (i := i)  hj hG hI  (by first | assumption | omega | (subst hj1; omega)) (hC) (by first | assumption | omega | (subst hj1; omega)) (kk_5) (hkg) (by subst hj1; omega)) (cwV 2 hts gX4_readOne_X4_openGroup rfl rfl rfl (by decide +kernel) ⟨Nat.le_of_ble_eq_true rfl, Nat.le_of_ble_eq_true rfl⟩) (pre_T hK hP hD (gm_13 hG) fg_1 rfl) rfl rfl hl.1 rfl (lv_room (Nat.le_of_ble_eq_true rfl)) dX4_readOne_89 ⟨Nat.le_of_ble_eq_true rfl, Nat.le_of_ble_eq_true rfl⟩) hD hS hA (fun u_35 H locs hw hP hD hS => ?_)
      obtain ⟨r_35, f_35⟩ := u_35
      obtain ⟨hI, hF_35, hp_35, ht_35, hfx_35, h01_35⟩ : IN jn cI cR cM g L S f_35 ∧ FR S [13, 14, 34] f f_35 ∧ ((r_35.toInt = 1 ∧ x.toInt < 5 ∧ ((ks i = 40 ∧ TKm cI g ks vs f_35 (i + 1)) ∨ ((7 ≤ ks i ∧ ks i ≤ 9) ∧ ks (i + 1) = 40 ∧ TKm cI g ks vs f_35 (i + 2)) ∨ (ks i = 10 ∧ ks (i + 1) = 1 ∧ ks (i + 2) = 40 ∧ TKm cI g ks vs f_35 (i + 3) ∧ TNf cI g f_35 x.toInt (vs (i + 1))))) ∨ (r_35.toInt = 0 ∧ ¬ (x.toInt < 5 ∧ (ks i = 40 ∨ ((7 ≤ ks i ∧ ks i ≤ 9) ∧ ks (i + 1) = 40) ∨ (ks i = 10 ∧ ks (i + 1) = 1 ∧ ks (i + 2) = 40))))) ∧ (∀ k9 v9 : Int, 0 ≤ k9 → k9 ≠ x.toInt → TNf cI g f k9 v9 → TNf cI g f_35 k9 v9) ∧ (FX S (fun _ => False) [13, 14, 34] f f_35) ∧ (r_35.toInt = 0 ∨ r_35.toInt = 1) := hw
      have hP : va_P D vwCl (va_pl L f_35) H := hP
      have hD : va_D A (va_pl L f_35) := hD
      have hF := FR_tr hF hF_35 (by decide)
      have hFX := FX_tr hFX hfx_35 (fun _ h9 => h9.elim) (by decide)
      have hy9 : r_35.toInt = 0 := by
        rcases hp_35 with h9 | h9
        · exfalso; have := h9.2.1; omega
        · exact h9.1
      refine a_if_eq (u := r_35.toInt) (tgt := 127) hx hb dX4_readOne_92 (by decide) (rfl) (fun c_36 => ?_) (fun c_36 => absurd c_36 (by subst hj1; omega))
      refine lv_iconst (v := 0) hx hb dX4_readOne_127 (by decide) ?_
      have hz_37 : (0 : Int32).toInt = 0 := by decide
      exact g_zret ((0 : Int32), f_35) hx hb hr hlocks hS (by first | exact Or.inl rfl | exact Or.inr rfl) rfl (⟨hI, hF, show Hd (((0 : Int32).toInt = 1 ∧ OneR cI jn g lv S f_35 ks vs E i x.toInt top one may isO w st op dg st1 op1 dg1) ∨ ((0 : Int32).toInt = 0 ∧ Fls ks vs E (i, x.toInt, top, one, may, isO, w, st1, op1, dg1))) from (Or.inr ⟨rfl, Fls_0 (F_opens (by subst hj1; omega) (hp_35.resolve_left (fun q9 => by have := q9.1; omega)).2)⟩), show ∀ k9 v9 : Int, 0 ≤ k9 → k9 < x.toInt → TNf cI g f k9 v9 → TNf cI g f_35 k9 v9 from (fun k9 v9 h7 h8 h9 => (ht_35 k9 v9 h7 (by subst hj1; omega) h9)), show FX S (BXp g lv x.toInt) [13, 14, 34] f f_35 from (by first | assumption | omega | (subst hj1; omega)), show (0 : Int32).toInt = 0 ∨ (0 : Int32).toInt = 1 from (by first | assumption | omega | (subst hj1; omega))⟩) hP hD hQ (Nat.le_of_ble_eq_true rfl) (Nat.le_of_ble_eq_true rfl) dX4_readOne_128
  · refine lv_aload_n hx hb dX4_readOne_7 rfl (lv_at hl 0 rfl) ?_
    refine lv_iconst (v := 1) hx hb dX4_readOne_8 (by decide) ?_
    have hz_38 : (1 : Int32).toInt = 1 := by decide
    refine call_p (va_runV (As := [.int 1]) (rest := []) ⟨hx, hb, hml, hown, hts⟩ (t_X4_fail l D cI cR cM _   hj hG hI  ) (cwV 1 hts gX4_readOne_X4_fail rfl rfl rfl (by decide +kernel) ⟨Nat.le_of_ble_eq_true rfl, Nat.le_of_ble_eq_true rfl⟩) (pre_T hK hP hD (gm_13 hG) fg_1 rfl) rfl rfl hl.1 rfl (lv_room (Nat.le_of_ble_eq_true rfl)) dX4_readOne_9 ⟨Nat.le_of_ble_eq_true rfl, Nat.le_of_ble_eq_true rfl⟩) hD hS hA (fun u_39 H locs hw hP hD hS => ?_)
    obtain ⟨r_39, f_39⟩ := u_39
    obtain ⟨hI, hF_39, h0_39, h01_39⟩ : IN jn cI cR cM g L S f_39 ∧ FR S [13] f f_39 ∧ (r_39.toInt = 0) ∧ (r_39.toInt = 0 ∨ r_39.toInt = 1) := hw
    have hP : va_P D vwCl (va_pl L f_39) H := hP
    have hD : va_D A (va_pl L f_39) := hD
    have hF := FR_tr hF hF_39 (by decide)
    have hFX := FX_trR hFX hF_39 (by decide) (by decide)
    exact g_zret (r_39, f_39) hx hb hr hlocks hS (b01 (by subst hj1; omega)) rfl (⟨hI, hF, show Hd ((r_39.toInt = 1 ∧ OneR cI jn g lv S f_39 ks vs E i x.toInt top one may isO w st op dg st1 op1 dg1) ∨ (r_39.toInt = 0 ∧ Fls ks vs E (i, x.toInt, top, one, may, isO, w, st1, op1, dg1))) from (Or.inr ⟨h0_39, by
      have h8 := (hp_2.resolve_left (fun q9 => by have := q9.1; omega)).2
      obtain ⟨e1, e2⟩ := hbg.resolve_right h8
      rw [e1, e2]
      exact L_none h8⟩), show ∀ k9 v9 : Int, 0 ≤ k9 → k9 < x.toInt → TNf cI g f k9 v9 → TNf cI g f_39 k9 v9 from (fun k9 v9 _ _ h9 => TN_fr hG hF_39 (by decide) k9 v9 h9), show FX S (BXp g lv x.toInt) [13, 14, 34] f f_39 from (by first | assumption | omega | (subst hj1; omega)), show r_39.toInt = 0 ∨ r_39.toInt = 1 from (by first | assumption | omega | (subst hj1; omega))⟩) hP hD hQ (Nat.le_of_ble_eq_true rfl) (Nat.le_of_ble_eq_true rfl) dX4_readOne_12
set_option maxRecDepth 100000 in
set_option maxHeartbeats 4000000 in
theorem t_X4_readSequencem_1 (l : Launch) (D : va_G) (cI cR cM : ClassId) (sz : Nat) {jn : Nat} {g : Nat → Nat} {L : List Nat} {S : Sg} {f : Nat → va_E} {x : Int32} {ks vs : Nat → Int} {i : Nat} {lv gr : Nat → Nat} {E : Env1} {F : Int → Int} {top one : Int} {w st op dg st1 op1 dg1 : Int → Int} (hj : 1 ≤ jn ∧ jn ≤ 3) (hG : SG g L S) (hI : IN jn cI cR cM g L S f) (hj1 : jn = 1) (hC : TKm cI g ks vs f i) (hKO : KO ks vs) (hRD : RDC g lv gr S) (hLv : LvC cR g lv f) (hEC : EnvC cI cR jn g lv gr S f E F) (hEO : EOk E) (hx0 : 0 ≤ x.toInt ∧ x.toInt ≤ 5) (hd : 5 ≤ x.toInt) (hMS : MSb cI jn g lv S f x.toInt top w st op dg) (htop : st x.toInt = top) (hst : ∀ k9 : Int, 0 ≤ k9 → k9 ≤ x.toInt → st1 k9 = st k9) (hop : ∀ k9 : Int, 0 ≤ k9 → k9 < x.toInt → op1 k9 = op k9 ∧ dg1 k9 = dg k9) : Met l yX4_readSequence wsX4_readSequence ({ frames := 4, cells := 0, slots := 0, locals := 133 }) (P0 D cI cR cM [.ref (g 13), .int x] sz (va_pl L f)) (QG (S := Int32 × (Nat → va_E)) (fun u => some (.int u.1)) (fun u => va_pl L u.2) (fun u => IN jn cI cR cM g L S u.2 ∧ FR S [0, 1, 13, 14, 34] f u.2 ∧ (Hd ((u.1.toInt = 1 ∧ SeqR cI jn g lv S u.2 ks vs E i x.toInt top one w st op dg st1 op1 dg1) ∨ (u.1.toInt = 0 ∧ Fls ks vs E (i, x.toInt, top, one, 0, 0, w, st1, op1, dg1)))) ∧ (∀ k9 v9 : Int, 0 ≤ k9 → k9 < x.toInt → TNf cI g f k9 v9 → TNf cI g u.2 k9 v9) ∧ (FX S (BXp g lv x.toInt) [13, 14, 34] f u.2) ∧ (u.1.toInt = 0 ∨ u.1.toInt = 1)) D (va_A (va_pl L f) sz)) 0 0 (va_A (va_pl L f) sz) := by
  refine go (cc := cX4_readSequence) (maxL := 5) (ret := (some .boolean)) (by decide +kernel) rfl (Nat.le_of_ble_eq_true rfl) ?_
  intro p e s m below meth c ls args Q hQ hsz hx hb hr hml hts hown hlocks hnm hP hK hD hl
  subst hsz
  have hD := hD.self (sz := s.heap.size)
  generalize hAe : va_A (va_pl L f) s.heap.size = A at hD hQ
  have hA : ∀ q, s.heap.size ≤ q → A q := fun q h => by rw [← hAe]; exact Or.inr h
  have hS : va_S A s.heap s.heap [] := va_S.rf
  have hFX : FX S (BXp g lv x.toInt) [13, 14, 34] f f := FX_rf
  have hF : FR S [0, 1, 13, 14, 34] f f := FR_rf
  have hl : lv_has ls 5 [(0, .ref (g 13)), (1, .int x)] := hl
  refine lv_iload_n hx hb dX4_readSequence_0 rfl (lv_at hl 1 rfl) ?_
  refine a_if_lt (u := x.toInt) (tgt := 9) hx hb dX4_readSequence_1 (by decide) (rfl) (fun c_1 => absurd c_1 (by subst hj1; omega)) (fun c_1 => ?_)
  refine lv_iload_n hx hb dX4_readSequence_4 rfl (lv_at hl 1 rfl) ?_
  refine lv_iconst (v := 5) hx hb dX4_readSequence_5 (by decide) ?_
  refine a_icmp_le (u := x.toInt) (v := 5) (tgt := 15) hx hb dX4_readSequence_6 (by decide) (rfl) (by decide) (fun c_2 => ?_) (fun c_2 => absurd c_2 (by subst hj1; omega))
  refine lv_aload_n hx hb dX4_readSequence_15 rfl (lv_at hl 0 rfl) ?_
  obtain ⟨fa_3, pl_3, fg_3⟩ := op_13 hI (gm_13 hG) (gs_13 hG)
  refine t_get (D := D) (L := L) (f := f) (ci := 4) (v := .ref (g 22)) (C := RX4) (T := TX4) (N := 11) hx hb hts (by decide +kernel) hown hK.1 hP (gm_13 hG) fg_3 rfl 3 (by decide) (hts (.fieldLink RX4 13 "JugglingHall$Reader" "levels" "[LJugglingHall$Row;") (by decide +kernel)) (fun _ h9 => h9) rfl dX4_readSequence_16 ?_
  refine lv_iload_n hx hb dX4_readSequence_19 rfl (lv_at hl 1 rfl) ?_
  obtain ⟨c_4, fg_4, iv0_4⟩ := op_22 hI (gm_22 hG) (gs_22 hG)
  refine t_aald (L := L) (f := f) (y := c_4) (u := x.toInt) hx hb hK.1 hP (gm_22 hG) 1 fg_4 rfl dX4_readSequence_20 (rfl) (by subst hj1; omega) (fun w_5 q_5 => ?_)
  obtain ⟨r_5, p_5, n_5, er_5, m_5, s_5⟩ := iv0_4 x.toInt (by subst hj1; omega) (by subst hj1; omega)
  have q_5 := q_5.trans er_5
  subst q_5
  refine W.eq (g2 := F0 m 21 ls [.ref r_5]) rfl ?_
  have hh_5 : r_5 = lv x.toInt.toNat := LvC_at (l := x.toInt) hLv fg_4 (by subst hj1; omega) (by subst hj1; omega) (by rw [show x.toInt = x.toInt by omega]; exact er_5)
  have hN_5 := cap_of (S := S) (a := r_5) (k := 48) (by rw [hh_5]; exact (hRD.2.1 _ (by subst hj1; omega)).1) s_5
  obtain ⟨len_6, fg_6, v1_6, v2_6, v3_6, mp_6, sp_6⟩ := op_0 hI m_5 s_5
  obtain ⟨w1_6, w2_6, w3_6, w4_6, w5_6⟩ := lenw hj v1_6 v2_6 v3_6
  obtain ⟨c_7, fg_7, iv0_7⟩ := op_1 hI mp_6 sp_6
  refine lv_astore_n (lv' := [(2, .ref r_5), (0, .ref (g 13)), (1, .int x)]) hx hb dX4_readSequence_21 rfl hl (by decide) rfl (fun ls hl => ?_)
  refine lv_aload_n hx hb dX4_readSequence_22 rfl (lv_at hl 0 rfl) ?_
  refine lv_iconst (v := 0) hx hb dX4_readSequence_23 (by decide) ?_
  have hz_9 : (0 : Int32).toInt = 0 := by decide
  refine t_putN (D := D) (L := L) (f := f) (ci := 5) (v := .int 0) (ty := .int) (C := RX5) (T := TX5) (N := 4) (host := "JugglingHall") hx hb hts (by decide +kernel) tyX5 tyX5_ok nmX5 hown hK.1 hP hD hS m_5 fg_6 rfl 3 (by decide) (hK.nw (.fieldLinkNest RX4 62 "JugglingHall$Row" "length" "I" "JugglingHall") (by decide +kernel) rfl) (fun _ h9 => h9) rfl (by decide +kernel) rfl rfl (Nat.le_of_ble_eq_true rfl) dX4_readSequence_24 (fun f_8 H locs e9_8 o_8 hP hD hS => ?_)
  have fa_8 : f_8 r_5 = .inr (5, [.int (nI jn), .int (nI (2 * jn)), .ref p_5, .int 0]) := e9_8
  have hI := IN_set (e := .inr (5, [.int (nI jn), .int (nI (2 * jn)), .ref p_5, .int 0])) hI s_5 (mk_0 (by first | assumption | omega | (subst hj1; omega)) (by rw [show (0 : Int32).toInt = 0 from rfl, Int.zero_mul]; omega) (by first | assumption | omega | (subst hj1; omega)) (by first | assumption | omega | (subst hj1; omega)) (by first | assumption | omega | (subst hj1; omega))) fa_8 o_8
  have hF := FR_set hF s_5 (show (0 : Nat) ∈ ([0, 1, 13, 14, 34] : List Nat) by decide) o_8
  have hFX := FX_set0 hFX s_5 (Or.inl ⟨x.toInt.toNat, Nat.le_refl _, by omega, hh_5⟩) o_8
  have fb_10 : f_8 (g 13) = .inr (4, [.int (nI jn), .ref (g 14), .ref (g 12), .ref (g 22), .ref (g 34), .ref (g 23), .ref (g 24), .ref (g 25), .ref (g 26), .int fa_3, .int pl_3]) := f_at o_8 (S_ne (gs_13 hG) s_5 (show (13 : Nat) ≠ 0 by decide)) fg_3
  have fb_11 : f_8 (g 22) = .inl (cR, 6, .inr (.inr (.inr (.inr c_4)))) := f_at o_8 (S_ne (gs_22 hG) s_5 (show (22 : Nat) ≠ 0 by decide)) fg_4
  have fb_12 : f_8 p_5 = .inl (cI, n_5, .inl c_7) := f_at o_8 (S_ne sp_6 s_5 (show (1 : Nat) ≠ 0 by decide)) fg_7
  have hC1 : TKm cI g ks vs f_8 i := TKm_o hC hG s_5 (show (0 : Nat) ∉ ([14, 31, 32] : List Nat) by decide) o_8
  have hLv1 := LvC_fr hLv hG hF (by decide)
  have hEC1 := EnvC_fx hEC hG hF hFX (by decide) (by decide) (nb_gr hRD) nb_nr
  have htl1 : ∀ k9 v9 : Int, 0 ≤ k9 → k9 < x.toInt → TNf cI g f k9 v9 → TNf cI g f_8 k9 v9 := fun k9 v9 _ _ h9 => TN_o hG s_5 (show (0 : Nat) ≠ 34 by decide) o_8 k9 v9 h9
  have hM1 : MSt cI jn g lv S f_8 x.toInt top w st op dg := ⟨MSb_fx hMS hFX (by decide) (nb_lv hRD (by subst hj1; omega)) htl1 (fun _ _ _ => rfl) (by subst hj1; omega) hMS.2.2.2.2, by omega, RWf_e (b := r_5) ⟨_, _, _, _, s_5, sp_6, fa_8, fb_12, by rw [show (0 : Int32).toInt = 0 from rfl]; omega, fun i9 h8 h9 => absurd h9 (by subst hj1; omega)⟩ hh_5.symm⟩
  refine lv_iconst (v := 0) hx hb dX4_readSequence_27 (by decide) ?_
  refine lv_istore_n (lv' := [(3, .int 0), (2, .ref r_5), (0, .ref (g 13)), (1, .int x)]) hx hb dX4_readSequence_28 rfl hl (by decide) rfl (fun ls hl => ?_)
  have loop29 : ∀ (ddloop29 : Nat) (ii : Int32) (f_13 : Nat → va_E) (H : Heap) (locs : List Loc) (ls : Array Slot), (400 - ii.toInt).toNat < ddloop29 → IN jn cI cR cM g L S f_13 → FR S [0, 1, 13, 14, 34] f f_13 → (0 ≤ ii.toInt ∧ ii.toInt ≤ 301) → (Hd (∃ (i2 : Nat) (top2 one2 may2 isO2 : Int) (w2 st2 op2 dg2 : Int → Int), SeqI cI jn g lv S f_13 ks vs E i x.toInt top one w st op dg st1 op1 dg1 ii.toInt i2 top2 one2 may2 isO2 w2 st2 op2 dg2)) → (LvC cR g lv f_13) → (EnvC cI cR jn g lv gr S f_13 E F) → (∀ k9 v9 : Int, 0 ≤ k9 → k9 < x.toInt → TNf cI g f k9 v9 → TNf cI g f_13 k9 v9) → (FX S (BXp g lv x.toInt) [13, 14, 34] f f_13) → va_P D vwCl (va_pl L f_13) H → va_D A (va_pl L f_13) → va_S A s.heap H locs → lv_has ls 5 [(0, .ref (g 13)), (1, .int x), (2, .ref r_5), (3, .int ii)] → W p l e ({ frames := 4, cells := 0, slots := 0, locals := 133 }) s m args below meth c H locs (0) (0) Q (F0 m 29 ls []) := by
    intro ddloop29
    induction ddloop29 with
    | zero =>
      intro ii f_13 H locs ls hdd
      exact absurd hdd (Nat.not_lt_zero _)
    | succ ddloop29 ih29 =>
      intro ii f_13 H locs ls hdd hI hF hi hSI hLvl hECl htl hFX hP hD hS hl
      obtain ⟨i2, top2, one2, may2, isO2, w2, st2, op2, dg2, j1, j2, j3, j4, j5, j6, j7, j8, j9⟩ := hSI
      have hst0 := (hMS.2.1 x.toInt (by subst hj1; omega) (Int.le_refl _)).1
      have htl0 := j3.1.2.2.2.1
      refine lv_iload_n hx hb dX4_readSequence_29 rfl (lv_at hl 3 rfl) ?_
      refine lv_sipush (v := 300) hx hb dX4_readSequence_30 (by decide) ?_
      refine a_icmp_gt (u := ii.toInt) (v := 300) (tgt := 79) hx hb dX4_readSequence_33 (by decide) (rfl) (by decide) (fun c_14 => ?_) (fun c_14 => ?_)
      · refine lv_iconst (v := 1) hx hb dX4_readSequence_79 (by decide) ?_
        have hz_15 : (1 : Int32).toInt = 1 := by decide
        exact g_zret ((1 : Int32), f_13) hx hb hr hlocks hS (by first | exact Or.inl rfl | exact Or.inr rfl) rfl (⟨hI, hF, show Hd (((1 : Int32).toInt = 1 ∧ SeqR cI jn g lv S f_13 ks vs E i x.toInt top one w st op dg st1 op1 dg1) ∨ ((1 : Int32).toInt = 0 ∧ Fls ks vs E (i, x.toInt, top, one, 0, 0, w, st1, op1, dg1))) from (by
          obtain ⟨e1, e2, e3, e4⟩ := j8.resolve_left (fun q9 => by have := q9.1; omega)
          rw [e2] at j1
          exact Or.inl ⟨rfl, ii.toInt, i2, top2, one2, may2, w2, st2, op2, dg2, ⟨j1, j2, j3, j4, j5, j6, j7, Or.inr ⟨e1, rfl, e3, e4⟩, j9⟩, e1, by have := TKm_end j2 (by subst hj1; omega); omega⟩), show ∀ k9 v9 : Int, 0 ≤ k9 → k9 < x.toInt → TNf cI g f k9 v9 → TNf cI g f_13 k9 v9 from (htl), show FX S (BXp g lv x.toInt) [13, 14, 34] f f_13 from (by first | assumption | omega | (subst hj1; omega)), show (1 : Int32).toInt = 0 ∨ (1 : Int32).toInt = 1 from (by first | assumption | omega | (subst hj1; omega))⟩) hP hD hQ (Nat.le_of_ble_eq_true rfl) (Nat.le_of_ble_eq_true rfl) dX4_readSequence_80
      · refine lv_iload_n hx hb dX4_readSequence_36 rfl (lv_at hl 3 rfl) ?_
        refine a_if_eq (u := ii.toInt) (tgt := 47) hx hb dX4_readSequence_37 (by decide) (rfl) (fun c_16 => ?_) (fun c_16 => ?_)
        · refine lv_aload_n hx hb dX4_readSequence_47 rfl (lv_at hl 2 rfl) ?_
          have hRl := RWf_e j3.2.2 hh_5
          obtain ⟨len_17, fg_17, v1_17, v2_17, v3_17, mp_17, sp_17⟩ := op_0 hI m_5 s_5
          obtain ⟨w1_17, w2_17, w3_17, w4_17, w5_17⟩ := lenw hj v1_17 v2_17 v3_17
          obtain ⟨c_18, fg_18, iv0_18⟩ := op_1 hI mp_6 sp_6
          obtain ⟨hl_19, hc_19⟩ := RWf_at hRl s_5 fg_17 fg_18
          refine t_getN (D := D) (L := L) (f := f_13) (ci := 5) (v := .int len_17) (C := RX5) (T := TX5) (N := 4) (host := "JugglingHall") hx hb hts (by decide +kernel) hown hK.1 hP m_5 fg_17 rfl 3 (by decide) (hK.nw (.fieldLinkNest RX4 62 "JugglingHall$Row" "length" "I" "JugglingHall") (by decide +kernel) rfl) (fun _ h9 => h9) rfl dX4_readSequence_48 ?_
          refine lv_istore (lv' := [(4, .int len_17), (0, .ref (g 13)), (1, .int x), (2, .ref r_5), (3, .int ii)]) hx hb dX4_readSequence_51 hl (by decide) rfl (fun ls hl => ?_)
          refine lv_aload_n hx hb dX4_readSequence_53 rfl (lv_at hl 1 rfl) ?_
          refine lv_iload_n hx hb dX4_readSequence_54 rfl (lv_at hl 2 rfl) ?_
          obtain ⟨fa_20, pl_20, fg_20⟩ := op_13 hI (gm_13 hG) (gs_13 hG)
          refine call_p (va_runV (As := [.int x]) (rest := []) ⟨hx, hb, hml, hown, hts⟩ (t_X4_readOnem_1 l D cI cR cM _ (i := i2) (top := top2) (one := one2) (may := may2) (isO := isO2) (w := w2) (st := st) (op := op) (dg := dg) (st1 := st2) (op1 := op2) (dg1 := dg2) (lv := lv) (gr := gr) (E := E) (F := F) (ks := ks) (vs := vs)  hj hG hI  (by first | assumption | omega | (subst hj1; omega)) (j2) (by first | assumption | omega | (subst hj1; omega)) (by first | assumption | omega | (subst hj1; omega)) (hLvl) (hECl) (by first | assumption | omega | (subst hj1; omega)) (by first | assumption | omega | (subst hj1; omega)) (by first | assumption | omega | (subst hj1; omega)) (j3) (j4) (j5) (j7) (Or.inl (j8.elim (fun q9 => ⟨q9.2.1, q9.2.2.1⟩) (fun q9 => by have := q9.1; omega)))) (cwV 1 hts gX4_readSequence_X4_readOne rfl rfl rfl (by decide +kernel) ⟨Nat.le_of_ble_eq_true rfl, Nat.le_of_ble_eq_true rfl⟩) (pre_T hK hP hD (gm_13 hG) fg_20 rfl) rfl rfl hl.1 rfl (lv_room (Nat.le_of_ble_eq_true rfl)) dX4_readSequence_55 ⟨Nat.le_of_ble_eq_true rfl, Nat.le_of_ble_eq_true rfl⟩) hD hS hA (fun u_21 H locs hw hP hD hS => ?_)
          obtain ⟨r_21, f_21⟩ := u_21
          obtain ⟨hI, hF_21, hp_21, htn_21, hfx_21, h01_21⟩ : IN jn cI cR cM g L S f_21 ∧ FR S [0, 1, 13, 14, 34] f_13 f_21 ∧ (Hd ((r_21.toInt = 1 ∧ OneR cI jn g lv S f_21 ks vs E i2 x.toInt top2 one2 may2 isO2 w2 st op dg st2 op2 dg2) ∨ (r_21.toInt = 0 ∧ Fls ks vs E (i2, x.toInt, top2, one2, may2, isO2, w2, st2, op2, dg2)))) ∧ (∀ k9 v9 : Int, 0 ≤ k9 → k9 < x.toInt → TNf cI g f_13 k9 v9 → TNf cI g f_21 k9 v9) ∧ (FX S (BXp g lv x.toInt) [13, 14, 34] f_13 f_21) ∧ (r_21.toInt = 0 ∨ r_21.toInt = 1) := hw
          have hP : va_P D vwCl (va_pl L f_21) H := hP
          have hD : va_D A (va_pl L f_21) := hD
          have hF := FR_tr hF hF_21 (by decide)
          have hFX := FX_tr hFX hfx_21 (fun _ h9 => h9) (by decide)
          refine a_if_eq (u := r_21.toInt) (tgt := 71) hx hb dX4_readSequence_58 (by decide) (rfl) (fun c_22 => ?_) (fun c_22 => ?_)
          · refine lv_iconst (v := 0) hx hb dX4_readSequence_71 (by decide) ?_
            have hz_23 : (0 : Int32).toInt = 0 := by decide
            exact g_zret ((0 : Int32), f_21) hx hb hr hlocks hS (by first | exact Or.inl rfl | exact Or.inr rfl) rfl (⟨hI, hF, show Hd (((0 : Int32).toInt = 1 ∧ SeqR cI jn g lv S f_21 ks vs E i x.toInt top one w st op dg st1 op1 dg1) ∨ ((0 : Int32).toInt = 0 ∧ Fls ks vs E (i, x.toInt, top, one, 0, 0, w, st1, op1, dg1))) from (Or.inr ⟨rfl, Fls_tr j1 (hp_21.resolve_left (fun q9 => by have := q9.1; omega)).2⟩), show ∀ k9 v9 : Int, 0 ≤ k9 → k9 < x.toInt → TNf cI g f k9 v9 → TNf cI g f_21 k9 v9 from (fun k9 v9 h7 h8 h9 => htn_21 k9 v9 h7 h8 (htl k9 v9 h7 h8 h9)), show FX S (BXp g lv x.toInt) [13, 14, 34] f f_21 from (by first | assumption | omega | (subst hj1; omega)), show (0 : Int32).toInt = 0 ∨ (0 : Int32).toInt = 1 from (by first | assumption | omega | (subst hj1; omega))⟩) hP hD hQ (Nat.le_of_ble_eq_true rfl) (Nat.le_of_ble_eq_true rfl) dX4_readSequence_72
          · obtain ⟨-, i3_, top3_, w3_, st3_, op3_, dg3_, j1_, j2_, j3_, j4_, j5_, j6_, j7_, j8_⟩ := hp_21.resolve_right (fun q9 => by have := q9.1; omega)
            have hLv2 := LvC_fr hLvl hG hF_21 (by decide)
            have hEC2 := EnvC_fx hECl hG hF_21 hfx_21 (by decide) (by decide) (nb_gr hRD) nb_nr
            have htl2 := j5_.1.2.2.2.1
            refine lv_aload_n hx hb dX4_readSequence_61 rfl (lv_at hl 1 rfl) ?_
            refine lv_aload_n hx hb dX4_readSequence_62 rfl (lv_at hl 3 rfl) ?_
            refine lv_iload hx hb dX4_readSequence_63 (lv_at hl 0 rfl) ?_
            have hRo := RWf_e j5_.2.2 hh_5
            have hlf : len_17.toInt = top2 - st x.toInt := hl_19
            obtain ⟨len_24, fg_24, v1_24, v2_24, v3_24, mp_24, sp_24⟩ := op_0 hI m_5 s_5
            obtain ⟨w1_24, w2_24, w3_24, w4_24, w5_24⟩ := lenw hj v1_24 v2_24 v3_24
            obtain ⟨c_25, fg_25, iv0_25⟩ := op_1 hI mp_6 sp_6
            obtain ⟨hl_26, hc_26⟩ := RWf_at hRo s_5 fg_24 fg_25
            obtain ⟨fa_27, pl_27, fg_27⟩ := op_13 hI (gm_13 hG) (gs_13 hG)
            refine call_p (va_runV (As := [.ref r_5, .int len_17]) (rest := []) ⟨hx, hb, hml, hown, hts⟩ (t_X4_readTimesm l D cI cR cM _ (ks := ks) (vs := vs) (i := i3_) (w := (fun j => w3_ (2 * st x.toInt + j)))  hj hG hI m_5 s_5 fg_24 fg_25 (by first | assumption | omega | (subst hj1; omega)) (j4_) (by first | assumption | omega | (subst hj1; omega)) (by subst hj1; omega) (by rw [hl_26]; exact hc_26)) (cwV 2 hts gX4_readSequence_X4_readTimes rfl rfl rfl (by decide +kernel) ⟨Nat.le_of_ble_eq_true rfl, Nat.le_of_ble_eq_true rfl⟩) (pre_T hK hP hD (gm_13 hG) fg_27 rfl) rfl rfl hl.1 rfl (lv_room (Nat.le_of_ble_eq_true rfl)) dX4_readSequence_65 ⟨Nat.le_of_ble_eq_true rfl, Nat.le_of_ble_eq_true rfl⟩) hD hS hA (fun u_28 H locs hw hP hD hS => ?_)
            obtain ⟨r_28, f_28⟩ := u_28
            obtain ⟨hI, hF_28, hp_28, hfx_28, h01_28⟩ : IN jn cI cR cM g L S f_28 ∧ FR S [0, 1, 13, 14] f_21 f_28 ∧ ((r_28.toInt = 1 ∧ ((ks i3_ ≠ 42 ∧ TKm cI g ks vs f_28 i3_ ∧ RWf cI jn S f_28 r_5 len_24.toInt (fun j => w3_ (2 * st x.toInt + j))) ∨ (ks i3_ = 42 ∧ ks (i3_ + 1) = 1 ∧ vs (i3_ + 1) ≠ 0 ∧ TKm cI g ks vs f_28 (i3_ + 1 + 1) ∧ 2 * (len_24.toInt + (vs (i3_ + 1) - 1) * (len_24.toInt - len_17.toInt)) ≤ (n_5 : Int) ∧ RWf cI jn S f_28 r_5 (len_24.toInt + (vs (i3_ + 1) - 1) * (len_24.toInt - len_17.toInt)) (tmW (fun j => w3_ (2 * st x.toInt + j)) len_24.toInt len_17.toInt)))) ∨ (r_28.toInt = 0 ∧ ks i3_ = 42 ∧ ¬ (ks (i3_ + 1) = 1 ∧ vs (i3_ + 1) ≠ 0 ∧ 2 * (len_24.toInt + (vs (i3_ + 1) - 1) * (len_24.toInt - len_17.toInt)) ≤ (n_5 : Int)))) ∧ (FX S (fun a9 => a9 = r_5) [13, 14] f_21 f_28) ∧ (r_28.toInt = 0 ∨ r_28.toInt = 1) := hw
            have hP : va_P D vwCl (va_pl L f_28) H := hP
            have hD : va_D A (va_pl L f_28) := hD
            have hF := FR_tr hF hF_28 (by decide)
            have hFX := FX_tr hFX hfx_28 (fun a9 h9 => Or.inl ⟨x.toInt.toNat, Nat.le_refl _, by omega, h9.trans hh_5⟩) (by decide)
            refine a_if_ne (u := r_28.toInt) (tgt := 73) hx hb dX4_readSequence_68 (by decide) (rfl) (fun c_29 => ?_) (fun c_29 => ?_)
            · obtain ⟨z_30, q_30, e_30⟩ := i_inc (a := ii.toInt) (1) (rfl) (by decide) (by subst hj1; omega) (by subst hj1; omega)
              refine lv_iinc (v := z_30) (lv' := [(3, .int z_30), (4, .int len_17), (0, .ref (g 13)), (1, .int x), (2, .ref r_5)]) hx hb dX4_readSequence_73 hl (k := 4) rfl q_30 (by decide) rfl (fun ls hl => ?_)
              refine lv_goto (tgt := 29) hx hb dX4_readSequence_76 (by decide) ?_
              exact ih29 z_30 f_28 _ _ _ (by subst hj1; omega) hI hF (by first | assumption | omega | (subst hj1; omega)) (by
                rw [hl_26] at hp_28
                rw [hlf] at hp_28
                obtain ⟨-, h9⟩ := hp_28.resolve_right (fun q9 => by have := q9.1; omega)
                rcases h9 with ⟨h1, h2, h3⟩ | ⟨h1, h2, h3, h4, h5, h6⟩
                · exact ⟨i3_, top3_, top2, 1, 1, w3_, st3_, op3_, dg3_, Go_tr j1 j1_, h2, ⟨MSb_rf j5_.1 hfx_28 (by decide) (fun k9 h8 h7 q9 => (hRD.2.2.2.2.1 k9.toNat x.toInt.toNat (by subst hj1; omega) (by subst hj1; omega) (by subst hj1; omega)) (q9.trans hh_5)) (fun k9 v9 _ _ h9 => TN_fr hG hF_28 (by decide) k9 v9 h9), j5_.2.1, RWf_e h3 hh_5.symm⟩, j6_, j7_, fun j9 h8 h9 => by rw [j8_ j9 h8 h9]; exact j6 j9 h8 h9, fun q9 => h1 q9.2, Or.inr ⟨by omega, rfl, by omega, by omega⟩, by omega⟩
                · rw [show top3_ - st x.toInt - (top2 - st x.toInt) = top3_ - top2 by omega] at h5 h6
                  have h6 := RWf_e h6 hh_5.symm
                  obtain ⟨q1, q2, q3⟩ := L_times (E := E) (i := i3_) (one := top2) (isO := 1) (op1 := op3_) (dg1 := dg3_) (may := 1) j5_ (fun top9 w9 q1 q2 q3 => MSb_fx j5_.1 hfx_28 (by decide) (fun k9 h8 h7 q9 => (hRD.2.2.2.2.1 k9.toNat x.toInt.toNat (by subst hj1; omega) (by subst hj1; omega) (by subst hj1; omega)) (q9.trans hh_5)) (fun k9 v9 _ _ h9 => TN_fr hG hF_28 (by decide) k9 v9 h9) q1 q2 q3) rfl (j6_ _ (by subst hj1; omega) (Int.le_refl _)) h1 h2 h3 (by have := (hKO (i3_ + 1)).2.1 h2; omega) (by subst hj1; omega) (by subst hj1; omega) h6
                  have hm0 : 0 ≤ (vs (i3_ + 1) - 1) * (top3_ - top2) := Int.mul_nonneg (by have := (hKO (i3_ + 1)).2.1 h2; omega) (by subst hj1; omega)
                  exact ⟨i3_ + 2, _, top2, 0, 1, _, st3_, op3_, dg3_, Go_tr j1 (Go_tr j1_ (Go_1 q1)), h4, q2, j6_, j7_, fun j9 h8 h9 => (q3 j9 h8 h9).trans ((j8_ j9 h8 h9).trans (j6 j9 h8 h9)), fun q9 => absurd q9.1 (by decide), Or.inr ⟨by omega, rfl, by omega, by omega⟩, by omega⟩) (LvC_fr hLv2 hG hF_28 (by decide)) (EnvC_fx hEC2 hG hF_28 hfx_28 (by decide) (by decide) (fun k9 h9 q9 => hRD.2.2.2.1 x.toInt.toNat k9 (by subst hj1; omega) h9 (hh_5.symm.trans q9.symm)) (fun r9 h9 q9 => h9 (Or.inl ⟨x.toInt.toNat, by omega, q9.trans hh_5⟩))) (fun k9 v9 h7 h8 h9 => TN_fr hG hF_28 (by decide) k9 v9 (htn_21 k9 v9 h7 h8 (htl k9 v9 h7 h8 h9))) (by first | assumption | omega | (subst hj1; omega)) hP hD hS (lv_sub hl [2, 3, 4, 0] rfl)
            · refine lv_iconst (v := 0) hx hb dX4_readSequence_71 (by decide) ?_
              have hz_31 : (0 : Int32).toInt = 0 := by decide
              exact g_zret ((0 : Int32), f_28) hx hb hr hlocks hS (by first | exact Or.inl rfl | exact Or.inr rfl) rfl (⟨hI, hF, show Hd (((0 : Int32).toInt = 1 ∧ SeqR cI jn g lv S f_28 ks vs E i x.toInt top one w st op dg st1 op1 dg1) ∨ ((0 : Int32).toInt = 0 ∧ Fls ks vs E (i, x.toInt, top, one, 0, 0, w, st1, op1, dg1))) from (by
                rw [hl_26] at hp_28
                rw [hlf] at hp_28
                obtain ⟨-, h1, h2⟩ := hp_28.resolve_left (fun q9 => by have := q9.1; omega)
                refine Or.inr ⟨rfl, Fls_tr (Go_tr j1 j1_) (Fls_0 (F_times rfl h1 ?_))⟩
                rw [j6_ _ (by subst hj1; omega) (Int.le_refl _)]
                rw [show top3_ - st x.toInt - (top2 - st x.toInt) = top3_ - top2 by omega] at h2
                exact fun q9 => h2 ⟨q9.1, q9.2.1, by have := q9.2.2; omega⟩), show ∀ k9 v9 : Int, 0 ≤ k9 → k9 < x.toInt → TNf cI g f k9 v9 → TNf cI g f_28 k9 v9 from (fun k9 v9 h7 h8 h9 => TN_fr hG hF_28 (by decide) k9 v9 (htn_21 k9 v9 h7 h8 (htl k9 v9 h7 h8 h9))), show FX S (BXp g lv x.toInt) [13, 14, 34] f f_28 from (by first | assumption | omega | (subst hj1; omega)), show (0 : Int32).toInt = 0 ∨ (0 : Int32).toInt = 1 from (by first | assumption | omega | (subst hj1; omega))⟩) hP hD hQ (Nat.le_of_ble_eq_true rfl) (Nat.le_of_ble_eq_true rfl) dX4_readSequence_72
        · refine lv_aload_n hx hb dX4_readSequence_40 rfl (lv_at hl 0 rfl) ?_
          obtain ⟨fa_32, pl_32, fg_32⟩ := op_13 hI (gm_13 hG) (gs_13 hG)
          refine roP (va_runV (As := []) (rest := []) ⟨hx, hb, hml, hown, hts⟩ (t_X4_beginsOnem l D cI cR cM _ (ks := ks) (vs := vs) (i := i2)  hj hG hI  (by first | assumption | omega | (subst hj1; omega)) (j2) (by first | assumption | omega | (subst hj1; omega))) (cwV 0 hts gX4_readSequence_X4_beginsOne rfl rfl rfl (by decide +kernel) ⟨Nat.le_of_ble_eq_true rfl, Nat.le_of_ble_eq_true rfl⟩) (pre_T hK hP hD (gm_13 hG) fg_32 rfl) rfl rfl hl.1 rfl (lv_room (Nat.le_of_ble_eq_true rfl)) dX4_readSequence_41 ⟨Nat.le_of_ble_eq_true rfl, Nat.le_of_ble_eq_true rfl⟩) hS hA hP (fun r_33 H locs hw hP hS => ?_)
          obtain ⟨hp_33, h01_33⟩ : ((r_33.toInt = 1 ∧ (ks i2 = 1 ∨ ks i2 = 2 ∨ ks i2 = 91 ∨ ks i2 = 40 ∨ (7 ≤ ks i2 ∧ ks i2 ≤ 10))) ∨ (r_33.toInt = 0 ∧ ¬ (ks i2 = 1 ∨ ks i2 = 2 ∨ ks i2 = 91 ∨ ks i2 = 40 ∨ (7 ≤ ks i2 ∧ ks i2 ≤ 10)))) ∧ (r_33.toInt = 0 ∨ r_33.toInt = 1) := hw
          refine a_if_eq (u := r_33.toInt) (tgt := 79) hx hb dX4_readSequence_44 (by decide) (rfl) (fun c_34 => ?_) (fun c_34 => ?_)
          · refine lv_iconst (v := 1) hx hb dX4_readSequence_79 (by decide) ?_
            have hz_35 : (1 : Int32).toInt = 1 := by decide
            exact g_zret ((1 : Int32), f_13) hx hb hr hlocks hS (by first | exact Or.inl rfl | exact Or.inr rfl) rfl (⟨hI, hF, show Hd (((1 : Int32).toInt = 1 ∧ SeqR cI jn g lv S f_13 ks vs E i x.toInt top one w st op dg st1 op1 dg1) ∨ ((1 : Int32).toInt = 0 ∧ Fls ks vs E (i, x.toInt, top, one, 0, 0, w, st1, op1, dg1))) from (by
              obtain ⟨e1, e2, e3, e4⟩ := j8.resolve_left (fun q9 => by have := q9.1; omega)
              rw [e2] at j1
              exact Or.inl ⟨rfl, ii.toInt, i2, top2, one2, may2, w2, st2, op2, dg2, ⟨j1, j2, j3, j4, j5, j6, j7, Or.inr ⟨e1, rfl, e3, e4⟩, j9⟩, e1, (hp_33.resolve_left (fun q9 => by have := q9.1; omega)).2⟩), show ∀ k9 v9 : Int, 0 ≤ k9 → k9 < x.toInt → TNf cI g f k9 v9 → TNf cI g f_13 k9 v9 from (htl), show FX S (BXp g lv x.toInt) [13, 14, 34] f f_13 from (by first | assumption | omega | (subst hj1; omega)), show (1 : Int32).toInt = 0 ∨ (1 : Int32).toInt = 1 from (by first | assumption | omega | (subst hj1; omega))⟩) hP hD hQ (Nat.le_of_ble_eq_true rfl) (Nat.le_of_ble_eq_true rfl) dX4_readSequence_80
          · refine lv_aload_n hx hb dX4_readSequence_47 rfl (lv_at hl 2 rfl) ?_
            have hRl := RWf_e j3.2.2 hh_5
            obtain ⟨len_36, fg_36, v1_36, v2_36, v3_36, mp_36, sp_36⟩ := op_0 hI m_5 s_5
            obtain ⟨w1_36, w2_36, w3_36, w4_36, w5_36⟩ := lenw hj v1_36 v2_36 v3_36
            obtain ⟨c_37, fg_37, iv0_37⟩ := op_1 hI mp_6 sp_6
            obtain ⟨hl_38, hc_38⟩ := RWf_at hRl s_5 fg_36 fg_37
            refine t_getN (D := D) (L := L) (f := f_13) (ci := 5) (v := .int len_36) (C := RX5) (T := TX5) (N := 4) (host := "JugglingHall") hx hb hts (by decide +kernel) hown hK.1 hP m_5 fg_36 rfl 3 (by decide) (hK.nw (.fieldLinkNest RX4 62 "JugglingHall$Row" "length" "I" "JugglingHall") (by decide +kernel) rfl) (fun _ h9 => h9) rfl dX4_readSequence_48 ?_
            refine lv_istore (lv' := [(4, .int len_36), (0, .ref (g 13)), (1, .int x), (2, .ref r_5), (3, .int ii)]) hx hb dX4_readSequence_51 hl (by decide) rfl (fun ls hl => ?_)
            refine lv_aload_n hx hb dX4_readSequence_53 rfl (lv_at hl 1 rfl) ?_
            refine lv_iload_n hx hb dX4_readSequence_54 rfl (lv_at hl 2 rfl) ?_
            refine call_p (va_runV (As := [.int x]) (rest := []) ⟨hx, hb, hml, hown, hts⟩ (t_X4_readOnem_1 l D cI cR cM _ (i := i2) (top := top2) (one := one2) (may := may2) (isO := isO2) (w := w2) (st := st) (op := op) (dg := dg) (st1 := st2) (op1 := op2) (dg1 := dg2) (lv := lv) (gr := gr) (E := E) (F := F) (ks := ks) (vs := vs)  hj hG hI  (by first | assumption | omega | (subst hj1; omega)) (j2) (by first | assumption | omega | (subst hj1; omega)) (by first | assumption | omega | (subst hj1; omega)) (hLvl) (hECl) (by first | assumption | omega | (subst hj1; omega)) (by first | assumption | omega | (subst hj1; omega)) (by first | assumption | omega | (subst hj1; omega)) (j3) (j4) (j5) (j7) (Or.inr (hp_33.resolve_right (fun q9 => by have := q9.1; omega)).2)) (cwV 1 hts gX4_readSequence_X4_readOne rfl rfl rfl (by decide +kernel) ⟨Nat.le_of_ble_eq_true rfl, Nat.le_of_ble_eq_true rfl⟩) (pre_T hK hP hD (gm_13 hG) fg_32 rfl) rfl rfl hl.1 rfl (lv_room (Nat.le_of_ble_eq_true rfl)) dX4_readSequence_55 ⟨Nat.le_of_ble_eq_true rfl, Nat.le_of_ble_eq_true rfl⟩) hD hS hA (fun u_39 H locs hw hP hD hS => ?_)
            obtain ⟨r_39, f_39⟩ := u_39
            obtain ⟨hI, hF_39, hp_39, htn_39, hfx_39, h01_39⟩ : IN jn cI cR cM g L S f_39 ∧ FR S [0, 1, 13, 14, 34] f_13 f_39 ∧ (Hd ((r_39.toInt = 1 ∧ OneR cI jn g lv S f_39 ks vs E i2 x.toInt top2 one2 may2 isO2 w2 st op dg st2 op2 dg2) ∨ (r_39.toInt = 0 ∧ Fls ks vs E (i2, x.toInt, top2, one2, may2, isO2, w2, st2, op2, dg2)))) ∧ (∀ k9 v9 : Int, 0 ≤ k9 → k9 < x.toInt → TNf cI g f_13 k9 v9 → TNf cI g f_39 k9 v9) ∧ (FX S (BXp g lv x.toInt) [13, 14, 34] f_13 f_39) ∧ (r_39.toInt = 0 ∨ r_39.toInt = 1) := hw
            have hP : va_P D vwCl (va_pl L f_39) H := hP
            have hD : va_D A (va_pl L f_39) := hD
            have hF := FR_tr hF hF_39 (by decide)
            have hFX := FX_tr hFX hfx_39 (fun _ h9 => h9) (by decide)
            refine a_if_eq (u := r_39.toInt) (tgt := 71) hx hb dX4_readSequence_58 (by decide) (rfl) (fun c_40 => ?_) (fun c_40 => ?_)
            · refine lv_iconst (v := 0) hx hb dX4_readSequence_71 (by decide) ?_
              have hz_41 : (0 : Int32).toInt = 0 := by decide
              exact g_zret ((0 : Int32), f_39) hx hb hr hlocks hS (by first | exact Or.inl rfl | exact Or.inr rfl) rfl (⟨hI, hF, show Hd (((0 : Int32).toInt = 1 ∧ SeqR cI jn g lv S f_39 ks vs E i x.toInt top one w st op dg st1 op1 dg1) ∨ ((0 : Int32).toInt = 0 ∧ Fls ks vs E (i, x.toInt, top, one, 0, 0, w, st1, op1, dg1))) from (Or.inr ⟨rfl, Fls_tr j1 (hp_39.resolve_left (fun q9 => by have := q9.1; omega)).2⟩), show ∀ k9 v9 : Int, 0 ≤ k9 → k9 < x.toInt → TNf cI g f k9 v9 → TNf cI g f_39 k9 v9 from (fun k9 v9 h7 h8 h9 => htn_39 k9 v9 h7 h8 (htl k9 v9 h7 h8 h9)), show FX S (BXp g lv x.toInt) [13, 14, 34] f f_39 from (by first | assumption | omega | (subst hj1; omega)), show (0 : Int32).toInt = 0 ∨ (0 : Int32).toInt = 1 from (by first | assumption | omega | (subst hj1; omega))⟩) hP hD hQ (Nat.le_of_ble_eq_true rfl) (Nat.le_of_ble_eq_true rfl) dX4_readSequence_72
            · obtain ⟨-, i3_, top3_, w3_, st3_, op3_, dg3_, j1_, j2_, j3_, j4_, j5_, j6_, j7_, j8_⟩ := hp_39.resolve_right (fun q9 => by have := q9.1; omega)
              have hLv2 := LvC_fr hLvl hG hF_39 (by decide)
              have hEC2 := EnvC_fx hECl hG hF_39 hfx_39 (by decide) (by decide) (nb_gr hRD) nb_nr
              have htl2 := j5_.1.2.2.2.1
              refine lv_aload_n hx hb dX4_readSequence_61 rfl (lv_at hl 1 rfl) ?_
              refine lv_aload_n hx hb dX4_readSequence_62 rfl (lv_at hl 3 rfl) ?_
              refine lv_iload hx hb dX4_readSequence_63 (lv_at hl 0 rfl) ?_
              have hRo := RWf_e j5_.2.2 hh_5
              have hlf : len_36.toInt = top2 - st x.toInt := hl_38
              obtain ⟨len_42, fg_42, v1_42, v2_42, v3_42, mp_42, sp_42⟩ := op_0 hI m_5 s_5
              obtain ⟨w1_42, w2_42, w3_42, w4_42, w5_42⟩ := lenw hj v1_42 v2_42 v3_42
              obtain ⟨c_43, fg_43, iv0_43⟩ := op_1 hI mp_6 sp_6
              obtain ⟨hl_44, hc_44⟩ := RWf_at hRo s_5 fg_42 fg_43
              obtain ⟨fa_45, pl_45, fg_45⟩ := op_13 hI (gm_13 hG) (gs_13 hG)
              refine call_p (va_runV (As := [.ref r_5, .int len_36]) (rest := []) ⟨hx, hb, hml, hown, hts⟩ (t_X4_readTimesm l D cI cR cM _ (ks := ks) (vs := vs) (i := i3_) (w := (fun j => w3_ (2 * st x.toInt + j)))  hj hG hI m_5 s_5 fg_42 fg_43 (by first | assumption | omega | (subst hj1; omega)) (j4_) (by first | assumption | omega | (subst hj1; omega)) (by subst hj1; omega) (by rw [hl_44]; exact hc_44)) (cwV 2 hts gX4_readSequence_X4_readTimes rfl rfl rfl (by decide +kernel) ⟨Nat.le_of_ble_eq_true rfl, Nat.le_of_ble_eq_true rfl⟩) (pre_T hK hP hD (gm_13 hG) fg_45 rfl) rfl rfl hl.1 rfl (lv_room (Nat.le_of_ble_eq_true rfl)) dX4_readSequence_65 ⟨Nat.le_of_ble_eq_true rfl, Nat.le_of_ble_eq_true rfl⟩) hD hS hA (fun u_46 H locs hw hP hD hS => ?_)
              obtain ⟨r_46, f_46⟩ := u_46
              obtain ⟨hI, hF_46, hp_46, hfx_46, h01_46⟩ : IN jn cI cR cM g L S f_46 ∧ FR S [0, 1, 13, 14] f_39 f_46 ∧ ((r_46.toInt = 1 ∧ ((ks i3_ ≠ 42 ∧ TKm cI g ks vs f_46 i3_ ∧ RWf cI jn S f_46 r_5 len_42.toInt (fun j => w3_ (2 * st x.toInt + j))) ∨ (ks i3_ = 42 ∧ ks (i3_ + 1) = 1 ∧ vs (i3_ + 1) ≠ 0 ∧ TKm cI g ks vs f_46 (i3_ + 1 + 1) ∧ 2 * (len_42.toInt + (vs (i3_ + 1) - 1) * (len_42.toInt - len_36.toInt)) ≤ (n_5 : Int) ∧ RWf cI jn S f_46 r_5 (len_42.toInt + (vs (i3_ + 1) - 1) * (len_42.toInt - len_36.toInt)) (tmW (fun j => w3_ (2 * st x.toInt + j)) len_42.toInt len_36.toInt)))) ∨ (r_46.toInt = 0 ∧ ks i3_ = 42 ∧ ¬ (ks (i3_ + 1) = 1 ∧ vs (i3_ + 1) ≠ 0 ∧ 2 * (len_42.toInt + (vs (i3_ + 1) - 1) * (len_42.toInt - len_36.toInt)) ≤ (n_5 : Int)))) ∧ (FX S (fun a9 => a9 = r_5) [13, 14] f_39 f_46) ∧ (r_46.toInt = 0 ∨ r_46.toInt = 1) := hw
              have hP : va_P D vwCl (va_pl L f_46) H := hP
              have hD : va_D A (va_pl L f_46) := hD
              have hF := FR_tr hF hF_46 (by decide)
              have hFX := FX_tr hFX hfx_46 (fun a9 h9 => Or.inl ⟨x.toInt.toNat, Nat.le_refl _, by omega, h9.trans hh_5⟩) (by decide)
              refine a_if_ne (u := r_46.toInt) (tgt := 73) hx hb dX4_readSequence_68 (by decide) (rfl) (fun c_47 => ?_) (fun c_47 => ?_)
              · obtain ⟨z_48, q_48, e_48⟩ := i_inc (a := ii.toInt) (1) (rfl) (by decide) (by subst hj1; omega) (by subst hj1; omega)
                refine lv_iinc (v := z_48) (lv' := [(3, .int z_48), (4, .int len_36), (0, .ref (g 13)), (1, .int x), (2, .ref r_5)]) hx hb dX4_readSequence_73 hl (k := 4) rfl q_48 (by decide) rfl (fun ls hl => ?_)
                refine lv_goto (tgt := 29) hx hb dX4_readSequence_76 (by decide) ?_
                exact ih29 z_48 f_46 _ _ _ (by subst hj1; omega) hI hF (by first | assumption | omega | (subst hj1; omega)) (by
                  rw [hl_44] at hp_46
                  rw [hlf] at hp_46
                  obtain ⟨-, h9⟩ := hp_46.resolve_right (fun q9 => by have := q9.1; omega)
                  rcases h9 with ⟨h1, h2, h3⟩ | ⟨h1, h2, h3, h4, h5, h6⟩
                  · exact ⟨i3_, top3_, top2, 1, 1, w3_, st3_, op3_, dg3_, Go_tr j1 j1_, h2, ⟨MSb_rf j5_.1 hfx_46 (by decide) (fun k9 h8 h7 q9 => (hRD.2.2.2.2.1 k9.toNat x.toInt.toNat (by subst hj1; omega) (by subst hj1; omega) (by subst hj1; omega)) (q9.trans hh_5)) (fun k9 v9 _ _ h9 => TN_fr hG hF_46 (by decide) k9 v9 h9), j5_.2.1, RWf_e h3 hh_5.symm⟩, j6_, j7_, fun j9 h8 h9 => by rw [j8_ j9 h8 h9]; exact j6 j9 h8 h9, fun q9 => h1 q9.2, Or.inr ⟨by omega, rfl, by omega, by omega⟩, by omega⟩
                  · rw [show top3_ - st x.toInt - (top2 - st x.toInt) = top3_ - top2 by omega] at h5 h6
                    have h6 := RWf_e h6 hh_5.symm
                    obtain ⟨q1, q2, q3⟩ := L_times (E := E) (i := i3_) (one := top2) (isO := 1) (op1 := op3_) (dg1 := dg3_) (may := 1) j5_ (fun top9 w9 q1 q2 q3 => MSb_fx j5_.1 hfx_46 (by decide) (fun k9 h8 h7 q9 => (hRD.2.2.2.2.1 k9.toNat x.toInt.toNat (by subst hj1; omega) (by subst hj1; omega) (by subst hj1; omega)) (q9.trans hh_5)) (fun k9 v9 _ _ h9 => TN_fr hG hF_46 (by decide) k9 v9 h9) q1 q2 q3) rfl (j6_ _ (by subst hj1; omega) (Int.le_refl _)) h1 h2 h3 (by have := (hKO (i3_ + 1)).2.1 h2; omega) (by subst hj1; omega) (by subst hj1; omega) h6
                    have hm0 : 0 ≤ (vs (i3_ + 1) - 1) * (top3_ - top2) := Int.mul_nonneg (by have := (hKO (i3_ + 1)).2.1 h2; omega) (by subst hj1; omega)
                    exact ⟨i3_ + 2, _, top2, 0, 1, _, st3_, op3_, dg3_, Go_tr j1 (Go_tr j1_ (Go_1 q1)), h4, q2, j6_, j7_, fun j9 h8 h9 => (q3 j9 h8 h9).trans ((j8_ j9 h8 h9).trans (j6 j9 h8 h9)), fun q9 => absurd q9.1 (by decide), Or.inr ⟨by omega, rfl, by omega, by omega⟩, by omega⟩) (LvC_fr hLv2 hG hF_46 (by decide)) (EnvC_fx hEC2 hG hF_46 hfx_46 (by decide) (by decide) (fun k9 h9 q9 => hRD.2.2.2.1 x.toInt.toNat k9 (by subst hj1; omega) h9 (hh_5.symm.trans q9.symm)) (fun r9 h9 q9 => h9 (Or.inl ⟨x.toInt.toNat, by omega, q9.trans hh_5⟩))) (fun k9 v9 h7 h8 h9 => TN_fr hG hF_46 (by decide) k9 v9 (htn_39 k9 v9 h7 h8 (htl k9 v9 h7 h8 h9))) (by first | assumption | omega | (subst hj1; omega)) hP hD hS (lv_sub hl [2, 3, 4, 0] rfl)
              · refine lv_iconst (v := 0) hx hb dX4_readSequence_71 (by decide) ?_
                have hz_49 : (0 : Int32).toInt = 0 := by decide
                exact g_zret ((0 : Int32), f_46) hx hb hr hlocks hS (by first | exact Or.inl rfl | exact Or.inr rfl) rfl (⟨hI, hF, show Hd (((0 : Int32).toInt = 1 ∧ SeqR cI jn g lv S f_46 ks vs E i x.toInt top one w st op dg st1 op1 dg1) ∨ ((0 : Int32).toInt = 0 ∧ Fls ks vs E (i, x.toInt, top, one, 0, 0, w, st1, op1, dg1))) from (by
                  rw [hl_44] at hp_46
                  rw [hlf] at hp_46
                  obtain ⟨-, h1, h2⟩ := hp_46.resolve_left (fun q9 => by have := q9.1; omega)
                  refine Or.inr ⟨rfl, Fls_tr (Go_tr j1 j1_) (Fls_0 (F_times rfl h1 ?_))⟩
                  rw [j6_ _ (by subst hj1; omega) (Int.le_refl _)]
                  rw [show top3_ - st x.toInt - (top2 - st x.toInt) = top3_ - top2 by omega] at h2
                  exact fun q9 => h2 ⟨q9.1, q9.2.1, by have := q9.2.2; omega⟩), show ∀ k9 v9 : Int, 0 ≤ k9 → k9 < x.toInt → TNf cI g f k9 v9 → TNf cI g f_46 k9 v9 from (fun k9 v9 h7 h8 h9 => TN_fr hG hF_46 (by decide) k9 v9 (htn_39 k9 v9 h7 h8 (htl k9 v9 h7 h8 h9))), show FX S (BXp g lv x.toInt) [13, 14, 34] f f_46 from (by first | assumption | omega | (subst hj1; omega)), show (0 : Int32).toInt = 0 ∨ (0 : Int32).toInt = 1 from (by first | assumption | omega | (subst hj1; omega))⟩) hP hD hQ (Nat.le_of_ble_eq_true rfl) (Nat.le_of_ble_eq_true rfl) dX4_readSequence_72
  have hz_50 : (0 : Int32).toInt = 0 := by decide
  exact loop29 ((400 - (0 : Int32).toInt).toNat + 1) (0 : Int32) f_8 _ _ _ (by subst hj1; omega) hI hF (by first | assumption | omega | (subst hj1; omega)) (⟨i, top, one, 0, 0, w, st1, op1, dg1, Go_rf, hC1, hM1, hst, hop, fun _ _ _ => rfl, fun q9 => absurd q9.1 (by decide), Or.inl ⟨by omega, rfl, rfl, rfl, rfl⟩, by omega⟩) (hLv1) (hEC1) (htl1) (by first | assumption | omega | (subst hj1; omega)) hP hD hS (lv_sub hl [2, 3, 1, 0] rfl)
set_option maxRecDepth 100000 in
set_option maxHeartbeats 4000000 in
theorem t_X4_readOnem_2 (l : Launch) (D : va_G) (cI cR cM : ClassId) (sz : Nat) {jn : Nat} {g : Nat → Nat} {L : List Nat} {S : Sg} {f : Nat → va_E} {x : Int32} {ks vs : Nat → Int} {i : Nat} {lv gr : Nat → Nat} {E : Env1} {F : Int → Int} {top one may isO : Int} {w st op dg st1 op1 dg1 : Int → Int} (hj : 1 ≤ jn ∧ jn ≤ 3) (hG : SG g L S) (hI : IN jn cI cR cM g L S f) (hj1 : jn = 1) (hC : TKm cI g ks vs f i) (hKO : KO ks vs) (hRD : RDC g lv gr S) (hLv : LvC cR g lv f) (hEC : EnvC cI cR jn g lv gr S f E F) (hEO : EOk E) (hx0 : 0 ≤ x.toInt ∧ x.toInt ≤ 5) (hd : 4 ≤ x.toInt) (hMS : MSt cI jn g lv S f x.toInt top w st op dg) (hst : ∀ k9 : Int, 0 ≤ k9 → k9 ≤ x.toInt → st1 k9 = st k9) (hop : ∀ k9 : Int, 0 ≤ k9 → k9 < x.toInt → op1 k9 = op k9 ∧ dg1 k9 = dg k9) (hm9 : ¬ (may = 1 ∧ ks i = 42)) (hbg : (isO = 0 ∧ may = 0) ∨ (ks i = 1 ∨ ks i = 2 ∨ ks i = 91 ∨ ks i = 40 ∨ (7 ≤ ks i ∧ ks i ≤ 10))) : Met l yX4_readOne wsX4_readOne ({ frames := 5, cells := 0, slots := 0, locals := 157 }) (P0 D cI cR cM [.ref (g 13), .int x] sz (va_pl L f)) (QG (S := Int32 × (Nat → va_E)) (fun u => some (.int u.1)) (fun u => va_pl L u.2) (fun u => IN jn cI cR cM g L S u.2 ∧ FR S [0, 1, 13, 14, 34] f u.2 ∧ (Hd ((u.1.toInt = 1 ∧ OneR cI jn g lv S u.2 ks vs E i x.toInt top one may isO w st op dg st1 op1 dg1) ∨ (u.1.toInt = 0 ∧ Fls ks vs E (i, x.toInt, top, one, may, isO, w, st1, op1, dg1)))) ∧ (∀ k9 v9 : Int, 0 ≤ k9 → k9 < x.toInt → TNf cI g f k9 v9 → TNf cI g u.2 k9 v9) ∧ (FX S (BXp g lv x.toInt) [13, 14, 34] f u.2) ∧ (u.1.toInt = 0 ∨ u.1.toInt = 1)) D (va_A (va_pl L f) sz)) 0 0 (va_A (va_pl L f) sz) := by
  refine go (cc := cX4_readOne) (maxL := 3) (ret := (some .boolean)) (by decide +kernel) rfl (Nat.le_of_ble_eq_true rfl) ?_
  intro p e s m below meth c ls args Q hQ hsz hx hb hr hml hts hown hlocks hnm hP hK hD hl
  subst hsz
  have hD := hD.self (sz := s.heap.size)
  generalize hAe : va_A (va_pl L f) s.heap.size = A at hD hQ
  have hA : ∀ q, s.heap.size ≤ q → A q := fun q h => by rw [← hAe]; exact Or.inr h
  have hS : va_S A s.heap s.heap [] := va_S.rf
  have hFX : FX S (BXp g lv x.toInt) [13, 14, 34] f f := FX_rf
  have hF : FR S [0, 1, 13, 14, 34] f f := FR_rf
  have hl : lv_has ls 3 [(0, .ref (g 13)), (1, .int x)] := hl
  refine lv_aload_n hx hb dX4_readOne_0 rfl (lv_at hl 0 rfl) ?_
  obtain ⟨fa_1, pl_1, fg_1⟩ := op_13 hI (gm_13 hG) (gs_13 hG)
  refine roP (va_runV (As := []) (rest := []) ⟨hx, hb, hml, hown, hts⟩ (t_X4_beginsOnem l D cI cR cM _ (ks := ks) (vs := vs) (i := i)  hj hG hI  (by first | assumption | omega | (subst hj1; omega)) (hC) (by first | assumption | omega | (subst hj1; omega))) (cwV 0 hts gX4_readOne_X4_beginsOne rfl rfl rfl (by decide +kernel) ⟨Nat.le_of_ble_eq_true rfl, Nat.le_of_ble_eq_true rfl⟩) (pre_T hK hP hD (gm_13 hG) fg_1 rfl) rfl rfl hl.1 rfl (lv_room (Nat.le_of_ble_eq_true rfl)) dX4_readOne_1 ⟨Nat.le_of_ble_eq_true rfl, Nat.le_of_ble_eq_true rfl⟩) hS hA hP (fun r_2 H locs hw hP hS => ?_)
  obtain ⟨hp_2, h01_2⟩ : ((r_2.toInt = 1 ∧ (ks i = 1 ∨ ks i = 2 ∨ ks i = 91 ∨ ks i = 40 ∨ (7 ≤ ks i ∧ ks i ≤ 10))) ∨ (r_2.toInt = 0 ∧ ¬ (ks i = 1 ∨ ks i = 2 ∨ ks i = 91 ∨ ks i = 40 ∨ (7 ≤ ks i ∧ ks i ≤ 10)))) ∧ (r_2.toInt = 0 ∨ r_2.toInt = 1) := hw
  refine a_if_ne (u := r_2.toInt) (tgt := 13) hx hb dX4_readOne_4 (by decide) (rfl) (fun c_3 => ?_) (fun c_3 => ?_)
  · refine lv_aload_n hx hb dX4_readOne_13 rfl (lv_at hl 0 rfl) ?_
    obtain ⟨cnt_4, nx_4, kd_4, vl_4, st_4, ls_4, fg_4, iv0_4, iv1_4, iv2_4⟩ := op_14 hI (gm_14 hG) (gs_14 hG)
    obtain ⟨kk_5, kv_5⟩ := TKm_k hC fg_4
    refine t_get (D := D) (L := L) (f := f) (ci := 4) (v := .ref (g 14)) (C := RX4) (T := TX4) (N := 11) hx hb hts (by decide +kernel) hown hK.1 hP (gm_13 hG) fg_1 rfl 1 (by decide) (hts (.fieldLink RX4 41 "JugglingHall$Reader" "tokens" "LJugglingHall$Tokens;") (by decide +kernel)) (fun _ h9 => h9) rfl dX4_readOne_14 ?_
    refine t_getN (D := D) (L := L) (f := f) (ci := 8) (v := .int kd_4) (C := RX8) (T := TX8) (N := 10) (host := "JugglingHall") hx hb hts (by decide +kernel) hown hK.1 hP (gm_14 hG) fg_4 rfl 6 (by decide) (hK.nw (.fieldLinkNest RX4 70 "JugglingHall$Tokens" "kind" "I" "JugglingHall") (by decide +kernel) rfl) (fun _ h9 => h9) rfl dX4_readOne_17 ?_
    refine lv_istore_n (lv' := [(2, .int kd_4), (0, .ref (g 13)), (1, .int x)]) hx hb dX4_readOne_20 rfl hl (by decide) rfl (fun ls hl => ?_)
    refine lv_iload_n hx hb dX4_readOne_21 rfl (lv_at hl 0 rfl) ?_
    have hu_6 : kd_4.toInt = kd_4.toInt := rfl
    rcases (show (kd_4.toInt = 2) ∨ (kd_4.toInt = 3) ∨ (kd_4.toInt = 60) ∨ (kd_4.toInt = 91) ∨ (kd_4.toInt ≠ 2 ∧ kd_4.toInt ≠ 3 ∧ kd_4.toInt ≠ 60 ∧ kd_4.toInt ≠ 91) by omega) with c_6 | c_6 | c_6 | c_6 | c_6
    · refine lv_lookup (off := 53) (tgt := 75) hx hb dX4_readOne_22 (by decide) (by rw [hu_6, c_6]; decide) (by decide) ?_
      have kb9 : ks i = 1 := cK_p (hKO i).1 (Or.inl ⟨by decide, by decide⟩) kk_5 (c := 2) (by subst hj1; omega) (by decide)
      refine lv_aload_n hx hb dX4_readOne_75 rfl (lv_at hl 1 rfl) ?_
      refine lv_aload_n hx hb dX4_readOne_76 rfl (lv_at hl 1 rfl) ?_
      refine t_get (D := D) (L := L) (f := f) (ci := 4) (v := .ref (g 22)) (C := RX4) (T := TX4) (N := 11) hx hb hts (by decide +kernel) hown hK.1 hP (gm_13 hG) fg_1 rfl 3 (by decide) (hts (.fieldLink RX4 13 "JugglingHall$Reader" "levels" "[LJugglingHall$Row;") (by decide +kernel)) (fun _ h9 => h9) rfl dX4_readOne_77 ?_
      refine lv_iload_n hx hb dX4_readOne_80 rfl (lv_at hl 2 rfl) ?_
      obtain ⟨c_7, fg_7, iv0_7⟩ := op_22 hI (gm_22 hG) (gs_22 hG)
      refine t_aald (L := L) (f := f) (y := c_7) (u := x.toInt) hx hb hK.1 hP (gm_22 hG) 1 fg_7 rfl dX4_readOne_81 (rfl) (by subst hj1; omega) (fun w_8 q_8 => ?_)
      obtain ⟨r_8, p_8, n_8, er_8, m_8, s_8⟩ := iv0_7 x.toInt (by subst hj1; omega) (by subst hj1; omega)
      have q_8 := q_8.trans er_8
      subst q_8
      refine W.eq (g2 := F0 m 82 ls [.ref r_8, .ref (g 13)]) rfl ?_
      have hh_8 : r_8 = lv x.toInt.toNat := LvC_at (l := x.toInt) hLv fg_7 (by subst hj1; omega) (by subst hj1; omega) (by rw [show x.toInt = x.toInt by omega]; exact er_8)
      have hR_8 := RWf_e hMS.2.2 hh_8
      obtain ⟨len_9, fg_9, v1_9, v2_9, v3_9, mp_9, sp_9⟩ := op_0 hI m_8 s_8
      obtain ⟨w1_9, w2_9, w3_9, w4_9, w5_9⟩ := lenw hj v1_9 v2_9 v3_9
      obtain ⟨c_10, fg_10, iv0_10⟩ := op_1 hI mp_9 sp_9
      obtain ⟨hl_11, hc_11⟩ := RWf_at hR_8 s_8 fg_9 fg_10
      have hN_8 := cap_of (S := S) (a := r_8) (k := 48) (by rw [hh_8]; exact (hRD.2.1 _ (by subst hj1; omega)).1) s_8
      refine call_p (va_runV (As := [.ref r_8]) (rest := []) ⟨hx, hb, hml, hown, hts⟩ (t_X4_readBeatm l D cI cR cM _ (ks := ks) (vs := vs) (i := i) (w := (fun j => w (2 * st x.toInt + j)))  hj hG hI m_8 s_8 fg_9 fg_10 (by first | assumption | omega | (subst hj1; omega)) (hC) (by first | assumption | omega | (subst hj1; omega)) (by rw [hh_8]; exact (hRD.2.1 _ (by subst hj1; omega)).2.1) (hRD.1.1) (by rw [hl_11]; exact hc_11)) (cwV 1 hts gX4_readOne_X4_readBeat rfl rfl rfl (by decide +kernel) ⟨Nat.le_of_ble_eq_true rfl, Nat.le_of_ble_eq_true rfl⟩) (pre_T hK hP hD (gm_13 hG) fg_1 rfl) rfl rfl hl.1 rfl (lv_room (Nat.le_of_ble_eq_true rfl)) dX4_readOne_82 ⟨Nat.le_of_ble_eq_true rfl, Nat.le_of_ble_eq_true rfl⟩) hD hS hA (fun u_12 H locs hw hP hD hS => ?_)
      obtain ⟨r_12, f_12⟩ := u_12
      obtain ⟨hI, hF_12, hp_12, hfx_12, h01_12⟩ : IN jn cI cR cM g L S f_12 ∧ FR S [0, 1, 13, 14] f f_12 ∧ ((r_12.toInt = 1 ∧ ∃ (a9 b9 : Int) (j9 : Nat), BtR ks vs i a9 b9 j9 ∧ TKm cI g ks vs f_12 j9 ∧ 2 * (len_9.toInt + 1) ≤ (n_8 : Int) ∧ RWf cI jn S f_12 r_8 (len_9.toInt + 1) (fupd (fupd (fun j => w (2 * st x.toInt + j)) (2 * len_9.toInt) a9) (2 * len_9.toInt + 1) b9)) ∨ (r_12.toInt = 0 ∧ (BtF ks vs i ∨ (n_8 : Int) < 2 * (len_9.toInt + 1)))) ∧ (FX S (fun a9 => a9 = r_8 ∨ a9 = g 24) [13, 14] f f_12) ∧ (r_12.toInt = 0 ∨ r_12.toInt = 1) := hw
      have hP : va_P D vwCl (va_pl L f_12) H := hP
      have hD : va_D A (va_pl L f_12) := hD
      have hF := FR_tr hF hF_12 (by decide)
      have hFX := FX_tr hFX hfx_12 (fun a9 h9 => h9.elim (fun h9 => Or.inl ⟨x.toInt.toNat, Nat.le_refl _, by omega, h9.trans hh_8⟩) (fun h9 => Or.inr (Or.inl h9))) (by decide)
      have fb_13 : f_12 (g 22) = .inl (cR, 6, .inr (.inr (.inr (.inr c_7)))) := FR_at hF_12 (gs_22 hG) (show (22 : Nat) ∉ ([0, 1, 13, 14] : List Nat) by decide) fg_7
      exact g_zret (r_12, f_12) hx hb hr hlocks hS (b01 (by subst hj1; omega)) rfl (⟨hI, hF, show Hd ((r_12.toInt = 1 ∧ OneR cI jn g lv S f_12 ks vs E i x.toInt top one may isO w st op dg st1 op1 dg1) ∨ (r_12.toInt = 0 ∧ Fls ks vs E (i, x.toInt, top, one, may, isO, w, st1, op1, dg1))) from (by
        rw [hl_11] at hp_12
        rcases hp_12 with ⟨h5, a9, b9, j9, h6, h7, h8, h9⟩ | ⟨h5, h6⟩
        · have h9 := RWf_e h9 hh_8.symm
          obtain ⟨q1, q2, q3⟩ := L_beat (E := E) (one := one) (isO := isO) (op1 := op1) (dg1 := dg1) hMS (fun top9 w9 q1 q2 q3 => MSb_fx hMS.1 hfx_12 (by decide) (fun k9 h8 h7 => (fun q9 => q9.elim (fun q9 => (hRD.2.2.2.2.1 k9.toNat x.toInt.toNat (by subst hj1; omega) (by subst hj1; omega) (by subst hj1; omega)) (q9.trans hh_8)) (fun q8 => (hRD.2.1 k9.toNat (by subst hj1; omega)).2.1 q8))) (fun k9 v9 _ _ h9 => TN_fr hG hF_12 (by decide) k9 v9 h9) q1 q2 q3) hm9 (hst _ (by subst hj1; omega) (Int.le_refl _)) h6 (Bt_vK hKO h6) (by subst hj1; omega) h9
          exact Or.inl ⟨h5, j9, _, _, st1, op1, dg1, Go_1 q1, Bt_lt h6, by omega, h7, q2, hst, hop, q3⟩
        · refine Or.inr ⟨h5, Fls_0 (F_beat hm9 (fun q9 => by omega) (by subst hj1; omega) (by subst hj1; omega) (fun _ => by unfold Bgn; omega) ?_)⟩
          rw [hst _ (by subst hj1; omega) (Int.le_refl _)]
          exact h6.imp id (fun q9 => by omega)), show ∀ k9 v9 : Int, 0 ≤ k9 → k9 < x.toInt → TNf cI g f k9 v9 → TNf cI g f_12 k9 v9 from (fun k9 v9 _ _ h9 => TN_fr hG hF_12 (by decide) k9 v9 h9), show FX S (BXp g lv x.toInt) [13, 14, 34] f f_12 from (by first | assumption | omega | (subst hj1; omega)), show r_12.toInt = 0 ∨ r_12.toInt = 1 from (by first | assumption | omega | (subst hj1; omega))⟩) hP hD hQ (Nat.le_of_ble_eq_true rfl) (Nat.le_of_ble_eq_true rfl) dX4_readOne_85
    · refine lv_lookup (off := 42) (tgt := 64) hx hb dX4_readOne_22 (by decide) (by rw [hu_6, c_6]; decide) (by decide) ?_
      have kb9 : ks i = 2 := cK_p (hKO i).1 (Or.inl ⟨by decide, by decide⟩) kk_5 (c := 3) (by subst hj1; omega) (by decide)
      refine lv_aload_n hx hb dX4_readOne_64 rfl (lv_at hl 1 rfl) ?_
      refine lv_aload_n hx hb dX4_readOne_65 rfl (lv_at hl 1 rfl) ?_
      refine t_get (D := D) (L := L) (f := f) (ci := 4) (v := .ref (g 22)) (C := RX4) (T := TX4) (N := 11) hx hb hts (by decide +kernel) hown hK.1 hP (gm_13 hG) fg_1 rfl 3 (by decide) (hts (.fieldLink RX4 13 "JugglingHall$Reader" "levels" "[LJugglingHall$Row;") (by decide +kernel)) (fun _ h9 => h9) rfl dX4_readOne_66 ?_
      refine lv_iload_n hx hb dX4_readOne_69 rfl (lv_at hl 2 rfl) ?_
      obtain ⟨c_14, fg_14, iv0_14⟩ := op_22 hI (gm_22 hG) (gs_22 hG)
      refine t_aald (L := L) (f := f) (y := c_14) (u := x.toInt) hx hb hK.1 hP (gm_22 hG) 1 fg_14 rfl dX4_readOne_70 (rfl) (by subst hj1; omega) (fun w_15 q_15 => ?_)
      obtain ⟨r_15, p_15, n_15, er_15, m_15, s_15⟩ := iv0_14 x.toInt (by subst hj1; omega) (by subst hj1; omega)
      have q_15 := q_15.trans er_15
      subst q_15
      refine W.eq (g2 := F0 m 71 ls [.ref r_15, .ref (g 13)]) rfl ?_
      have hh_15 : r_15 = lv x.toInt.toNat := LvC_at (l := x.toInt) hLv fg_14 (by subst hj1; omega) (by subst hj1; omega) (by rw [show x.toInt = x.toInt by omega]; exact er_15)
      have hR_15 := RWf_e hMS.2.2 hh_15
      obtain ⟨len_16, fg_16, v1_16, v2_16, v3_16, mp_16, sp_16⟩ := op_0 hI m_15 s_15
      obtain ⟨w1_16, w2_16, w3_16, w4_16, w5_16⟩ := lenw hj v1_16 v2_16 v3_16
      obtain ⟨c_17, fg_17, iv0_17⟩ := op_1 hI mp_16 sp_16
      obtain ⟨hl_18, hc_18⟩ := RWf_at hR_15 s_15 fg_16 fg_17
      have hN_15 := cap_of (S := S) (a := r_15) (k := 48) (by rw [hh_15]; exact (hRD.2.1 _ (by subst hj1; omega)).1) s_15
      refine call_p (va_runV (As := [.ref r_15]) (rest := []) ⟨hx, hb, hml, hown, hts⟩ (t_X4_readLetterm l D cI cR cM _ (ks := ks) (vs := vs) (i := i) (lv := lv) (gr := gr) (E := E) (F := F) (w := (fun j => w (2 * st x.toInt + j)))  hj hG hI m_15 s_15 fg_16 fg_17 (by first | assumption | omega | (subst hj1; omega)) (hC) (by first | assumption | omega | (subst hj1; omega)) (kb9) (hEC) (by rw [hl_18]; exact hc_18)) (cwV 1 hts gX4_readOne_X4_readLetter rfl rfl rfl (by decide +kernel) ⟨Nat.le_of_ble_eq_true rfl, Nat.le_of_ble_eq_true rfl⟩) (pre_T hK hP hD (gm_13 hG) fg_1 rfl) rfl rfl hl.1 rfl (lv_room (Nat.le_of_ble_eq_true rfl)) dX4_readOne_71 ⟨Nat.le_of_ble_eq_true rfl, Nat.le_of_ble_eq_true rfl⟩) hD hS hA (fun u_19 H locs hw hP hD hS => ?_)
      obtain ⟨r_19, f_19⟩ := u_19
      obtain ⟨hI, hF_19, hp_19, hfx_19, h01_19⟩ : IN jn cI cR cM g L S f_19 ∧ FR S [0, 1, 13, 14] f f_19 ∧ ((r_19.toInt = 1 ∧ 0 < (E (vs i)).1 ∧ TKm cI g ks vs f_19 (i + 1) ∧ 2 * (len_16.toInt + (E (vs i)).1) ≤ (n_15 : Int) ∧ RWf cI jn S f_19 r_15 (len_16.toInt + (E (vs i)).1) (fun j => if j < 2 * len_16.toInt then (fun j => w (2 * st x.toInt + j)) j else (E (vs i)).2 (j - 2 * len_16.toInt))) ∨ (r_19.toInt = 0 ∧ ((E (vs i)).1 ≤ 0 ∨ (n_15 : Int) < 2 * (len_16.toInt + (E (vs i)).1)))) ∧ (FX S (fun a9 => a9 = r_15) [13, 14] f f_19) ∧ (r_19.toInt = 0 ∨ r_19.toInt = 1) := hw
      have hP : va_P D vwCl (va_pl L f_19) H := hP
      have hD : va_D A (va_pl L f_19) := hD
      have hF := FR_tr hF hF_19 (by decide)
      have hFX := FX_tr hFX hfx_19 (fun a9 h9 => Or.inl ⟨x.toInt.toNat, Nat.le_refl _, by omega, h9.trans hh_15⟩) (by decide)
      have fb_20 : f_19 (g 22) = .inl (cR, 6, .inr (.inr (.inr (.inr c_14)))) := FR_at hF_19 (gs_22 hG) (show (22 : Nat) ∉ ([0, 1, 13, 14] : List Nat) by decide) fg_14
      exact g_zret (r_19, f_19) hx hb hr hlocks hS (b01 (by subst hj1; omega)) rfl (⟨hI, hF, show Hd ((r_19.toInt = 1 ∧ OneR cI jn g lv S f_19 ks vs E i x.toInt top one may isO w st op dg st1 op1 dg1) ∨ (r_19.toInt = 0 ∧ Fls ks vs E (i, x.toInt, top, one, may, isO, w, st1, op1, dg1))) from (by
        rw [hl_18] at hp_19
        rcases hp_19 with ⟨h5, h6, h7, h8, h9⟩ | ⟨h5, h6⟩
        · have h9 := RWf_e h9 hh_15.symm
          obtain ⟨q1, q2, q3⟩ := L_letter (E := E) (one := one) (isO := isO) (op1 := op1) (dg1 := dg1) hMS (fun top9 w9 q1 q2 q3 => MSb_fx hMS.1 hfx_19 (by decide) (fun k9 h8 h7 => (fun q9 => (hRD.2.2.2.2.1 k9.toNat x.toInt.toNat (by subst hj1; omega) (by subst hj1; omega) (by subst hj1; omega)) (q9.trans hh_15))) (fun k9 v9 _ _ h9 => TN_fr hG hF_19 (by decide) k9 v9 h9) q1 q2 q3) hm9 (hst _ (by subst hj1; omega) (Int.le_refl _)) kb9 h6 (hEO _ (by have := (hKO i).2.2 kb9; omega) (by have := (hKO i).2.2 kb9; omega)).2.2 (by subst hj1; omega) h9
          exact Or.inl ⟨h5, i + 1, _, _, st1, op1, dg1, Go_1 q1, by omega, by omega, h7, q2, hst, hop, q3⟩
        · exact Or.inr ⟨h5, Fls_0 (F_letter kb9 (by rw [hst _ (by subst hj1; omega) (Int.le_refl _)]; omega))⟩), show ∀ k9 v9 : Int, 0 ≤ k9 → k9 < x.toInt → TNf cI g f k9 v9 → TNf cI g f_19 k9 v9 from (fun k9 v9 _ _ h9 => TN_fr hG hF_19 (by decide) k9 v9 h9), show FX S (BXp g lv x.toInt) [13, 14, 34] f f_19 from (by first | assumption | omega | (subst hj1; omega)), show r_19.toInt = 0 ∨ r_19.toInt = 1 from (by first | assumption | omega | (subst hj1; omega))⟩) hP hD hQ (Nat.le_of_ble_eq_true rfl) (Nat.le_of_ble_eq_true rfl) dX4_readOne_74
    · refine lv_lookup (off := 53) (tgt := 75) hx hb dX4_readOne_22 (by decide) (by rw [hu_6, c_6]; decide) (by decide) ?_
      have kb9 : ks i = 60 := cK_p (hKO i).1 (Or.inr ⟨by decide, by decide⟩) kk_5 (c := 60) (by subst hj1; omega) (by decide)
      refine lv_aload_n hx hb dX4_readOne_75 rfl (lv_at hl 1 rfl) ?_
      refine lv_aload_n hx hb dX4_readOne_76 rfl (lv_at hl 1 rfl) ?_
      refine t_get (D := D) (L := L) (f := f) (ci := 4) (v := .ref (g 22)) (C := RX4) (T := TX4) (N := 11) hx hb hts (by decide +kernel) hown hK.1 hP (gm_13 hG) fg_1 rfl 3 (by decide) (hts (.fieldLink RX4 13 "JugglingHall$Reader" "levels" "[LJugglingHall$Row;") (by decide +kernel)) (fun _ h9 => h9) rfl dX4_readOne_77 ?_
      refine lv_iload_n hx hb dX4_readOne_80 rfl (lv_at hl 2 rfl) ?_
      obtain ⟨c_21, fg_21, iv0_21⟩ := op_22 hI (gm_22 hG) (gs_22 hG)
      refine t_aald (L := L) (f := f) (y := c_21) (u := x.toInt) hx hb hK.1 hP (gm_22 hG) 1 fg_21 rfl dX4_readOne_81 (rfl) (by subst hj1; omega) (fun w_22 q_22 => ?_)
      obtain ⟨r_22, p_22, n_22, er_22, m_22, s_22⟩ := iv0_21 x.toInt (by subst hj1; omega) (by subst hj1; omega)
      have q_22 := q_22.trans er_22
      subst q_22
      refine W.eq (g2 := F0 m 82 ls [.ref r_22, .ref (g 13)]) rfl ?_
      have hh_22 : r_22 = lv x.toInt.toNat := LvC_at (l := x.toInt) hLv fg_21 (by subst hj1; omega) (by subst hj1; omega) (by rw [show x.toInt = x.toInt by omega]; exact er_22)
      have hR_22 := RWf_e hMS.2.2 hh_22
      obtain ⟨len_23, fg_23, v1_23, v2_23, v3_23, mp_23, sp_23⟩ := op_0 hI m_22 s_22
      obtain ⟨w1_23, w2_23, w3_23, w4_23, w5_23⟩ := lenw hj v1_23 v2_23 v3_23
      obtain ⟨c_24, fg_24, iv0_24⟩ := op_1 hI mp_23 sp_23
      obtain ⟨hl_25, hc_25⟩ := RWf_at hR_22 s_22 fg_23 fg_24
      have hN_22 := cap_of (S := S) (a := r_22) (k := 48) (by rw [hh_22]; exact (hRD.2.1 _ (by subst hj1; omega)).1) s_22
      refine call_p (va_runV (As := [.ref r_22]) (rest := []) ⟨hx, hb, hml, hown, hts⟩ (t_X4_readBeatm l D cI cR cM _ (ks := ks) (vs := vs) (i := i) (w := (fun j => w (2 * st x.toInt + j)))  hj hG hI m_22 s_22 fg_23 fg_24 (by first | assumption | omega | (subst hj1; omega)) (hC) (by first | assumption | omega | (subst hj1; omega)) (by rw [hh_22]; exact (hRD.2.1 _ (by subst hj1; omega)).2.1) (hRD.1.1) (by rw [hl_25]; exact hc_25)) (cwV 1 hts gX4_readOne_X4_readBeat rfl rfl rfl (by decide +kernel) ⟨Nat.le_of_ble_eq_true rfl, Nat.le_of_ble_eq_true rfl⟩) (pre_T hK hP hD (gm_13 hG) fg_1 rfl) rfl rfl hl.1 rfl (lv_room (Nat.le_of_ble_eq_true rfl)) dX4_readOne_82 ⟨Nat.le_of_ble_eq_true rfl, Nat.le_of_ble_eq_true rfl⟩) hD hS hA (fun u_26 H locs hw hP hD hS => ?_)
      obtain ⟨r_26, f_26⟩ := u_26
      obtain ⟨hI, hF_26, hp_26, hfx_26, h01_26⟩ : IN jn cI cR cM g L S f_26 ∧ FR S [0, 1, 13, 14] f f_26 ∧ ((r_26.toInt = 1 ∧ ∃ (a9 b9 : Int) (j9 : Nat), BtR ks vs i a9 b9 j9 ∧ TKm cI g ks vs f_26 j9 ∧ 2 * (len_23.toInt + 1) ≤ (n_22 : Int) ∧ RWf cI jn S f_26 r_22 (len_23.toInt + 1) (fupd (fupd (fun j => w (2 * st x.toInt + j)) (2 * len_23.toInt) a9) (2 * len_23.toInt + 1) b9)) ∨ (r_26.toInt = 0 ∧ (BtF ks vs i ∨ (n_22 : Int) < 2 * (len_23.toInt + 1)))) ∧ (FX S (fun a9 => a9 = r_22 ∨ a9 = g 24) [13, 14] f f_26) ∧ (r_26.toInt = 0 ∨ r_26.toInt = 1) := hw
      have hP : va_P D vwCl (va_pl L f_26) H := hP
      have hD : va_D A (va_pl L f_26) := hD
      have hF := FR_tr hF hF_26 (by decide)
      have hFX := FX_tr hFX hfx_26 (fun a9 h9 => h9.elim (fun h9 => Or.inl ⟨x.toInt.toNat, Nat.le_refl _, by omega, h9.trans hh_22⟩) (fun h9 => Or.inr (Or.inl h9))) (by decide)
      have fb_27 : f_26 (g 22) = .inl (cR, 6, .inr (.inr (.inr (.inr c_21)))) := FR_at hF_26 (gs_22 hG) (show (22 : Nat) ∉ ([0, 1, 13, 14] : List Nat) by decide) fg_21
      exact g_zret (r_26, f_26) hx hb hr hlocks hS (b01 (by subst hj1; omega)) rfl (⟨hI, hF, show Hd ((r_26.toInt = 1 ∧ OneR cI jn g lv S f_26 ks vs E i x.toInt top one may isO w st op dg st1 op1 dg1) ∨ (r_26.toInt = 0 ∧ Fls ks vs E (i, x.toInt, top, one, may, isO, w, st1, op1, dg1))) from (by exfalso; omega), show ∀ k9 v9 : Int, 0 ≤ k9 → k9 < x.toInt → TNf cI g f k9 v9 → TNf cI g f_26 k9 v9 from (fun k9 v9 _ _ h9 => TN_fr hG hF_26 (by decide) k9 v9 h9), show FX S (BXp g lv x.toInt) [13, 14, 34] f f_26 from (by first | assumption | omega | (subst hj1; omega)), show r_26.toInt = 0 ∨ r_26.toInt = 1 from (by first | assumption | omega | (subst hj1; omega))⟩) hP hD hQ (Nat.le_of_ble_eq_true rfl) (Nat.le_of_ble_eq_true rfl) dX4_readOne_85
    · refine lv_lookup (off := 53) (tgt := 75) hx hb dX4_readOne_22 (by decide) (by rw [hu_6, c_6]; decide) (by decide) ?_
      have kb9 : ks i = 91 := cK_p (hKO i).1 (Or.inr ⟨by decide, by decide⟩) kk_5 (c := 91) (by subst hj1; omega) (by decide)
      refine lv_aload_n hx hb dX4_readOne_75 rfl (lv_at hl 1 rfl) ?_
      refine lv_aload_n hx hb dX4_readOne_76 rfl (lv_at hl 1 rfl) ?_
      refine t_get (D := D) (L := L) (f := f) (ci := 4) (v := .ref (g 22)) (C := RX4) (T := TX4) (N := 11) hx hb hts (by decide +kernel) hown hK.1 hP (gm_13 hG) fg_1 rfl 3 (by decide) (hts (.fieldLink RX4 13 "JugglingHall$Reader" "levels" "[LJugglingHall$Row;") (by decide +kernel)) (fun _ h9 => h9) rfl dX4_readOne_77 ?_
      refine lv_iload_n hx hb dX4_readOne_80 rfl (lv_at hl 2 rfl) ?_
      obtain ⟨c_28, fg_28, iv0_28⟩ := op_22 hI (gm_22 hG) (gs_22 hG)
      refine t_aald (L := L) (f := f) (y := c_28) (u := x.toInt) hx hb hK.1 hP (gm_22 hG) 1 fg_28 rfl dX4_readOne_81 (rfl) (by subst hj1; omega) (fun w_29 q_29 => ?_)
      obtain ⟨r_29, p_29, n_29, er_29, m_29, s_29⟩ := iv0_28 x.toInt (by subst hj1; omega) (by subst hj1; omega)
      have q_29 := q_29.trans er_29
      subst q_29
      refine W.eq (g2 := F0 m 82 ls [.ref r_29, .ref (g 13)]) rfl ?_
      have hh_29 : r_29 = lv x.toInt.toNat := LvC_at (l := x.toInt) hLv fg_28 (by subst hj1; omega) (by subst hj1; omega) (by rw [show x.toInt = x.toInt by omega]; exact er_29)
      have hR_29 := RWf_e hMS.2.2 hh_29
      obtain ⟨len_30, fg_30, v1_30, v2_30, v3_30, mp_30, sp_30⟩ := op_0 hI m_29 s_29
      obtain ⟨w1_30, w2_30, w3_30, w4_30, w5_30⟩ := lenw hj v1_30 v2_30 v3_30
      obtain ⟨c_31, fg_31, iv0_31⟩ := op_1 hI mp_30 sp_30
      obtain ⟨hl_32, hc_32⟩ := RWf_at hR_29 s_29 fg_30 fg_31
      have hN_29 := cap_of (S := S) (a := r_29) (k := 48) (by rw [hh_29]; exact (hRD.2.1 _ (by subst hj1; omega)).1) s_29
      refine call_p (va_runV (As := [.ref r_29]) (rest := []) ⟨hx, hb, hml, hown, hts⟩ (t_X4_readBeatm l D cI cR cM _ (ks := ks) (vs := vs) (i := i) (w := (fun j => w (2 * st x.toInt + j)))  hj hG hI m_29 s_29 fg_30 fg_31 (by first | assumption | omega | (subst hj1; omega)) (hC) (by first | assumption | omega | (subst hj1; omega)) (by rw [hh_29]; exact (hRD.2.1 _ (by subst hj1; omega)).2.1) (hRD.1.1) (by rw [hl_32]; exact hc_32)) (cwV 1 hts gX4_readOne_X4_readBeat rfl rfl rfl (by decide +kernel) ⟨Nat.le_of_ble_eq_true rfl, Nat.le_of_ble_eq_true rfl⟩) (pre_T hK hP hD (gm_13 hG) fg_1 rfl) rfl rfl hl.1 rfl (lv_room (Nat.le_of_ble_eq_true rfl)) dX4_readOne_82 ⟨Nat.le_of_ble_eq_true rfl, Nat.le_of_ble_eq_true rfl⟩) hD hS hA (fun u_33 H locs hw hP hD hS => ?_)
      obtain ⟨r_33, f_33⟩ := u_33
      obtain ⟨hI, hF_33, hp_33, hfx_33, h01_33⟩ : IN jn cI cR cM g L S f_33 ∧ FR S [0, 1, 13, 14] f f_33 ∧ ((r_33.toInt = 1 ∧ ∃ (a9 b9 : Int) (j9 : Nat), BtR ks vs i a9 b9 j9 ∧ TKm cI g ks vs f_33 j9 ∧ 2 * (len_30.toInt + 1) ≤ (n_29 : Int) ∧ RWf cI jn S f_33 r_29 (len_30.toInt + 1) (fupd (fupd (fun j => w (2 * st x.toInt + j)) (2 * len_30.toInt) a9) (2 * len_30.toInt + 1) b9)) ∨ (r_33.toInt = 0 ∧ (BtF ks vs i ∨ (n_29 : Int) < 2 * (len_30.toInt + 1)))) ∧ (FX S (fun a9 => a9 = r_29 ∨ a9 = g 24) [13, 14] f f_33) ∧ (r_33.toInt = 0 ∨ r_33.toInt = 1) := hw
      have hP : va_P D vwCl (va_pl L f_33) H := hP
      have hD : va_D A (va_pl L f_33) := hD
      have hF := FR_tr hF hF_33 (by decide)
      have hFX := FX_tr hFX hfx_33 (fun a9 h9 => h9.elim (fun h9 => Or.inl ⟨x.toInt.toNat, Nat.le_refl _, by omega, h9.trans hh_29⟩) (fun h9 => Or.inr (Or.inl h9))) (by decide)
      have fb_34 : f_33 (g 22) = .inl (cR, 6, .inr (.inr (.inr (.inr c_28)))) := FR_at hF_33 (gs_22 hG) (show (22 : Nat) ∉ ([0, 1, 13, 14] : List Nat) by decide) fg_28
      exact g_zret (r_33, f_33) hx hb hr hlocks hS (b01 (by subst hj1; omega)) rfl (⟨hI, hF, show Hd ((r_33.toInt = 1 ∧ OneR cI jn g lv S f_33 ks vs E i x.toInt top one may isO w st op dg st1 op1 dg1) ∨ (r_33.toInt = 0 ∧ Fls ks vs E (i, x.toInt, top, one, may, isO, w, st1, op1, dg1))) from (by
        rw [hl_32] at hp_33
        rcases hp_33 with ⟨h5, a9, b9, j9, h6, h7, h8, h9⟩ | ⟨h5, h6⟩
        · have h9 := RWf_e h9 hh_29.symm
          obtain ⟨q1, q2, q3⟩ := L_beat (E := E) (one := one) (isO := isO) (op1 := op1) (dg1 := dg1) hMS (fun top9 w9 q1 q2 q3 => MSb_fx hMS.1 hfx_33 (by decide) (fun k9 h8 h7 => (fun q9 => q9.elim (fun q9 => (hRD.2.2.2.2.1 k9.toNat x.toInt.toNat (by subst hj1; omega) (by subst hj1; omega) (by subst hj1; omega)) (q9.trans hh_29)) (fun q8 => (hRD.2.1 k9.toNat (by subst hj1; omega)).2.1 q8))) (fun k9 v9 _ _ h9 => TN_fr hG hF_33 (by decide) k9 v9 h9) q1 q2 q3) hm9 (hst _ (by subst hj1; omega) (Int.le_refl _)) h6 (Bt_vK hKO h6) (by subst hj1; omega) h9
          exact Or.inl ⟨h5, j9, _, _, st1, op1, dg1, Go_1 q1, Bt_lt h6, by omega, h7, q2, hst, hop, q3⟩
        · refine Or.inr ⟨h5, Fls_0 (F_beat hm9 (fun q9 => by omega) (by subst hj1; omega) (by subst hj1; omega) (fun _ => by unfold Bgn; omega) ?_)⟩
          rw [hst _ (by subst hj1; omega) (Int.le_refl _)]
          exact h6.imp id (fun q9 => by omega)), show ∀ k9 v9 : Int, 0 ≤ k9 → k9 < x.toInt → TNf cI g f k9 v9 → TNf cI g f_33 k9 v9 from (fun k9 v9 _ _ h9 => TN_fr hG hF_33 (by decide) k9 v9 h9), show FX S (BXp g lv x.toInt) [13, 14, 34] f f_33 from (by first | assumption | omega | (subst hj1; omega)), show r_33.toInt = 0 ∨ r_33.toInt = 1 from (by first | assumption | omega | (subst hj1; omega))⟩) hP hD hQ (Nat.le_of_ble_eq_true rfl) (Nat.le_of_ble_eq_true rfl) dX4_readOne_85
    · refine lv_lookup (off := 64) (tgt := 86) hx hb dX4_readOne_22 (by decide) (by rw [hu_6]; exact (show Op.lookupswitch.offset [(2, 53), (3, 42), (60, 53), (91, 53)] (64) kd_4.toInt = (64) from lkc (by subst hj1; omega) (lkc (by subst hj1; omega) (lkc (by subst hj1; omega) (lkc (by subst hj1; omega) (lkn _ _)))))) (by decide) ?_
      have hkg : ks i = 40 ∨ (7 ≤ ks i ∧ ks i ≤ 10) := by have h9 := cK_f (hKO i).1; omega
      refine lv_aload_n hx hb dX4_readOne_86 rfl (lv_at hl 1 rfl) ?_
      refine lv_iload_n hx hb dX4_readOne_87 rfl (lv_at hl 0 rfl) ?_
      refine lv_iload_n hx hb dX4_readOne_88 rfl (lv_at hl 2 rfl) ?_
      refine call_p (va_runV (As := [.int kd_4, .int x]) (rest := []) ⟨hx, hb, hml, hown, hts⟩ (t_X4_openGroupm l D cI cR cM _ (ks := ks) (vs := vs) (i := i)  hj hG hI  (by first | assumption | omega | (subst hj1; omega)) (hC) (by first | assumption | omega | (subst hj1; omega)) (kk_5) (hkg) (by subst hj1; omega)) (cwV 2 hts gX4_readOne_X4_openGroup rfl rfl rfl (by decide +kernel) ⟨Nat.le_of_ble_eq_true rfl, Nat.le_of_ble_eq_true rfl⟩) (pre_T hK hP hD (gm_13 hG) fg_1 rfl) rfl rfl hl.1 rfl (lv_room (Nat.le_of_ble_eq_true rfl)) dX4_readOne_89 ⟨Nat.le_of_ble_eq_true rfl, Nat.le_of_ble_eq_true rfl⟩) hD hS hA (fun u_35 H locs hw hP hD hS => ?_)
      obtain ⟨r_35, f_35⟩ := u_35
      obtain ⟨hI, hF_35, hp_35, ht_35, hfx_35, h01_35⟩ : IN jn cI cR cM g L S f_35 ∧ FR S [13, 14, 34] f f_35 ∧ ((r_35.toInt = 1 ∧ x.toInt < 5 ∧ ((ks i = 40 ∧ TKm cI g ks vs f_35 (i + 1)) ∨ ((7 ≤ ks i ∧ ks i ≤ 9) ∧ ks (i + 1) = 40 ∧ TKm cI g ks vs f_35 (i + 2)) ∨ (ks i = 10 ∧ ks (i + 1) = 1 ∧ ks (i + 2) = 40 ∧ TKm cI g ks vs f_35 (i + 3) ∧ TNf cI g f_35 x.toInt (vs (i + 1))))) ∨ (r_35.toInt = 0 ∧ ¬ (x.toInt < 5 ∧ (ks i = 40 ∨ ((7 ≤ ks i ∧ ks i ≤ 9) ∧ ks (i + 1) = 40) ∨ (ks i = 10 ∧ ks (i + 1) = 1 ∧ ks (i + 2) = 40))))) ∧ (∀ k9 v9 : Int, 0 ≤ k9 → k9 ≠ x.toInt → TNf cI g f k9 v9 → TNf cI g f_35 k9 v9) ∧ (FX S (fun _ => False) [13, 14, 34] f f_35) ∧ (r_35.toInt = 0 ∨ r_35.toInt = 1) := hw
      have hP : va_P D vwCl (va_pl L f_35) H := hP
      have hD : va_D A (va_pl L f_35) := hD
      have hF := FR_tr hF hF_35 (by decide)
      have hFX := FX_tr hFX hfx_35 (fun _ h9 => h9.elim) (by decide)
      refine a_if_eq (u := r_35.toInt) (tgt := 127) hx hb dX4_readOne_92 (by decide) (rfl) (fun c_36 => ?_) (fun c_36 => ?_)
      · refine lv_iconst (v := 0) hx hb dX4_readOne_127 (by decide) ?_
        have hz_37 : (0 : Int32).toInt = 0 := by decide
        exact g_zret ((0 : Int32), f_35) hx hb hr hlocks hS (by first | exact Or.inl rfl | exact Or.inr rfl) rfl (⟨hI, hF, show Hd (((0 : Int32).toInt = 1 ∧ OneR cI jn g lv S f_35 ks vs E i x.toInt top one may isO w st op dg st1 op1 dg1) ∨ ((0 : Int32).toInt = 0 ∧ Fls ks vs E (i, x.toInt, top, one, may, isO, w, st1, op1, dg1))) from (Or.inr ⟨rfl, Fls_0 (F_opens (by subst hj1; omega) (hp_35.resolve_left (fun q9 => by have := q9.1; omega)).2)⟩), show ∀ k9 v9 : Int, 0 ≤ k9 → k9 < x.toInt → TNf cI g f k9 v9 → TNf cI g f_35 k9 v9 from (fun k9 v9 h7 h8 h9 => (ht_35 k9 v9 h7 (by subst hj1; omega) h9)), show FX S (BXp g lv x.toInt) [13, 14, 34] f f_35 from (by first | assumption | omega | (subst hj1; omega)), show (0 : Int32).toInt = 0 ∨ (0 : Int32).toInt = 1 from (by first | assumption | omega | (subst hj1; omega))⟩) hP hD hQ (Nat.le_of_ble_eq_true rfl) (Nat.le_of_ble_eq_true rfl) dX4_readOne_128
      · obtain ⟨hz1, hz2⟩ := hp_35.resolve_right (fun q9 => by have := q9.1; omega)
        have hMS1 := MSt_fx hMS hfx_35 (by decide) (fun _ _ _ h9 => h9) (fun k9 v9 h7 h8 h9 => ht_35 k9 v9 h7 (by subst hj1; omega) h9)
        have hLv1 := LvC_fr hLv hG hF_35 (by decide)
        have hEC1 := EnvC_fx hEC hG hF_35 hfx_35 (by decide) (by decide) (fun _ _ h9 => h9) (fun _ _ h9 => h9)
        obtain ⟨i1, K1, D1, hs1, hc1_, hi1, hK1, hT1⟩ := L_opens (E := E) (top := top) (one := one) (isO := isO) (w := w) (st := st1) (op := op1) (dg := dg1) hm9 hz2
        have hMo := L_open (K := K1) (D := D1) hMS1 (by subst hj1; omega) hT1
        refine lv_aload_n hx hb dX4_readOne_95 rfl (lv_at hl 1 rfl) ?_
        refine lv_iload_n hx hb dX4_readOne_96 rfl (lv_at hl 2 rfl) ?_
        refine lv_iconst (v := 1) hx hb dX4_readOne_97 (by decide) ?_
        refine a_iadd (u := x.toInt) (v := 1) hx hb dX4_readOne_98 (rfl) (by decide) (by subst hj1; omega) (fun z_38 e_38 => ?_)
        obtain ⟨fa_39, pl_39, fg_39⟩ := op_13 hI (gm_13 hG) (gs_13 hG)
        refine call_p (va_runV (As := [.int z_38]) (rest := []) ⟨hx, hb, hml, hown, hts⟩ (t_X4_readSequencem_1 l D cI cR cM _ (i := i1) (top := top) (one := one) (w := w) (st := (fupd st (x.toInt + 1) top)) (op := (fupd op x.toInt K1)) (dg := (fupd dg x.toInt D1)) (st1 := (fupd st1 (x.toInt + 1) top)) (op1 := (fupd op1 x.toInt K1)) (dg1 := (fupd dg1 x.toInt D1)) (lv := lv) (gr := gr) (E := E) (F := F) (ks := ks) (vs := vs)  hj hG hI  (by first | assumption | omega | (subst hj1; omega)) (hc1_) (by first | assumption | omega | (subst hj1; omega)) (hRD) (hLv1) (hEC1) (hEO) (by subst hj1; omega) (by subst hj1; omega) (by rw [show z_38.toInt = x.toInt + 1 by omega]; exact hMo) (by rw [show z_38.toInt = x.toInt + 1 by omega]; exact fu_s) (fun k9 h8 h9 => by
          by_cases q9 : k9 = x.toInt + 1
          · rw [q9, fu_s, fu_s]
          · rw [fu_n q9, fu_n q9]; exact hst k9 h8 (by subst hj1; omega)) (fun k9 h8 h9 => by
          by_cases q9 : k9 = x.toInt
          · rw [q9, fu_s, fu_s, fu_s, fu_s]; exact ⟨rfl, rfl⟩
          · rw [fu_n q9, fu_n q9, fu_n q9, fu_n q9]; exact hop k9 h8 (by subst hj1; omega))) (cwV 1 hts gX4_readOne_X4_readSequence rfl rfl rfl (by decide +kernel) ⟨Nat.le_of_ble_eq_true rfl, Nat.le_of_ble_eq_true rfl⟩) (pre_T hK hP hD (gm_13 hG) fg_39 rfl) rfl rfl hl.1 rfl (lv_room (Nat.le_of_ble_eq_true rfl)) dX4_readOne_99 ⟨Nat.le_of_ble_eq_true rfl, Nat.le_of_ble_eq_true rfl⟩) hD hS hA (fun u_40 H locs hw hP hD hS => ?_)
        obtain ⟨r_40, f_40⟩ := u_40
        obtain ⟨hI, hF_40, hp_40, htn_40, hfx_40, h01_40⟩ : IN jn cI cR cM g L S f_40 ∧ FR S [0, 1, 13, 14, 34] f_35 f_40 ∧ (Hd ((r_40.toInt = 1 ∧ SeqR cI jn g lv S f_40 ks vs E i1 z_38.toInt top one w (fupd st (x.toInt + 1) top) (fupd op x.toInt K1) (fupd dg x.toInt D1) (fupd st1 (x.toInt + 1) top) (fupd op1 x.toInt K1) (fupd dg1 x.toInt D1)) ∨ (r_40.toInt = 0 ∧ Fls ks vs E (i1, z_38.toInt, top, one, 0, 0, w, (fupd st1 (x.toInt + 1) top), (fupd op1 x.toInt K1), (fupd dg1 x.toInt D1))))) ∧ (∀ k9 v9 : Int, 0 ≤ k9 → k9 < z_38.toInt → TNf cI g f_35 k9 v9 → TNf cI g f_40 k9 v9) ∧ (FX S (BXp g lv z_38.toInt) [13, 14, 34] f_35 f_40) ∧ (r_40.toInt = 0 ∨ r_40.toInt = 1) := hw
        have hP : va_P D vwCl (va_pl L f_40) H := hP
        have hD : va_D A (va_pl L f_40) := hD
        have hF := FR_tr hF hF_40 (by decide)
        have hFX := FX_tr hFX hfx_40 (fun a9 h9 => h9.imp (fun ⟨k9, h8, h7, h6⟩ => ⟨k9, by omega, h7, h6⟩) id) (by decide)
        have hpz_40 := hp_40
        rw [show z_38.toInt = x.toInt + 1 by omega] at hpz_40
        refine a_if_eq (u := r_40.toInt) (tgt := 127) hx hb dX4_readOne_102 (by decide) (rfl) (fun c_41 => ?_) (fun c_41 => ?_)
        · refine lv_iconst (v := 0) hx hb dX4_readOne_127 (by decide) ?_
          have hz_42 : (0 : Int32).toInt = 0 := by decide
          exact g_zret ((0 : Int32), f_40) hx hb hr hlocks hS (by first | exact Or.inl rfl | exact Or.inr rfl) rfl (⟨hI, hF, show Hd (((0 : Int32).toInt = 1 ∧ OneR cI jn g lv S f_40 ks vs E i x.toInt top one may isO w st op dg st1 op1 dg1) ∨ ((0 : Int32).toInt = 0 ∧ Fls ks vs E (i, x.toInt, top, one, may, isO, w, st1, op1, dg1))) from (Or.inr ⟨rfl, Fls_tr (Go_1 hs1) (hpz_40.resolve_left (fun q9 => by have := q9.1; omega)).2⟩), show ∀ k9 v9 : Int, 0 ≤ k9 → k9 < x.toInt → TNf cI g f k9 v9 → TNf cI g f_40 k9 v9 from (fun k9 v9 h7 h8 h9 => (htn_40 k9 v9 h7 (by subst hj1; omega) (ht_35 k9 v9 h7 (by subst hj1; omega) h9))), show FX S (BXp g lv x.toInt) [13, 14, 34] f f_40 from (by first | assumption | omega | (subst hj1; omega)), show (0 : Int32).toInt = 0 ∨ (0 : Int32).toInt = 1 from (by first | assumption | omega | (subst hj1; omega))⟩) hP hD hQ (Nat.le_of_ble_eq_true rfl) (Nat.le_of_ble_eq_true rfl) dX4_readOne_128
        · obtain ⟨-, n_, i2_, top2_, one2_, may2_, w2_, st2_, op2_, dg2_, ⟨hq0, hq1, hq2, hqs, hqo, hqa, hqm, hqx, -⟩, hqp, hqn⟩ := hpz_40.resolve_right (fun q9 => by have := q9.1; omega)
          have hLv2 := LvC_fr hLv1 hG hF_40 (by decide)
          obtain ⟨-, -, hqi, hqt⟩ := hqx.resolve_left (fun q9 => by have := q9.1; omega)
          refine lv_aload_n hx hb dX4_readOne_105 rfl (lv_at hl 1 rfl) ?_
          refine lv_bipush (v := 41) hx hb dX4_readOne_106 (by decide) ?_
          have hz_43 : (41 : Int32).toInt = 41 := by decide
          obtain ⟨fa_44, pl_44, fg_44⟩ := op_13 hI (gm_13 hG) (gs_13 hG)
          refine call_p (va_runV (As := [.int 41]) (rest := []) ⟨hx, hb, hml, hown, hts⟩ (t_X4_expectm l D cI cR cM _ (ks := ks) (vs := vs) (i := i2_) (K9 := 41)  hj hG hI  (by first | assumption | omega | (subst hj1; omega)) (hq1) (by first | assumption | omega | (subst hj1; omega)) (by decide) (Or.inr ⟨by decide, by decide⟩)) (cwV 1 hts gX4_readOne_X4_expect rfl rfl rfl (by decide +kernel) ⟨Nat.le_of_ble_eq_true rfl, Nat.le_of_ble_eq_true rfl⟩) (pre_T hK hP hD (gm_13 hG) fg_44 rfl) rfl rfl hl.1 rfl (lv_room (Nat.le_of_ble_eq_true rfl)) dX4_readOne_108 ⟨Nat.le_of_ble_eq_true rfl, Nat.le_of_ble_eq_true rfl⟩) hD hS hA (fun u_45 H locs hw hP hD hS => ?_)
          obtain ⟨r_45, f_45⟩ := u_45
          obtain ⟨hI, hF_45, hp_45, hfx_45, h01_45⟩ : IN jn cI cR cM g L S f_45 ∧ FR S [13, 14] f_40 f_45 ∧ ((r_45.toInt = 1 ∧ ks i2_ = 41 ∧ TKm cI g ks vs f_45 (i2_ + 1)) ∨ (r_45.toInt = 0 ∧ ks i2_ ≠ 41)) ∧ (FX S (fun _ => False) [13, 14] f_40 f_45) ∧ (r_45.toInt = 0 ∨ r_45.toInt = 1) := hw
          have hP : va_P D vwCl (va_pl L f_45) H := hP
          have hD : va_D A (va_pl L f_45) := hD
          have hF := FR_tr hF hF_45 (by decide)
          have hFX := FX_tr hFX hfx_45 (fun _ h9 => h9.elim) (by decide)
          refine a_if_eq (u := r_45.toInt) (tgt := 127) hx hb dX4_readOne_111 (by decide) (rfl) (fun c_46 => ?_) (fun c_46 => ?_)
          · refine lv_iconst (v := 0) hx hb dX4_readOne_127 (by decide) ?_
            have hz_47 : (0 : Int32).toInt = 0 := by decide
            exact g_zret ((0 : Int32), f_45) hx hb hr hlocks hS (by first | exact Or.inl rfl | exact Or.inr rfl) rfl (⟨hI, hF, show Hd (((0 : Int32).toInt = 1 ∧ OneR cI jn g lv S f_45 ks vs E i x.toInt top one may isO w st op dg st1 op1 dg1) ∨ ((0 : Int32).toInt = 0 ∧ Fls ks vs E (i, x.toInt, top, one, may, isO, w, st1, op1, dg1))) from (Or.inr ⟨rfl, Fls_tr (Go_tr (Go_1 hs1) hq0) (L_open_F hqn hqm (hp_45.resolve_left (fun q9 => by have := q9.1; omega)).2 (by subst hj1; omega))⟩), show ∀ k9 v9 : Int, 0 ≤ k9 → k9 < x.toInt → TNf cI g f k9 v9 → TNf cI g f_45 k9 v9 from (fun k9 v9 h7 h8 h9 => (TN_fr hG hF_45 (by decide) k9 v9 (htn_40 k9 v9 h7 (by subst hj1; omega) (ht_35 k9 v9 h7 (by subst hj1; omega) h9)))), show FX S (BXp g lv x.toInt) [13, 14, 34] f f_45 from (by first | assumption | omega | (subst hj1; omega)), show (0 : Int32).toInt = 0 ∨ (0 : Int32).toInt = 1 from (by first | assumption | omega | (subst hj1; omega))⟩) hP hD hQ (Nat.le_of_ble_eq_true rfl) (Nat.le_of_ble_eq_true rfl) dX4_readOne_128
          · obtain ⟨-, hk41, hq5⟩ := hp_45.resolve_right (fun q9 => by have := q9.1; omega)
            have hLv3 := LvC_fr hLv2 hG hF_45 (by decide)
            have hMS3 := MSt_fx hq2 hfx_45 (by decide) (fun _ _ _ h9 => h9) (fun k9 v9 _ _ h9 => TN_fr hG hF_45 (by decide) k9 v9 h9)
            obtain ⟨hP1, hP2, hP3, hP4, hP5⟩ := L_pre hMS3 (by subst hj1; omega)
            have hst0 := (hMS.1.2.1 x.toInt (by subst hj1; omega) (Int.le_refl _)).1
            refine lv_aload_n hx hb dX4_readOne_114 rfl (lv_at hl 1 rfl) ?_
            refine lv_iload_n hx hb dX4_readOne_115 rfl (lv_at hl 0 rfl) ?_
            refine lv_iload_n hx hb dX4_readOne_116 rfl (lv_at hl 2 rfl) ?_
            obtain ⟨fa_48, pl_48, fg_48⟩ := op_13 hI (gm_13 hG) (gs_13 hG)
            refine call_p (va_runV (As := [.int kd_4, .int x]) (rest := []) ⟨hx, hb, hml, hown, hts⟩ (t_X4_joinGroupm l D cI cR cM _ (lv := lv) (gr := gr) (a8 := (ks i)) (d := D1) (n0 := (top - st x.toInt)) (m0 := (top2_ - top)) (wr := (fun j => w2_ (2 * st x.toInt + j))) (wi := (fun j => w2_ (2 * top + j)))  hj hG hI  (by first | assumption | omega | (subst hj1; omega)) (kk_5) (⟨(hKO i).1, hkg⟩) (by subst hj1; omega) (hRD) (hLv3) (hP1) (hP2) (by subst hj1; omega) (fun q9 => hP4 (by subst hj1; omega)) (srt_sh (by subst hj1; omega) (fun b9 h8 h9 => hP5 b9 h8 (by subst hj1; omega)))) (cwV 2 hts gX4_readOne_X4_joinGroup rfl rfl rfl (by decide +kernel) ⟨Nat.le_of_ble_eq_true rfl, Nat.le_of_ble_eq_true rfl⟩) (pre_T hK hP hD (gm_13 hG) fg_48 rfl) rfl rfl hl.1 rfl (lv_room (Nat.le_of_ble_eq_true rfl)) dX4_readOne_117 ⟨Nat.le_of_ble_eq_true rfl, Nat.le_of_ble_eq_true rfl⟩) hD hS hA (fun u_49 H locs hw hP hD hS => ?_)
            obtain ⟨r_49, f_49⟩ := u_49
            obtain ⟨hI, hF_49, hp_49, hfx_49, h01_49⟩ : IN jn cI cR cM g L S f_49 ∧ FR S [0, 1, 13] f_45 f_49 ∧ ((r_49.toInt = 1 ∧ (top - st x.toInt) + (top2_ - top) ≤ 24 ∧ ∃ v9 : Int → Int, ChI (ks i) D1 (fun j => w2_ (2 * top + j)) (top2_ - top) v9 ∧ RWf cI jn S f_49 (lv x.toInt.toNat) ((top - st x.toInt) + (top2_ - top)) (fun j => if j < 2 * (top - st x.toInt) then (fun j => w2_ (2 * st x.toInt + j)) j else v9 (j - 2 * (top - st x.toInt)))) ∨ (r_49.toInt = 0 ∧ (24 < (top - st x.toInt) + (top2_ - top) ∨ ChIF (ks i) (fun j => w2_ (2 * top + j)) (top2_ - top)))) ∧ (FX S (fun a9 => a9 = lv x.toInt.toNat ∨ a9 = g 25) [13] f_45 f_49) ∧ (r_49.toInt = 0 ∨ r_49.toInt = 1) := hw
            have hP : va_P D vwCl (va_pl L f_49) H := hP
            have hD : va_D A (va_pl L f_49) := hD
            have hF := FR_tr hF hF_49 (by decide)
            have hFX := FX_tr hFX hfx_49 (fun a9 h9 => h9.elim (fun q9 => Or.inl ⟨x.toInt.toNat, Nat.le_refl _, by omega, q9⟩) (fun q9 => Or.inr (Or.inr q9))) (by decide)
            refine a_if_eq (u := r_49.toInt) (tgt := 127) hx hb dX4_readOne_120 (by decide) (rfl) (fun c_50 => ?_) (fun c_50 => ?_)
            · refine lv_iconst (v := 0) hx hb dX4_readOne_127 (by decide) ?_
              have hz_51 : (0 : Int32).toInt = 0 := by decide
              exact g_zret ((0 : Int32), f_49) hx hb hr hlocks hS (by first | exact Or.inl rfl | exact Or.inr rfl) rfl (⟨hI, hF, show Hd (((0 : Int32).toInt = 1 ∧ OneR cI jn g lv S f_49 ks vs E i x.toInt top one may isO w st op dg st1 op1 dg1) ∨ ((0 : Int32).toInt = 0 ∧ Fls ks vs E (i, x.toInt, top, one, may, isO, w, st1, op1, dg1))) from (by
                have h8 := (hp_49.resolve_left (fun q9 => by have := q9.1; omega)).2
                refine Or.inr ⟨rfl, Fls_tr (Go_tr (Go_1 hs1) hq0) (Fls_0 (F_closes hk41 rfl (by subst hj1; omega) ?_))⟩
                have t1 : st2_ (x.toInt + 1 - 1) = st x.toInt := by rw [show x.toInt + 1 - 1 = x.toInt by omega, hqs _ (by subst hj1; omega) (by subst hj1; omega), fu_n (by subst hj1; omega)]
                have t2 : st2_ (x.toInt + 1) = top := by rw [hqs _ (by subst hj1; omega) (by subst hj1; omega), fu_s]
                have t3 : op2_ (x.toInt + 1 - 1) = K1 := by rw [show x.toInt + 1 - 1 = x.toInt by omega, (hqo _ (by subst hj1; omega) (by subst hj1; omega)).1, fu_s]
                rw [t1, t2, t3]
                exact h8.imp (fun q9 => by omega) (fun q9 => Ch_upF q9 hK1)), show ∀ k9 v9 : Int, 0 ≤ k9 → k9 < x.toInt → TNf cI g f k9 v9 → TNf cI g f_49 k9 v9 from (fun k9 v9 h7 h8 h9 => TN_fr hG hF_49 (by decide) k9 v9 (TN_fr hG hF_45 (by decide) k9 v9 (htn_40 k9 v9 h7 (by subst hj1; omega) (ht_35 k9 v9 h7 (by subst hj1; omega) h9)))), show FX S (BXp g lv x.toInt) [13, 14, 34] f f_49 from (by first | assumption | omega | (subst hj1; omega)), show (0 : Int32).toInt = 0 ∨ (0 : Int32).toInt = 1 from (by first | assumption | omega | (subst hj1; omega))⟩) hP hD hQ (Nat.le_of_ble_eq_true rfl) (Nat.le_of_ble_eq_true rfl) dX4_readOne_128
            · obtain ⟨-, hj5, v9_, hj6, hj7⟩ := hp_49.resolve_right (fun q9 => by have := q9.1; omega)
              obtain ⟨w3_, hc1, hc2, hc3⟩ := L_close (f := f) (ks := ks) (vs := vs) (E := E) (i := i2_) (one := one2_) (may := may2_) (a := ks i) (K := K1) (D := D1) (w := w) (st := st) (op := op) (dg := dg) (st2 := st2_) (op2 := op2_) (dg2 := dg2_) hP5 (fun top9 w9 q1 q2 q3 => MSb_fx hMS.1 hFX (by decide) (nb_lv hRD (by subst hj1; omega)) (fun k9 v9 h7 h8 h9 => TN_fr hG hF_49 (by decide) k9 v9 (TN_fr hG hF_45 (by decide) k9 v9 (htn_40 k9 v9 h7 (by subst hj1; omega) (ht_35 k9 v9 h7 (by subst hj1; omega) h9)))) q1 q2 q3) (fun j9 h8 h9 => hqa j9 h8 (by rw [fu_s]; exact h9)) hst0 (by subst hj1; omega) (by subst hj1; omega) hqt hk41 (by rw [hqs _ (by subst hj1; omega) (by subst hj1; omega), fu_n (by subst hj1; omega)]) (by rw [hqs _ (by subst hj1; omega) (by subst hj1; omega), fu_s]) (by rw [(hqo _ (by subst hj1; omega) (by subst hj1; omega)).1, fu_s]) (by rw [(hqo _ (by subst hj1; omega) (by subst hj1; omega)).2, fu_s]) hK1 (by subst hj1; omega) hj6 hj7
              refine lv_iconst (v := 1) hx hb dX4_readOne_123 (by decide) ?_
              refine lv_goto (tgt := 128) hx hb dX4_readOne_124 (by decide) ?_
              have hz_52 : (1 : Int32).toInt = 1 := by decide
              exact g_zret ((1 : Int32), f_49) hx hb hr hlocks hS (by first | exact Or.inl rfl | exact Or.inr rfl) rfl (⟨hI, hF, show Hd (((1 : Int32).toInt = 1 ∧ OneR cI jn g lv S f_49 ks vs E i x.toInt top one may isO w st op dg st1 op1 dg1) ∨ ((1 : Int32).toInt = 0 ∧ Fls ks vs E (i, x.toInt, top, one, may, isO, w, st1, op1, dg1))) from (Or.inl ⟨rfl, i2_ + 1, top2_, w3_, st2_, op2_, dg2_, Go_tr (Go_1 hs1) (Go_tr hq0 (Go_1 hc1)), by omega, by omega, TKm_fr hq5 hG hF_49 (by decide), hc2, fun k9 h8 h7 => by rw [hqs k9 h8 (by subst hj1; omega), fu_n (show k9 ≠ x.toInt + 1 by omega)], fun k9 h8 h7 => by rw [(hqo k9 h8 (by subst hj1; omega)).1, (hqo k9 h8 (by subst hj1; omega)).2, fu_n (show k9 ≠ x.toInt by omega), fu_n (show k9 ≠ x.toInt by omega)]; exact ⟨rfl, rfl⟩, hc3⟩), show ∀ k9 v9 : Int, 0 ≤ k9 → k9 < x.toInt → TNf cI g f k9 v9 → TNf cI g f_49 k9 v9 from (fun k9 v9 h7 h8 h9 => TN_fr hG hF_49 (by decide) k9 v9 (TN_fr hG hF_45 (by decide) k9 v9 (htn_40 k9 v9 h7 (by subst hj1; omega) (ht_35 k9 v9 h7 (by subst hj1; omega) h9)))), show FX S (BXp g lv x.toInt) [13, 14, 34] f f_49 from (by first | assumption | omega | (subst hj1; omega)), show (1 : Int32).toInt = 0 ∨ (1 : Int32).toInt = 1 from (by first | assumption | omega | (subst hj1; omega))⟩) hP hD hQ (Nat.le_of_ble_eq_true rfl) (Nat.le_of_ble_eq_true rfl) dX4_readOne_128
  · refine lv_aload_n hx hb dX4_readOne_7 rfl (lv_at hl 0 rfl) ?_
    refine lv_iconst (v := 1) hx hb dX4_readOne_8 (by decide) ?_
    have hz_53 : (1 : Int32).toInt = 1 := by decide
    refine call_p (va_runV (As := [.int 1]) (rest := []) ⟨hx, hb, hml, hown, hts⟩ (t_X4_fail l D cI cR cM _   hj hG hI  ) (cwV 1 hts gX4_readOne_X4_fail rfl rfl rfl (by decide +kernel) ⟨Nat.le_of_ble_eq_true rfl, Nat.le_of_ble_eq_true rfl⟩) (pre_T hK hP hD (gm_13 hG) fg_1 rfl) rfl rfl hl.1 rfl (lv_room (Nat.le_of_ble_eq_true rfl)) dX4_readOne_9 ⟨Nat.le_of_ble_eq_true rfl, Nat.le_of_ble_eq_true rfl⟩) hD hS hA (fun u_54 H locs hw hP hD hS => ?_)
    obtain ⟨r_54, f_54⟩ := u_54
    obtain ⟨hI, hF_54, h0_54, h01_54⟩ : IN jn cI cR cM g L S f_54 ∧ FR S [13] f f_54 ∧ (r_54.toInt = 0) ∧ (r_54.toInt = 0 ∨ r_54.toInt = 1) := hw
    have hP : va_P D vwCl (va_pl L f_54) H := hP
    have hD : va_D A (va_pl L f_54) := hD
    have hF := FR_tr hF hF_54 (by decide)
    have hFX := FX_trR hFX hF_54 (by decide) (by decide)
    exact g_zret (r_54, f_54) hx hb hr hlocks hS (b01 (by subst hj1; omega)) rfl (⟨hI, hF, show Hd ((r_54.toInt = 1 ∧ OneR cI jn g lv S f_54 ks vs E i x.toInt top one may isO w st op dg st1 op1 dg1) ∨ (r_54.toInt = 0 ∧ Fls ks vs E (i, x.toInt, top, one, may, isO, w, st1, op1, dg1))) from (Or.inr ⟨h0_54, by
      have h8 := (hp_2.resolve_left (fun q9 => by have := q9.1; omega)).2
      obtain ⟨e1, e2⟩ := hbg.resolve_right h8
      rw [e1, e2]
      exact L_none h8⟩), show ∀ k9 v9 : Int, 0 ≤ k9 → k9 < x.toInt → TNf cI g f k9 v9 → TNf cI g f_54 k9 v9 from (fun k9 v9 _ _ h9 => TN_fr hG hF_54 (by decide) k9 v9 h9), show FX S (BXp g lv x.toInt) [13, 14, 34] f f_54 from (by first | assumption | omega | (subst hj1; omega)), show r_54.toInt = 0 ∨ r_54.toInt = 1 from (by first | assumption | omega | (subst hj1; omega))⟩) hP hD hQ (Nat.le_of_ble_eq_true rfl) (Nat.le_of_ble_eq_true rfl) dX4_readOne_12
set_option maxRecDepth 100000 in
set_option maxHeartbeats 4000000 in
theorem t_X4_readSequencem_2 (l : Launch) (D : va_G) (cI cR cM : ClassId) (sz : Nat) {jn : Nat} {g : Nat → Nat} {L : List Nat} {S : Sg} {f : Nat → va_E} {x : Int32} {ks vs : Nat → Int} {i : Nat} {lv gr : Nat → Nat} {E : Env1} {F : Int → Int} {top one : Int} {w st op dg st1 op1 dg1 : Int → Int} (hj : 1 ≤ jn ∧ jn ≤ 3) (hG : SG g L S) (hI : IN jn cI cR cM g L S f) (hj1 : jn = 1) (hC : TKm cI g ks vs f i) (hKO : KO ks vs) (hRD : RDC g lv gr S) (hLv : LvC cR g lv f) (hEC : EnvC cI cR jn g lv gr S f E F) (hEO : EOk E) (hx0 : 0 ≤ x.toInt ∧ x.toInt ≤ 5) (hd : 4 ≤ x.toInt) (hMS : MSb cI jn g lv S f x.toInt top w st op dg) (htop : st x.toInt = top) (hst : ∀ k9 : Int, 0 ≤ k9 → k9 ≤ x.toInt → st1 k9 = st k9) (hop : ∀ k9 : Int, 0 ≤ k9 → k9 < x.toInt → op1 k9 = op k9 ∧ dg1 k9 = dg k9) : Met l yX4_readSequence wsX4_readSequence ({ frames := 6, cells := 0, slots := 0, locals := 179 }) (P0 D cI cR cM [.ref (g 13), .int x] sz (va_pl L f)) (QG (S := Int32 × (Nat → va_E)) (fun u => some (.int u.1)) (fun u => va_pl L u.2) (fun u => IN jn cI cR cM g L S u.2 ∧ FR S [0, 1, 13, 14, 34] f u.2 ∧ (Hd ((u.1.toInt = 1 ∧ SeqR cI jn g lv S u.2 ks vs E i x.toInt top one w st op dg st1 op1 dg1) ∨ (u.1.toInt = 0 ∧ Fls ks vs E (i, x.toInt, top, one, 0, 0, w, st1, op1, dg1)))) ∧ (∀ k9 v9 : Int, 0 ≤ k9 → k9 < x.toInt → TNf cI g f k9 v9 → TNf cI g u.2 k9 v9) ∧ (FX S (BXp g lv x.toInt) [13, 14, 34] f u.2) ∧ (u.1.toInt = 0 ∨ u.1.toInt = 1)) D (va_A (va_pl L f) sz)) 0 0 (va_A (va_pl L f) sz) := by
  refine go (cc := cX4_readSequence) (maxL := 5) (ret := (some .boolean)) (by decide +kernel) rfl (Nat.le_of_ble_eq_true rfl) ?_
  intro p e s m below meth c ls args Q hQ hsz hx hb hr hml hts hown hlocks hnm hP hK hD hl
  subst hsz
  have hD := hD.self (sz := s.heap.size)
  generalize hAe : va_A (va_pl L f) s.heap.size = A at hD hQ
  have hA : ∀ q, s.heap.size ≤ q → A q := fun q h => by rw [← hAe]; exact Or.inr h
  have hS : va_S A s.heap s.heap [] := va_S.rf
  have hFX : FX S (BXp g lv x.toInt) [13, 14, 34] f f := FX_rf
  have hF : FR S [0, 1, 13, 14, 34] f f := FR_rf
  have hl : lv_has ls 5 [(0, .ref (g 13)), (1, .int x)] := hl
  refine lv_iload_n hx hb dX4_readSequence_0 rfl (lv_at hl 1 rfl) ?_
  refine a_if_lt (u := x.toInt) (tgt := 9) hx hb dX4_readSequence_1 (by decide) (rfl) (fun c_1 => absurd c_1 (by subst hj1; omega)) (fun c_1 => ?_)
  refine lv_iload_n hx hb dX4_readSequence_4 rfl (lv_at hl 1 rfl) ?_
  refine lv_iconst (v := 5) hx hb dX4_readSequence_5 (by decide) ?_
  refine a_icmp_le (u := x.toInt) (v := 5) (tgt := 15) hx hb dX4_readSequence_6 (by decide) (rfl) (by decide) (fun c_2 => ?_) (fun c_2 => absurd c_2 (by subst hj1; omega))
  refine lv_aload_n hx hb dX4_readSequence_15 rfl (lv_at hl 0 rfl) ?_
  obtain ⟨fa_3, pl_3, fg_3⟩ := op_13 hI (gm_13 hG) (gs_13 hG)
  refine t_get (D := D) (L := L) (f := f) (ci := 4) (v := .ref (g 22)) (C := RX4) (T := TX4) (N := 11) hx hb hts (by decide +kernel) hown hK.1 hP (gm_13 hG) fg_3 rfl 3 (by decide) (hts (.fieldLink RX4 13 "JugglingHall$Reader" "levels" "[LJugglingHall$Row;") (by decide +kernel)) (fun _ h9 => h9) rfl dX4_readSequence_16 ?_
  refine lv_iload_n hx hb dX4_readSequence_19 rfl (lv_at hl 1 rfl) ?_
  obtain ⟨c_4, fg_4, iv0_4⟩ := op_22 hI (gm_22 hG) (gs_22 hG)
  refine t_aald (L := L) (f := f) (y := c_4) (u := x.toInt) hx hb hK.1 hP (gm_22 hG) 1 fg_4 rfl dX4_readSequence_20 (rfl) (by subst hj1; omega) (fun w_5 q_5 => ?_)
  obtain ⟨r_5, p_5, n_5, er_5, m_5, s_5⟩ := iv0_4 x.toInt (by subst hj1; omega) (by subst hj1; omega)
  have q_5 := q_5.trans er_5
  subst q_5
  refine W.eq (g2 := F0 m 21 ls [.ref r_5]) rfl ?_
  have hh_5 : r_5 = lv x.toInt.toNat := LvC_at (l := x.toInt) hLv fg_4 (by subst hj1; omega) (by subst hj1; omega) (by rw [show x.toInt = x.toInt by omega]; exact er_5)
  have hN_5 := cap_of (S := S) (a := r_5) (k := 48) (by rw [hh_5]; exact (hRD.2.1 _ (by subst hj1; omega)).1) s_5
  obtain ⟨len_6, fg_6, v1_6, v2_6, v3_6, mp_6, sp_6⟩ := op_0 hI m_5 s_5
  obtain ⟨w1_6, w2_6, w3_6, w4_6, w5_6⟩ := lenw hj v1_6 v2_6 v3_6
  obtain ⟨c_7, fg_7, iv0_7⟩ := op_1 hI mp_6 sp_6
  refine lv_astore_n (lv' := [(2, .ref r_5), (0, .ref (g 13)), (1, .int x)]) hx hb dX4_readSequence_21 rfl hl (by decide) rfl (fun ls hl => ?_)
  refine lv_aload_n hx hb dX4_readSequence_22 rfl (lv_at hl 0 rfl) ?_
  refine lv_iconst (v := 0) hx hb dX4_readSequence_23 (by decide) ?_
  have hz_9 : (0 : Int32).toInt = 0 := by decide
  refine t_putN (D := D) (L := L) (f := f) (ci := 5) (v := .int 0) (ty := .int) (C := RX5) (T := TX5) (N := 4) (host := "JugglingHall") hx hb hts (by decide +kernel) tyX5 tyX5_ok nmX5 hown hK.1 hP hD hS m_5 fg_6 rfl 3 (by decide) (hK.nw (.fieldLinkNest RX4 62 "JugglingHall$Row" "length" "I" "JugglingHall") (by decide +kernel) rfl) (fun _ h9 => h9) rfl (by decide +kernel) rfl rfl (Nat.le_of_ble_eq_true rfl) dX4_readSequence_24 (fun f_8 H locs e9_8 o_8 hP hD hS => ?_)
  have fa_8 : f_8 r_5 = .inr (5, [.int (nI jn), .int (nI (2 * jn)), .ref p_5, .int 0]) := e9_8
  have hI := IN_set (e := .inr (5, [.int (nI jn), .int (nI (2 * jn)), .ref p_5, .int 0])) hI s_5 (mk_0 (by first | assumption | omega | (subst hj1; omega)) (by rw [show (0 : Int32).toInt = 0 from rfl, Int.zero_mul]; omega) (by first | assumption | omega | (subst hj1; omega)) (by first | assumption | omega | (subst hj1; omega)) (by first | assumption | omega | (subst hj1; omega))) fa_8 o_8
  have hF := FR_set hF s_5 (show (0 : Nat) ∈ ([0, 1, 13, 14, 34] : List Nat) by decide) o_8
  have hFX := FX_set0 hFX s_5 (Or.inl ⟨x.toInt.toNat, Nat.le_refl _, by omega, hh_5⟩) o_8
  have fb_10 : f_8 (g 13) = .inr (4, [.int (nI jn), .ref (g 14), .ref (g 12), .ref (g 22), .ref (g 34), .ref (g 23), .ref (g 24), .ref (g 25), .ref (g 26), .int fa_3, .int pl_3]) := f_at o_8 (S_ne (gs_13 hG) s_5 (show (13 : Nat) ≠ 0 by decide)) fg_3
  have fb_11 : f_8 (g 22) = .inl (cR, 6, .inr (.inr (.inr (.inr c_4)))) := f_at o_8 (S_ne (gs_22 hG) s_5 (show (22 : Nat) ≠ 0 by decide)) fg_4
  have fb_12 : f_8 p_5 = .inl (cI, n_5, .inl c_7) := f_at o_8 (S_ne sp_6 s_5 (show (1 : Nat) ≠ 0 by decide)) fg_7
  have hC1 : TKm cI g ks vs f_8 i := TKm_o hC hG s_5 (show (0 : Nat) ∉ ([14, 31, 32] : List Nat) by decide) o_8
  have hLv1 := LvC_fr hLv hG hF (by decide)
  have hEC1 := EnvC_fx hEC hG hF hFX (by decide) (by decide) (nb_gr hRD) nb_nr
  have htl1 : ∀ k9 v9 : Int, 0 ≤ k9 → k9 < x.toInt → TNf cI g f k9 v9 → TNf cI g f_8 k9 v9 := fun k9 v9 _ _ h9 => TN_o hG s_5 (show (0 : Nat) ≠ 34 by decide) o_8 k9 v9 h9
  have hM1 : MSt cI jn g lv S f_8 x.toInt top w st op dg := ⟨MSb_fx hMS hFX (by decide) (nb_lv hRD (by subst hj1; omega)) htl1 (fun _ _ _ => rfl) (by subst hj1; omega) hMS.2.2.2.2, by omega, RWf_e (b := r_5) ⟨_, _, _, _, s_5, sp_6, fa_8, fb_12, by rw [show (0 : Int32).toInt = 0 from rfl]; omega, fun i9 h8 h9 => absurd h9 (by subst hj1; omega)⟩ hh_5.symm⟩
  refine lv_iconst (v := 0) hx hb dX4_readSequence_27 (by decide) ?_
  refine lv_istore_n (lv' := [(3, .int 0), (2, .ref r_5), (0, .ref (g 13)), (1, .int x)]) hx hb dX4_readSequence_28 rfl hl (by decide) rfl (fun ls hl => ?_)
  have loop29 : ∀ (ddloop29 : Nat) (ii : Int32) (f_13 : Nat → va_E) (H : Heap) (locs : List Loc) (ls : Array Slot), (400 - ii.toInt).toNat < ddloop29 → IN jn cI cR cM g L S f_13 → FR S [0, 1, 13, 14, 34] f f_13 → (0 ≤ ii.toInt ∧ ii.toInt ≤ 301) → (Hd (∃ (i2 : Nat) (top2 one2 may2 isO2 : Int) (w2 st2 op2 dg2 : Int → Int), SeqI cI jn g lv S f_13 ks vs E i x.toInt top one w st op dg st1 op1 dg1 ii.toInt i2 top2 one2 may2 isO2 w2 st2 op2 dg2)) → (LvC cR g lv f_13) → (EnvC cI cR jn g lv gr S f_13 E F) → (∀ k9 v9 : Int, 0 ≤ k9 → k9 < x.toInt → TNf cI g f k9 v9 → TNf cI g f_13 k9 v9) → (FX S (BXp g lv x.toInt) [13, 14, 34] f f_13) → va_P D vwCl (va_pl L f_13) H → va_D A (va_pl L f_13) → va_S A s.heap H locs → lv_has ls 5 [(0, .ref (g 13)), (1, .int x), (2, .ref r_5), (3, .int ii)] → W p l e ({ frames := 6, cells := 0, slots := 0, locals := 179 }) s m args below meth c H locs (0) (0) Q (F0 m 29 ls []) := by
    intro ddloop29
    induction ddloop29 with
    | zero =>
      intro ii f_13 H locs ls hdd
      exact absurd hdd (Nat.not_lt_zero _)
    | succ ddloop29 ih29 =>
      intro ii f_13 H locs ls hdd hI hF hi hSI hLvl hECl htl hFX hP hD hS hl
      obtain ⟨i2, top2, one2, may2, isO2, w2, st2, op2, dg2, j1, j2, j3, j4, j5, j6, j7, j8, j9⟩ := hSI
      have hst0 := (hMS.2.1 x.toInt (by subst hj1; omega) (Int.le_refl _)).1
      have htl0 := j3.1.2.2.2.1
      refine lv_iload_n hx hb dX4_readSequence_29 rfl (lv_at hl 3 rfl) ?_
      refine lv_sipush (v := 300) hx hb dX4_readSequence_30 (by decide) ?_
      refine a_icmp_gt (u := ii.toInt) (v := 300) (tgt := 79) hx hb dX4_readSequence_33 (by decide) (rfl) (by decide) (fun c_14 => ?_) (fun c_14 => ?_)
      · refine lv_iconst (v := 1) hx hb dX4_readSequence_79 (by decide) ?_
        have hz_15 : (1 : Int32).toInt = 1 := by decide
        exact g_zret ((1 : Int32), f_13) hx hb hr hlocks hS (by first | exact Or.inl rfl | exact Or.inr rfl) rfl (⟨hI, hF, show Hd (((1 : Int32).toInt = 1 ∧ SeqR cI jn g lv S f_13 ks vs E i x.toInt top one w st op dg st1 op1 dg1) ∨ ((1 : Int32).toInt = 0 ∧ Fls ks vs E (i, x.toInt, top, one, 0, 0, w, st1, op1, dg1))) from (by
          obtain ⟨e1, e2, e3, e4⟩ := j8.resolve_left (fun q9 => by have := q9.1; omega)
          rw [e2] at j1
          exact Or.inl ⟨rfl, ii.toInt, i2, top2, one2, may2, w2, st2, op2, dg2, ⟨j1, j2, j3, j4, j5, j6, j7, Or.inr ⟨e1, rfl, e3, e4⟩, j9⟩, e1, by have := TKm_end j2 (by subst hj1; omega); omega⟩), show ∀ k9 v9 : Int, 0 ≤ k9 → k9 < x.toInt → TNf cI g f k9 v9 → TNf cI g f_13 k9 v9 from (htl), show FX S (BXp g lv x.toInt) [13, 14, 34] f f_13 from (by first | assumption | omega | (subst hj1; omega)), show (1 : Int32).toInt = 0 ∨ (1 : Int32).toInt = 1 from (by first | assumption | omega | (subst hj1; omega))⟩) hP hD hQ (Nat.le_of_ble_eq_true rfl) (Nat.le_of_ble_eq_true rfl) dX4_readSequence_80
      · refine lv_iload_n hx hb dX4_readSequence_36 rfl (lv_at hl 3 rfl) ?_
        refine a_if_eq (u := ii.toInt) (tgt := 47) hx hb dX4_readSequence_37 (by decide) (rfl) (fun c_16 => ?_) (fun c_16 => ?_)
        · refine lv_aload_n hx hb dX4_readSequence_47 rfl (lv_at hl 2 rfl) ?_
          have hRl := RWf_e j3.2.2 hh_5
          obtain ⟨len_17, fg_17, v1_17, v2_17, v3_17, mp_17, sp_17⟩ := op_0 hI m_5 s_5
          obtain ⟨w1_17, w2_17, w3_17, w4_17, w5_17⟩ := lenw hj v1_17 v2_17 v3_17
          obtain ⟨c_18, fg_18, iv0_18⟩ := op_1 hI mp_6 sp_6
          obtain ⟨hl_19, hc_19⟩ := RWf_at hRl s_5 fg_17 fg_18
          refine t_getN (D := D) (L := L) (f := f_13) (ci := 5) (v := .int len_17) (C := RX5) (T := TX5) (N := 4) (host := "JugglingHall") hx hb hts (by decide +kernel) hown hK.1 hP m_5 fg_17 rfl 3 (by decide) (hK.nw (.fieldLinkNest RX4 62 "JugglingHall$Row" "length" "I" "JugglingHall") (by decide +kernel) rfl) (fun _ h9 => h9) rfl dX4_readSequence_48 ?_
          refine lv_istore (lv' := [(4, .int len_17), (0, .ref (g 13)), (1, .int x), (2, .ref r_5), (3, .int ii)]) hx hb dX4_readSequence_51 hl (by decide) rfl (fun ls hl => ?_)
          refine lv_aload_n hx hb dX4_readSequence_53 rfl (lv_at hl 1 rfl) ?_
          refine lv_iload_n hx hb dX4_readSequence_54 rfl (lv_at hl 2 rfl) ?_
          obtain ⟨fa_20, pl_20, fg_20⟩ := op_13 hI (gm_13 hG) (gs_13 hG)
          refine call_p (va_runV (As := [.int x]) (rest := []) ⟨hx, hb, hml, hown, hts⟩ (t_X4_readOnem_2 l D cI cR cM _ (i := i2) (top := top2) (one := one2) (may := may2) (isO := isO2) (w := w2) (st := st) (op := op) (dg := dg) (st1 := st2) (op1 := op2) (dg1 := dg2) (lv := lv) (gr := gr) (E := E) (F := F) (ks := ks) (vs := vs)  hj hG hI  (by first | assumption | omega | (subst hj1; omega)) (j2) (by first | assumption | omega | (subst hj1; omega)) (by first | assumption | omega | (subst hj1; omega)) (hLvl) (hECl) (by first | assumption | omega | (subst hj1; omega)) (by first | assumption | omega | (subst hj1; omega)) (by first | assumption | omega | (subst hj1; omega)) (j3) (j4) (j5) (j7) (Or.inl (j8.elim (fun q9 => ⟨q9.2.1, q9.2.2.1⟩) (fun q9 => by have := q9.1; omega)))) (cwV 1 hts gX4_readSequence_X4_readOne rfl rfl rfl (by decide +kernel) ⟨Nat.le_of_ble_eq_true rfl, Nat.le_of_ble_eq_true rfl⟩) (pre_T hK hP hD (gm_13 hG) fg_20 rfl) rfl rfl hl.1 rfl (lv_room (Nat.le_of_ble_eq_true rfl)) dX4_readSequence_55 ⟨Nat.le_of_ble_eq_true rfl, Nat.le_of_ble_eq_true rfl⟩) hD hS hA (fun u_21 H locs hw hP hD hS => ?_)
          obtain ⟨r_21, f_21⟩ := u_21
          obtain ⟨hI, hF_21, hp_21, htn_21, hfx_21, h01_21⟩ : IN jn cI cR cM g L S f_21 ∧ FR S [0, 1, 13, 14, 34] f_13 f_21 ∧ (Hd ((r_21.toInt = 1 ∧ OneR cI jn g lv S f_21 ks vs E i2 x.toInt top2 one2 may2 isO2 w2 st op dg st2 op2 dg2) ∨ (r_21.toInt = 0 ∧ Fls ks vs E (i2, x.toInt, top2, one2, may2, isO2, w2, st2, op2, dg2)))) ∧ (∀ k9 v9 : Int, 0 ≤ k9 → k9 < x.toInt → TNf cI g f_13 k9 v9 → TNf cI g f_21 k9 v9) ∧ (FX S (BXp g lv x.toInt) [13, 14, 34] f_13 f_21) ∧ (r_21.toInt = 0 ∨ r_21.toInt = 1) := hw
          have hP : va_P D vwCl (va_pl L f_21) H := hP
          have hD : va_D A (va_pl L f_21) := hD
          have hF := FR_tr hF hF_21 (by decide)
          have hFX := FX_tr hFX hfx_21 (fun _ h9 => h9) (by decide)
          refine a_if_eq (u := r_21.toInt) (tgt := 71) hx hb dX4_readSequence_58 (by decide) (rfl) (fun c_22 => ?_) (fun c_22 => ?_)
          · refine lv_iconst (v := 0) hx hb dX4_readSequence_71 (by decide) ?_
            have hz_23 : (0 : Int32).toInt = 0 := by decide
            exact g_zret ((0 : Int32), f_21) hx hb hr hlocks hS (by first | exact Or.inl rfl | exact Or.inr rfl) rfl (⟨hI, hF, show Hd (((0 : Int32).toInt = 1 ∧ SeqR cI jn g lv S f_21 ks vs E i x.toInt top one w st op dg st1 op1 dg1) ∨ ((0 : Int32).toInt = 0 ∧ Fls ks vs E (i, x.toInt, top, one, 0, 0, w, st1, op1, dg1))) from (Or.inr ⟨rfl, Fls_tr j1 (hp_21.resolve_left (fun q9 => by have := q9.1; omega)).2⟩), show ∀ k9 v9 : Int, 0 ≤ k9 → k9 < x.toInt → TNf cI g f k9 v9 → TNf cI g f_21 k9 v9 from (fun k9 v9 h7 h8 h9 => htn_21 k9 v9 h7 h8 (htl k9 v9 h7 h8 h9)), show FX S (BXp g lv x.toInt) [13, 14, 34] f f_21 from (by first | assumption | omega | (subst hj1; omega)), show (0 : Int32).toInt = 0 ∨ (0 : Int32).toInt = 1 from (by first | assumption | omega | (subst hj1; omega))⟩) hP hD hQ (Nat.le_of_ble_eq_true rfl) (Nat.le_of_ble_eq_true rfl) dX4_readSequence_72
          · obtain ⟨-, i3_, top3_, w3_, st3_, op3_, dg3_, j1_, j2_, j3_, j4_, j5_, j6_, j7_, j8_⟩ := hp_21.resolve_right (fun q9 => by have := q9.1; omega)
            have hLv2 := LvC_fr hLvl hG hF_21 (by decide)
            have hEC2 := EnvC_fx hECl hG hF_21 hfx_21 (by decide) (by decide) (nb_gr hRD) nb_nr
            have htl2 := j5_.1.2.2.2.1
            refine lv_aload_n hx hb dX4_readSequence_61 rfl (lv_at hl 1 rfl) ?_
            refine lv_aload_n hx hb dX4_readSequence_62 rfl (lv_at hl 3 rfl) ?_
            refine lv_iload hx hb dX4_readSequence_63 (lv_at hl 0 rfl) ?_
            have hRo := RWf_e j5_.2.2 hh_5
            have hlf : len_17.toInt = top2 - st x.toInt := hl_19
            obtain ⟨len_24, fg_24, v1_24, v2_24, v3_24, mp_24, sp_24⟩ := op_0 hI m_5 s_5
            obtain ⟨w1_24, w2_24, w3_24, w4_24, w5_24⟩ := lenw hj v1_24 v2_24 v3_24
            obtain ⟨c_25, fg_25, iv0_25⟩ := op_1 hI mp_6 sp_6
            obtain ⟨hl_26, hc_26⟩ := RWf_at hRo s_5 fg_24 fg_25
            obtain ⟨fa_27, pl_27, fg_27⟩ := op_13 hI (gm_13 hG) (gs_13 hG)
            refine call_p (va_runV (As := [.ref r_5, .int len_17]) (rest := []) ⟨hx, hb, hml, hown, hts⟩ (t_X4_readTimesm l D cI cR cM _ (ks := ks) (vs := vs) (i := i3_) (w := (fun j => w3_ (2 * st x.toInt + j)))  hj hG hI m_5 s_5 fg_24 fg_25 (by first | assumption | omega | (subst hj1; omega)) (j4_) (by first | assumption | omega | (subst hj1; omega)) (by subst hj1; omega) (by rw [hl_26]; exact hc_26)) (cwV 2 hts gX4_readSequence_X4_readTimes rfl rfl rfl (by decide +kernel) ⟨Nat.le_of_ble_eq_true rfl, Nat.le_of_ble_eq_true rfl⟩) (pre_T hK hP hD (gm_13 hG) fg_27 rfl) rfl rfl hl.1 rfl (lv_room (Nat.le_of_ble_eq_true rfl)) dX4_readSequence_65 ⟨Nat.le_of_ble_eq_true rfl, Nat.le_of_ble_eq_true rfl⟩) hD hS hA (fun u_28 H locs hw hP hD hS => ?_)
            obtain ⟨r_28, f_28⟩ := u_28
            obtain ⟨hI, hF_28, hp_28, hfx_28, h01_28⟩ : IN jn cI cR cM g L S f_28 ∧ FR S [0, 1, 13, 14] f_21 f_28 ∧ ((r_28.toInt = 1 ∧ ((ks i3_ ≠ 42 ∧ TKm cI g ks vs f_28 i3_ ∧ RWf cI jn S f_28 r_5 len_24.toInt (fun j => w3_ (2 * st x.toInt + j))) ∨ (ks i3_ = 42 ∧ ks (i3_ + 1) = 1 ∧ vs (i3_ + 1) ≠ 0 ∧ TKm cI g ks vs f_28 (i3_ + 1 + 1) ∧ 2 * (len_24.toInt + (vs (i3_ + 1) - 1) * (len_24.toInt - len_17.toInt)) ≤ (n_5 : Int) ∧ RWf cI jn S f_28 r_5 (len_24.toInt + (vs (i3_ + 1) - 1) * (len_24.toInt - len_17.toInt)) (tmW (fun j => w3_ (2 * st x.toInt + j)) len_24.toInt len_17.toInt)))) ∨ (r_28.toInt = 0 ∧ ks i3_ = 42 ∧ ¬ (ks (i3_ + 1) = 1 ∧ vs (i3_ + 1) ≠ 0 ∧ 2 * (len_24.toInt + (vs (i3_ + 1) - 1) * (len_24.toInt - len_17.toInt)) ≤ (n_5 : Int)))) ∧ (FX S (fun a9 => a9 = r_5) [13, 14] f_21 f_28) ∧ (r_28.toInt = 0 ∨ r_28.toInt = 1) := hw
            have hP : va_P D vwCl (va_pl L f_28) H := hP
            have hD : va_D A (va_pl L f_28) := hD
            have hF := FR_tr hF hF_28 (by decide)
            have hFX := FX_tr hFX hfx_28 (fun a9 h9 => Or.inl ⟨x.toInt.toNat, Nat.le_refl _, by omega, h9.trans hh_5⟩) (by decide)
            refine a_if_ne (u := r_28.toInt) (tgt := 73) hx hb dX4_readSequence_68 (by decide) (rfl) (fun c_29 => ?_) (fun c_29 => ?_)
            · obtain ⟨z_30, q_30, e_30⟩ := i_inc (a := ii.toInt) (1) (rfl) (by decide) (by subst hj1; omega) (by subst hj1; omega)
              refine lv_iinc (v := z_30) (lv' := [(3, .int z_30), (4, .int len_17), (0, .ref (g 13)), (1, .int x), (2, .ref r_5)]) hx hb dX4_readSequence_73 hl (k := 4) rfl q_30 (by decide) rfl (fun ls hl => ?_)
              refine lv_goto (tgt := 29) hx hb dX4_readSequence_76 (by decide) ?_
              exact ih29 z_30 f_28 _ _ _ (by subst hj1; omega) hI hF (by first | assumption | omega | (subst hj1; omega)) (by
                rw [hl_26] at hp_28
                rw [hlf] at hp_28
                obtain ⟨-, h9⟩ := hp_28.resolve_right (fun q9 => by have := q9.1; omega)
                rcases h9 with ⟨h1, h2, h3⟩ | ⟨h1, h2, h3, h4, h5, h6⟩
                · exact ⟨i3_, top3_, top2, 1, 1, w3_, st3_, op3_, dg3_, Go_tr j1 j1_, h2, ⟨MSb_rf j5_.1 hfx_28 (by decide) (fun k9 h8 h7 q9 => (hRD.2.2.2.2.1 k9.toNat x.toInt.toNat (by subst hj1; omega) (by subst hj1; omega) (by subst hj1; omega)) (q9.trans hh_5)) (fun k9 v9 _ _ h9 => TN_fr hG hF_28 (by decide) k9 v9 h9), j5_.2.1, RWf_e h3 hh_5.symm⟩, j6_, j7_, fun j9 h8 h9 => by rw [j8_ j9 h8 h9]; exact j6 j9 h8 h9, fun q9 => h1 q9.2, Or.inr ⟨by omega, rfl, by omega, by omega⟩, by omega⟩
                · rw [show top3_ - st x.toInt - (top2 - st x.toInt) = top3_ - top2 by omega] at h5 h6
                  have h6 := RWf_e h6 hh_5.symm
                  obtain ⟨q1, q2, q3⟩ := L_times (E := E) (i := i3_) (one := top2) (isO := 1) (op1 := op3_) (dg1 := dg3_) (may := 1) j5_ (fun top9 w9 q1 q2 q3 => MSb_fx j5_.1 hfx_28 (by decide) (fun k9 h8 h7 q9 => (hRD.2.2.2.2.1 k9.toNat x.toInt.toNat (by subst hj1; omega) (by subst hj1; omega) (by subst hj1; omega)) (q9.trans hh_5)) (fun k9 v9 _ _ h9 => TN_fr hG hF_28 (by decide) k9 v9 h9) q1 q2 q3) rfl (j6_ _ (by subst hj1; omega) (Int.le_refl _)) h1 h2 h3 (by have := (hKO (i3_ + 1)).2.1 h2; omega) (by subst hj1; omega) (by subst hj1; omega) h6
                  have hm0 : 0 ≤ (vs (i3_ + 1) - 1) * (top3_ - top2) := Int.mul_nonneg (by have := (hKO (i3_ + 1)).2.1 h2; omega) (by subst hj1; omega)
                  exact ⟨i3_ + 2, _, top2, 0, 1, _, st3_, op3_, dg3_, Go_tr j1 (Go_tr j1_ (Go_1 q1)), h4, q2, j6_, j7_, fun j9 h8 h9 => (q3 j9 h8 h9).trans ((j8_ j9 h8 h9).trans (j6 j9 h8 h9)), fun q9 => absurd q9.1 (by decide), Or.inr ⟨by omega, rfl, by omega, by omega⟩, by omega⟩) (LvC_fr hLv2 hG hF_28 (by decide)) (EnvC_fx hEC2 hG hF_28 hfx_28 (by decide) (by decide) (fun k9 h9 q9 => hRD.2.2.2.1 x.toInt.toNat k9 (by subst hj1; omega) h9 (hh_5.symm.trans q9.symm)) (fun r9 h9 q9 => h9 (Or.inl ⟨x.toInt.toNat, by omega, q9.trans hh_5⟩))) (fun k9 v9 h7 h8 h9 => TN_fr hG hF_28 (by decide) k9 v9 (htn_21 k9 v9 h7 h8 (htl k9 v9 h7 h8 h9))) (by first | assumption | omega | (subst hj1; omega)) hP hD hS (lv_sub hl [2, 3, 4, 0] rfl)
            · refine lv_iconst (v := 0) hx hb dX4_readSequence_71 (by decide) ?_
              have hz_31 : (0 : Int32).toInt = 0 := by decide
              exact g_zret ((0 : Int32), f_28) hx hb hr hlocks hS (by first | exact Or.inl rfl | exact Or.inr rfl) rfl (⟨hI, hF, show Hd (((0 : Int32).toInt = 1 ∧ SeqR cI jn g lv S f_28 ks vs E i x.toInt top one w st op dg st1 op1 dg1) ∨ ((0 : Int32).toInt = 0 ∧ Fls ks vs E (i, x.toInt, top, one, 0, 0, w, st1, op1, dg1))) from (by
                rw [hl_26] at hp_28
                rw [hlf] at hp_28
                obtain ⟨-, h1, h2⟩ := hp_28.resolve_left (fun q9 => by have := q9.1; omega)
                refine Or.inr ⟨rfl, Fls_tr (Go_tr j1 j1_) (Fls_0 (F_times rfl h1 ?_))⟩
                rw [j6_ _ (by subst hj1; omega) (Int.le_refl _)]
                rw [show top3_ - st x.toInt - (top2 - st x.toInt) = top3_ - top2 by omega] at h2
                exact fun q9 => h2 ⟨q9.1, q9.2.1, by have := q9.2.2; omega⟩), show ∀ k9 v9 : Int, 0 ≤ k9 → k9 < x.toInt → TNf cI g f k9 v9 → TNf cI g f_28 k9 v9 from (fun k9 v9 h7 h8 h9 => TN_fr hG hF_28 (by decide) k9 v9 (htn_21 k9 v9 h7 h8 (htl k9 v9 h7 h8 h9))), show FX S (BXp g lv x.toInt) [13, 14, 34] f f_28 from (by first | assumption | omega | (subst hj1; omega)), show (0 : Int32).toInt = 0 ∨ (0 : Int32).toInt = 1 from (by first | assumption | omega | (subst hj1; omega))⟩) hP hD hQ (Nat.le_of_ble_eq_true rfl) (Nat.le_of_ble_eq_true rfl) dX4_readSequence_72
        · refine lv_aload_n hx hb dX4_readSequence_40 rfl (lv_at hl 0 rfl) ?_
          obtain ⟨fa_32, pl_32, fg_32⟩ := op_13 hI (gm_13 hG) (gs_13 hG)
          refine roP (va_runV (As := []) (rest := []) ⟨hx, hb, hml, hown, hts⟩ (t_X4_beginsOnem l D cI cR cM _ (ks := ks) (vs := vs) (i := i2)  hj hG hI  (by first | assumption | omega | (subst hj1; omega)) (j2) (by first | assumption | omega | (subst hj1; omega))) (cwV 0 hts gX4_readSequence_X4_beginsOne rfl rfl rfl (by decide +kernel) ⟨Nat.le_of_ble_eq_true rfl, Nat.le_of_ble_eq_true rfl⟩) (pre_T hK hP hD (gm_13 hG) fg_32 rfl) rfl rfl hl.1 rfl (lv_room (Nat.le_of_ble_eq_true rfl)) dX4_readSequence_41 ⟨Nat.le_of_ble_eq_true rfl, Nat.le_of_ble_eq_true rfl⟩) hS hA hP (fun r_33 H locs hw hP hS => ?_)
          obtain ⟨hp_33, h01_33⟩ : ((r_33.toInt = 1 ∧ (ks i2 = 1 ∨ ks i2 = 2 ∨ ks i2 = 91 ∨ ks i2 = 40 ∨ (7 ≤ ks i2 ∧ ks i2 ≤ 10))) ∨ (r_33.toInt = 0 ∧ ¬ (ks i2 = 1 ∨ ks i2 = 2 ∨ ks i2 = 91 ∨ ks i2 = 40 ∨ (7 ≤ ks i2 ∧ ks i2 ≤ 10)))) ∧ (r_33.toInt = 0 ∨ r_33.toInt = 1) := hw
          refine a_if_eq (u := r_33.toInt) (tgt := 79) hx hb dX4_readSequence_44 (by decide) (rfl) (fun c_34 => ?_) (fun c_34 => ?_)
          · refine lv_iconst (v := 1) hx hb dX4_readSequence_79 (by decide) ?_
            have hz_35 : (1 : Int32).toInt = 1 := by decide
            exact g_zret ((1 : Int32), f_13) hx hb hr hlocks hS (by first | exact Or.inl rfl | exact Or.inr rfl) rfl (⟨hI, hF, show Hd (((1 : Int32).toInt = 1 ∧ SeqR cI jn g lv S f_13 ks vs E i x.toInt top one w st op dg st1 op1 dg1) ∨ ((1 : Int32).toInt = 0 ∧ Fls ks vs E (i, x.toInt, top, one, 0, 0, w, st1, op1, dg1))) from (by
              obtain ⟨e1, e2, e3, e4⟩ := j8.resolve_left (fun q9 => by have := q9.1; omega)
              rw [e2] at j1
              exact Or.inl ⟨rfl, ii.toInt, i2, top2, one2, may2, w2, st2, op2, dg2, ⟨j1, j2, j3, j4, j5, j6, j7, Or.inr ⟨e1, rfl, e3, e4⟩, j9⟩, e1, (hp_33.resolve_left (fun q9 => by have := q9.1; omega)).2⟩), show ∀ k9 v9 : Int, 0 ≤ k9 → k9 < x.toInt → TNf cI g f k9 v9 → TNf cI g f_13 k9 v9 from (htl), show FX S (BXp g lv x.toInt) [13, 14, 34] f f_13 from (by first | assumption | omega | (subst hj1; omega)), show (1 : Int32).toInt = 0 ∨ (1 : Int32).toInt = 1 from (by first | assumption | omega | (subst hj1; omega))⟩) hP hD hQ (Nat.le_of_ble_eq_true rfl) (Nat.le_of_ble_eq_true rfl) dX4_readSequence_80
          · refine lv_aload_n hx hb dX4_readSequence_47 rfl (lv_at hl 2 rfl) ?_
            have hRl := RWf_e j3.2.2 hh_5
            obtain ⟨len_36, fg_36, v1_36, v2_36, v3_36, mp_36, sp_36⟩ := op_0 hI m_5 s_5
            obtain ⟨w1_36, w2_36, w3_36, w4_36, w5_36⟩ := lenw hj v1_36 v2_36 v3_36
            obtain ⟨c_37, fg_37, iv0_37⟩ := op_1 hI mp_6 sp_6
            obtain ⟨hl_38, hc_38⟩ := RWf_at hRl s_5 fg_36 fg_37
            refine t_getN (D := D) (L := L) (f := f_13) (ci := 5) (v := .int len_36) (C := RX5) (T := TX5) (N := 4) (host := "JugglingHall") hx hb hts (by decide +kernel) hown hK.1 hP m_5 fg_36 rfl 3 (by decide) (hK.nw (.fieldLinkNest RX4 62 "JugglingHall$Row" "length" "I" "JugglingHall") (by decide +kernel) rfl) (fun _ h9 => h9) rfl dX4_readSequence_48 ?_
            refine lv_istore (lv' := [(4, .int len_36), (0, .ref (g 13)), (1, .int x), (2, .ref r_5), (3, .int ii)]) hx hb dX4_readSequence_51 hl (by decide) rfl (fun ls hl => ?_)
            refine lv_aload_n hx hb dX4_readSequence_53 rfl (lv_at hl 1 rfl) ?_
            refine lv_iload_n hx hb dX4_readSequence_54 rfl (lv_at hl 2 rfl) ?_
            refine call_p (va_runV (As := [.int x]) (rest := []) ⟨hx, hb, hml, hown, hts⟩ (t_X4_readOnem_2 l D cI cR cM _ (i := i2) (top := top2) (one := one2) (may := may2) (isO := isO2) (w := w2) (st := st) (op := op) (dg := dg) (st1 := st2) (op1 := op2) (dg1 := dg2) (lv := lv) (gr := gr) (E := E) (F := F) (ks := ks) (vs := vs)  hj hG hI  (by first | assumption | omega | (subst hj1; omega)) (j2) (by first | assumption | omega | (subst hj1; omega)) (by first | assumption | omega | (subst hj1; omega)) (hLvl) (hECl) (by first | assumption | omega | (subst hj1; omega)) (by first | assumption | omega | (subst hj1; omega)) (by first | assumption | omega | (subst hj1; omega)) (j3) (j4) (j5) (j7) (Or.inr (hp_33.resolve_right (fun q9 => by have := q9.1; omega)).2)) (cwV 1 hts gX4_readSequence_X4_readOne rfl rfl rfl (by decide +kernel) ⟨Nat.le_of_ble_eq_true rfl, Nat.le_of_ble_eq_true rfl⟩) (pre_T hK hP hD (gm_13 hG) fg_32 rfl) rfl rfl hl.1 rfl (lv_room (Nat.le_of_ble_eq_true rfl)) dX4_readSequence_55 ⟨Nat.le_of_ble_eq_true rfl, Nat.le_of_ble_eq_true rfl⟩) hD hS hA (fun u_39 H locs hw hP hD hS => ?_)
            obtain ⟨r_39, f_39⟩ := u_39
            obtain ⟨hI, hF_39, hp_39, htn_39, hfx_39, h01_39⟩ : IN jn cI cR cM g L S f_39 ∧ FR S [0, 1, 13, 14, 34] f_13 f_39 ∧ (Hd ((r_39.toInt = 1 ∧ OneR cI jn g lv S f_39 ks vs E i2 x.toInt top2 one2 may2 isO2 w2 st op dg st2 op2 dg2) ∨ (r_39.toInt = 0 ∧ Fls ks vs E (i2, x.toInt, top2, one2, may2, isO2, w2, st2, op2, dg2)))) ∧ (∀ k9 v9 : Int, 0 ≤ k9 → k9 < x.toInt → TNf cI g f_13 k9 v9 → TNf cI g f_39 k9 v9) ∧ (FX S (BXp g lv x.toInt) [13, 14, 34] f_13 f_39) ∧ (r_39.toInt = 0 ∨ r_39.toInt = 1) := hw
            have hP : va_P D vwCl (va_pl L f_39) H := hP
            have hD : va_D A (va_pl L f_39) := hD
            have hF := FR_tr hF hF_39 (by decide)
            have hFX := FX_tr hFX hfx_39 (fun _ h9 => h9) (by decide)
            refine a_if_eq (u := r_39.toInt) (tgt := 71) hx hb dX4_readSequence_58 (by decide) (rfl) (fun c_40 => ?_) (fun c_40 => ?_)
            · refine lv_iconst (v := 0) hx hb dX4_readSequence_71 (by decide) ?_
              have hz_41 : (0 : Int32).toInt = 0 := by decide
              exact g_zret ((0 : Int32), f_39) hx hb hr hlocks hS (by first | exact Or.inl rfl | exact Or.inr rfl) rfl (⟨hI, hF, show Hd (((0 : Int32).toInt = 1 ∧ SeqR cI jn g lv S f_39 ks vs E i x.toInt top one w st op dg st1 op1 dg1) ∨ ((0 : Int32).toInt = 0 ∧ Fls ks vs E (i, x.toInt, top, one, 0, 0, w, st1, op1, dg1))) from (Or.inr ⟨rfl, Fls_tr j1 (hp_39.resolve_left (fun q9 => by have := q9.1; omega)).2⟩), show ∀ k9 v9 : Int, 0 ≤ k9 → k9 < x.toInt → TNf cI g f k9 v9 → TNf cI g f_39 k9 v9 from (fun k9 v9 h7 h8 h9 => htn_39 k9 v9 h7 h8 (htl k9 v9 h7 h8 h9)), show FX S (BXp g lv x.toInt) [13, 14, 34] f f_39 from (by first | assumption | omega | (subst hj1; omega)), show (0 : Int32).toInt = 0 ∨ (0 : Int32).toInt = 1 from (by first | assumption | omega | (subst hj1; omega))⟩) hP hD hQ (Nat.le_of_ble_eq_true rfl) (Nat.le_of_ble_eq_true rfl) dX4_readSequence_72
            · obtain ⟨-, i3_, top3_, w3_, st3_, op3_, dg3_, j1_, j2_, j3_, j4_, j5_, j6_, j7_, j8_⟩ := hp_39.resolve_right (fun q9 => by have := q9.1; omega)
              have hLv2 := LvC_fr hLvl hG hF_39 (by decide)
              have hEC2 := EnvC_fx hECl hG hF_39 hfx_39 (by decide) (by decide) (nb_gr hRD) nb_nr
              have htl2 := j5_.1.2.2.2.1
              refine lv_aload_n hx hb dX4_readSequence_61 rfl (lv_at hl 1 rfl) ?_
              refine lv_aload_n hx hb dX4_readSequence_62 rfl (lv_at hl 3 rfl) ?_
              refine lv_iload hx hb dX4_readSequence_63 (lv_at hl 0 rfl) ?_
              have hRo := RWf_e j5_.2.2 hh_5
              have hlf : len_36.toInt = top2 - st x.toInt := hl_38
              obtain ⟨len_42, fg_42, v1_42, v2_42, v3_42, mp_42, sp_42⟩ := op_0 hI m_5 s_5
              obtain ⟨w1_42, w2_42, w3_42, w4_42, w5_42⟩ := lenw hj v1_42 v2_42 v3_42
              obtain ⟨c_43, fg_43, iv0_43⟩ := op_1 hI mp_6 sp_6
              obtain ⟨hl_44, hc_44⟩ := RWf_at hRo s_5 fg_42 fg_43
              obtain ⟨fa_45, pl_45, fg_45⟩ := op_13 hI (gm_13 hG) (gs_13 hG)
              refine call_p (va_runV (As := [.ref r_5, .int len_36]) (rest := []) ⟨hx, hb, hml, hown, hts⟩ (t_X4_readTimesm l D cI cR cM _ (ks := ks) (vs := vs) (i := i3_) (w := (fun j => w3_ (2 * st x.toInt + j)))  hj hG hI m_5 s_5 fg_42 fg_43 (by first | assumption | omega | (subst hj1; omega)) (j4_) (by first | assumption | omega | (subst hj1; omega)) (by subst hj1; omega) (by rw [hl_44]; exact hc_44)) (cwV 2 hts gX4_readSequence_X4_readTimes rfl rfl rfl (by decide +kernel) ⟨Nat.le_of_ble_eq_true rfl, Nat.le_of_ble_eq_true rfl⟩) (pre_T hK hP hD (gm_13 hG) fg_45 rfl) rfl rfl hl.1 rfl (lv_room (Nat.le_of_ble_eq_true rfl)) dX4_readSequence_65 ⟨Nat.le_of_ble_eq_true rfl, Nat.le_of_ble_eq_true rfl⟩) hD hS hA (fun u_46 H locs hw hP hD hS => ?_)
              obtain ⟨r_46, f_46⟩ := u_46
              obtain ⟨hI, hF_46, hp_46, hfx_46, h01_46⟩ : IN jn cI cR cM g L S f_46 ∧ FR S [0, 1, 13, 14] f_39 f_46 ∧ ((r_46.toInt = 1 ∧ ((ks i3_ ≠ 42 ∧ TKm cI g ks vs f_46 i3_ ∧ RWf cI jn S f_46 r_5 len_42.toInt (fun j => w3_ (2 * st x.toInt + j))) ∨ (ks i3_ = 42 ∧ ks (i3_ + 1) = 1 ∧ vs (i3_ + 1) ≠ 0 ∧ TKm cI g ks vs f_46 (i3_ + 1 + 1) ∧ 2 * (len_42.toInt + (vs (i3_ + 1) - 1) * (len_42.toInt - len_36.toInt)) ≤ (n_5 : Int) ∧ RWf cI jn S f_46 r_5 (len_42.toInt + (vs (i3_ + 1) - 1) * (len_42.toInt - len_36.toInt)) (tmW (fun j => w3_ (2 * st x.toInt + j)) len_42.toInt len_36.toInt)))) ∨ (r_46.toInt = 0 ∧ ks i3_ = 42 ∧ ¬ (ks (i3_ + 1) = 1 ∧ vs (i3_ + 1) ≠ 0 ∧ 2 * (len_42.toInt + (vs (i3_ + 1) - 1) * (len_42.toInt - len_36.toInt)) ≤ (n_5 : Int)))) ∧ (FX S (fun a9 => a9 = r_5) [13, 14] f_39 f_46) ∧ (r_46.toInt = 0 ∨ r_46.toInt = 1) := hw
              have hP : va_P D vwCl (va_pl L f_46) H := hP
              have hD : va_D A (va_pl L f_46) := hD
              have hF := FR_tr hF hF_46 (by decide)
              have hFX := FX_tr hFX hfx_46 (fun a9 h9 => Or.inl ⟨x.toInt.toNat, Nat.le_refl _, by omega, h9.trans hh_5⟩) (by decide)
              refine a_if_ne (u := r_46.toInt) (tgt := 73) hx hb dX4_readSequence_68 (by decide) (rfl) (fun c_47 => ?_) (fun c_47 => ?_)
              · obtain ⟨z_48, q_48, e_48⟩ := i_inc (a := ii.toInt) (1) (rfl) (by decide) (by subst hj1; omega) (by subst hj1; omega)
                refine lv_iinc (v := z_48) (lv' := [(3, .int z_48), (4, .int len_36), (0, .ref (g 13)), (1, .int x), (2, .ref r_5)]) hx hb dX4_readSequence_73 hl (k := 4) rfl q_48 (by decide) rfl (fun ls hl => ?_)
                refine lv_goto (tgt := 29) hx hb dX4_readSequence_76 (by decide) ?_
                exact ih29 z_48 f_46 _ _ _ (by subst hj1; omega) hI hF (by first | assumption | omega | (subst hj1; omega)) (by
                  rw [hl_44] at hp_46
                  rw [hlf] at hp_46
                  obtain ⟨-, h9⟩ := hp_46.resolve_right (fun q9 => by have := q9.1; omega)
                  rcases h9 with ⟨h1, h2, h3⟩ | ⟨h1, h2, h3, h4, h5, h6⟩
                  · exact ⟨i3_, top3_, top2, 1, 1, w3_, st3_, op3_, dg3_, Go_tr j1 j1_, h2, ⟨MSb_rf j5_.1 hfx_46 (by decide) (fun k9 h8 h7 q9 => (hRD.2.2.2.2.1 k9.toNat x.toInt.toNat (by subst hj1; omega) (by subst hj1; omega) (by subst hj1; omega)) (q9.trans hh_5)) (fun k9 v9 _ _ h9 => TN_fr hG hF_46 (by decide) k9 v9 h9), j5_.2.1, RWf_e h3 hh_5.symm⟩, j6_, j7_, fun j9 h8 h9 => by rw [j8_ j9 h8 h9]; exact j6 j9 h8 h9, fun q9 => h1 q9.2, Or.inr ⟨by omega, rfl, by omega, by omega⟩, by omega⟩
                  · rw [show top3_ - st x.toInt - (top2 - st x.toInt) = top3_ - top2 by omega] at h5 h6
                    have h6 := RWf_e h6 hh_5.symm
                    obtain ⟨q1, q2, q3⟩ := L_times (E := E) (i := i3_) (one := top2) (isO := 1) (op1 := op3_) (dg1 := dg3_) (may := 1) j5_ (fun top9 w9 q1 q2 q3 => MSb_fx j5_.1 hfx_46 (by decide) (fun k9 h8 h7 q9 => (hRD.2.2.2.2.1 k9.toNat x.toInt.toNat (by subst hj1; omega) (by subst hj1; omega) (by subst hj1; omega)) (q9.trans hh_5)) (fun k9 v9 _ _ h9 => TN_fr hG hF_46 (by decide) k9 v9 h9) q1 q2 q3) rfl (j6_ _ (by subst hj1; omega) (Int.le_refl _)) h1 h2 h3 (by have := (hKO (i3_ + 1)).2.1 h2; omega) (by subst hj1; omega) (by subst hj1; omega) h6
                    have hm0 : 0 ≤ (vs (i3_ + 1) - 1) * (top3_ - top2) := Int.mul_nonneg (by have := (hKO (i3_ + 1)).2.1 h2; omega) (by subst hj1; omega)
                    exact ⟨i3_ + 2, _, top2, 0, 1, _, st3_, op3_, dg3_, Go_tr j1 (Go_tr j1_ (Go_1 q1)), h4, q2, j6_, j7_, fun j9 h8 h9 => (q3 j9 h8 h9).trans ((j8_ j9 h8 h9).trans (j6 j9 h8 h9)), fun q9 => absurd q9.1 (by decide), Or.inr ⟨by omega, rfl, by omega, by omega⟩, by omega⟩) (LvC_fr hLv2 hG hF_46 (by decide)) (EnvC_fx hEC2 hG hF_46 hfx_46 (by decide) (by decide) (fun k9 h9 q9 => hRD.2.2.2.1 x.toInt.toNat k9 (by subst hj1; omega) h9 (hh_5.symm.trans q9.symm)) (fun r9 h9 q9 => h9 (Or.inl ⟨x.toInt.toNat, by omega, q9.trans hh_5⟩))) (fun k9 v9 h7 h8 h9 => TN_fr hG hF_46 (by decide) k9 v9 (htn_39 k9 v9 h7 h8 (htl k9 v9 h7 h8 h9))) (by first | assumption | omega | (subst hj1; omega)) hP hD hS (lv_sub hl [2, 3, 4, 0] rfl)
              · refine lv_iconst (v := 0) hx hb dX4_readSequence_71 (by decide) ?_
                have hz_49 : (0 : Int32).toInt = 0 := by decide
                exact g_zret ((0 : Int32), f_46) hx hb hr hlocks hS (by first | exact Or.inl rfl | exact Or.inr rfl) rfl (⟨hI, hF, show Hd (((0 : Int32).toInt = 1 ∧ SeqR cI jn g lv S f_46 ks vs E i x.toInt top one w st op dg st1 op1 dg1) ∨ ((0 : Int32).toInt = 0 ∧ Fls ks vs E (i, x.toInt, top, one, 0, 0, w, st1, op1, dg1))) from (by
                  rw [hl_44] at hp_46
                  rw [hlf] at hp_46
                  obtain ⟨-, h1, h2⟩ := hp_46.resolve_left (fun q9 => by have := q9.1; omega)
                  refine Or.inr ⟨rfl, Fls_tr (Go_tr j1 j1_) (Fls_0 (F_times rfl h1 ?_))⟩
                  rw [j6_ _ (by subst hj1; omega) (Int.le_refl _)]
                  rw [show top3_ - st x.toInt - (top2 - st x.toInt) = top3_ - top2 by omega] at h2
                  exact fun q9 => h2 ⟨q9.1, q9.2.1, by have := q9.2.2; omega⟩), show ∀ k9 v9 : Int, 0 ≤ k9 → k9 < x.toInt → TNf cI g f k9 v9 → TNf cI g f_46 k9 v9 from (fun k9 v9 h7 h8 h9 => TN_fr hG hF_46 (by decide) k9 v9 (htn_39 k9 v9 h7 h8 (htl k9 v9 h7 h8 h9))), show FX S (BXp g lv x.toInt) [13, 14, 34] f f_46 from (by first | assumption | omega | (subst hj1; omega)), show (0 : Int32).toInt = 0 ∨ (0 : Int32).toInt = 1 from (by first | assumption | omega | (subst hj1; omega))⟩) hP hD hQ (Nat.le_of_ble_eq_true rfl) (Nat.le_of_ble_eq_true rfl) dX4_readSequence_72
  have hz_50 : (0 : Int32).toInt = 0 := by decide
  exact loop29 ((400 - (0 : Int32).toInt).toNat + 1) (0 : Int32) f_8 _ _ _ (by subst hj1; omega) hI hF (by first | assumption | omega | (subst hj1; omega)) (⟨i, top, one, 0, 0, w, st1, op1, dg1, Go_rf, hC1, hM1, hst, hop, fun _ _ _ => rfl, fun q9 => absurd q9.1 (by decide), Or.inl ⟨by omega, rfl, rfl, rfl, rfl⟩, by omega⟩) (hLv1) (hEC1) (htl1) (by first | assumption | omega | (subst hj1; omega)) hP hD hS (lv_sub hl [2, 3, 1, 0] rfl)
set_option maxRecDepth 100000 in
set_option maxHeartbeats 4000000 in
theorem t_X4_readOnem_3 (l : Launch) (D : va_G) (cI cR cM : ClassId) (sz : Nat) {jn : Nat} {g : Nat → Nat} {L : List Nat} {S : Sg} {f : Nat → va_E} {x : Int32} {ks vs : Nat → Int} {i : Nat} {lv gr : Nat → Nat} {E : Env1} {F : Int → Int} {top one may isO : Int} {w st op dg st1 op1 dg1 : Int → Int} (hj : 1 ≤ jn ∧ jn ≤ 3) (hG : SG g L S) (hI : IN jn cI cR cM g L S f) (hj1 : jn = 1) (hC : TKm cI g ks vs f i) (hKO : KO ks vs) (hRD : RDC g lv gr S) (hLv : LvC cR g lv f) (hEC : EnvC cI cR jn g lv gr S f E F) (hEO : EOk E) (hx0 : 0 ≤ x.toInt ∧ x.toInt ≤ 5) (hd : 3 ≤ x.toInt) (hMS : MSt cI jn g lv S f x.toInt top w st op dg) (hst : ∀ k9 : Int, 0 ≤ k9 → k9 ≤ x.toInt → st1 k9 = st k9) (hop : ∀ k9 : Int, 0 ≤ k9 → k9 < x.toInt → op1 k9 = op k9 ∧ dg1 k9 = dg k9) (hm9 : ¬ (may = 1 ∧ ks i = 42)) (hbg : (isO = 0 ∧ may = 0) ∨ (ks i = 1 ∨ ks i = 2 ∨ ks i = 91 ∨ ks i = 40 ∨ (7 ≤ ks i ∧ ks i ≤ 10))) : Met l yX4_readOne wsX4_readOne ({ frames := 7, cells := 0, slots := 0, locals := 203 }) (P0 D cI cR cM [.ref (g 13), .int x] sz (va_pl L f)) (QG (S := Int32 × (Nat → va_E)) (fun u => some (.int u.1)) (fun u => va_pl L u.2) (fun u => IN jn cI cR cM g L S u.2 ∧ FR S [0, 1, 13, 14, 34] f u.2 ∧ (Hd ((u.1.toInt = 1 ∧ OneR cI jn g lv S u.2 ks vs E i x.toInt top one may isO w st op dg st1 op1 dg1) ∨ (u.1.toInt = 0 ∧ Fls ks vs E (i, x.toInt, top, one, may, isO, w, st1, op1, dg1)))) ∧ (∀ k9 v9 : Int, 0 ≤ k9 → k9 < x.toInt → TNf cI g f k9 v9 → TNf cI g u.2 k9 v9) ∧ (FX S (BXp g lv x.toInt) [13, 14, 34] f u.2) ∧ (u.1.toInt = 0 ∨ u.1.toInt = 1)) D (va_A (va_pl L f) sz)) 0 0 (va_A (va_pl L f) sz) := by
  refine go (cc := cX4_readOne) (maxL := 3) (ret := (some .boolean)) (by decide +kernel) rfl (Nat.le_of_ble_eq_true rfl) ?_
  intro p e s m below meth c ls args Q hQ hsz hx hb hr hml hts hown hlocks hnm hP hK hD hl
  subst hsz
  have hD := hD.self (sz := s.heap.size)
  generalize hAe : va_A (va_pl L f) s.heap.size = A at hD hQ
  have hA : ∀ q, s.heap.size ≤ q → A q := fun q h => by rw [← hAe]; exact Or.inr h
  have hS : va_S A s.heap s.heap [] := va_S.rf
  have hFX : FX S (BXp g lv x.toInt) [13, 14, 34] f f := FX_rf
  have hF : FR S [0, 1, 13, 14, 34] f f := FR_rf
  have hl : lv_has ls 3 [(0, .ref (g 13)), (1, .int x)] := hl
  refine lv_aload_n hx hb dX4_readOne_0 rfl (lv_at hl 0 rfl) ?_
  obtain ⟨fa_1, pl_1, fg_1⟩ := op_13 hI (gm_13 hG) (gs_13 hG)
  refine roP (va_runV (As := []) (rest := []) ⟨hx, hb, hml, hown, hts⟩ (t_X4_beginsOnem l D cI cR cM _ (ks := ks) (vs := vs) (i := i)  hj hG hI  (by first | assumption | omega | (subst hj1; omega)) (hC) (by first | assumption | omega | (subst hj1; omega))) (cwV 0 hts gX4_readOne_X4_beginsOne rfl rfl rfl (by decide +kernel) ⟨Nat.le_of_ble_eq_true rfl, Nat.le_of_ble_eq_true rfl⟩) (pre_T hK hP hD (gm_13 hG) fg_1 rfl) rfl rfl hl.1 rfl (lv_room (Nat.le_of_ble_eq_true rfl)) dX4_readOne_1 ⟨Nat.le_of_ble_eq_true rfl, Nat.le_of_ble_eq_true rfl⟩) hS hA hP (fun r_2 H locs hw hP hS => ?_)
  obtain ⟨hp_2, h01_2⟩ : ((r_2.toInt = 1 ∧ (ks i = 1 ∨ ks i = 2 ∨ ks i = 91 ∨ ks i = 40 ∨ (7 ≤ ks i ∧ ks i ≤ 10))) ∨ (r_2.toInt = 0 ∧ ¬ (ks i = 1 ∨ ks i = 2 ∨ ks i = 91 ∨ ks i = 40 ∨ (7 ≤ ks i ∧ ks i ≤ 10)))) ∧ (r_2.toInt = 0 ∨ r_2.toInt = 1) := hw
  refine a_if_ne (u := r_2.toInt) (tgt := 13) hx hb dX4_readOne_4 (by decide) (rfl) (fun c_3 => ?_) (fun c_3 => ?_)
  · refine lv_aload_n hx hb dX4_readOne_13 rfl (lv_at hl 0 rfl) ?_
    obtain ⟨cnt_4, nx_4, kd_4, vl_4, st_4, ls_4, fg_4, iv0_4, iv1_4, iv2_4⟩ := op_14 hI (gm_14 hG) (gs_14 hG)
    obtain ⟨kk_5, kv_5⟩ := TKm_k hC fg_4
    refine t_get (D := D) (L := L) (f := f) (ci := 4) (v := .ref (g 14)) (C := RX4) (T := TX4) (N := 11) hx hb hts (by decide +kernel) hown hK.1 hP (gm_13 hG) fg_1 rfl 1 (by decide) (hts (.fieldLink RX4 41 "JugglingHall$Reader" "tokens" "LJugglingHall$Tokens;") (by decide +kernel)) (fun _ h9 => h9) rfl dX4_readOne_14 ?_
    refine t_getN (D := D) (L := L) (f := f) (ci := 8) (v := .int kd_4) (C := RX8) (T := TX8) (N := 10) (host := "JugglingHall") hx hb hts (by decide +kernel) hown hK.1 hP (gm_14 hG) fg_4 rfl 6 (by decide) (hK.nw (.fieldLinkNest RX4 70 "JugglingHall$Tokens" "kind" "I" "JugglingHall") (by decide +kernel) rfl) (fun _ h9 => h9) rfl dX4_readOne_17 ?_
    refine lv_istore_n (lv' := [(2, .int kd_4), (0, .ref (g 13)), (1, .int x)]) hx hb dX4_readOne_20 rfl hl (by decide) rfl (fun ls hl => ?_)
    refine lv_iload_n hx hb dX4_readOne_21 rfl (lv_at hl 0 rfl) ?_
    have hu_6 : kd_4.toInt = kd_4.toInt := rfl
    rcases (show (kd_4.toInt = 2) ∨ (kd_4.toInt = 3) ∨ (kd_4.toInt = 60) ∨ (kd_4.toInt = 91) ∨ (kd_4.toInt ≠ 2 ∧ kd_4.toInt ≠ 3 ∧ kd_4.toInt ≠ 60 ∧ kd_4.toInt ≠ 91) by omega) with c_6 | c_6 | c_6 | c_6 | c_6
    · refine lv_lookup (off := 53) (tgt := 75) hx hb dX4_readOne_22 (by decide) (by rw [hu_6, c_6]; decide) (by decide) ?_
      have kb9 : ks i = 1 := cK_p (hKO i).1 (Or.inl ⟨by decide, by decide⟩) kk_5 (c := 2) (by subst hj1; omega) (by decide)
      refine lv_aload_n hx hb dX4_readOne_75 rfl (lv_at hl 1 rfl) ?_
      refine lv_aload_n hx hb dX4_readOne_76 rfl (lv_at hl 1 rfl) ?_
      refine t_get (D := D) (L := L) (f := f) (ci := 4) (v := .ref (g 22)) (C := RX4) (T := TX4) (N := 11) hx hb hts (by decide +kernel) hown hK.1 hP (gm_13 hG) fg_1 rfl 3 (by decide) (hts (.fieldLink RX4 13 "JugglingHall$Reader" "levels" "[LJugglingHall$Row;") (by decide +kernel)) (fun _ h9 => h9) rfl dX4_readOne_77 ?_
      refine lv_iload_n hx hb dX4_readOne_80 rfl (lv_at hl 2 rfl) ?_
      obtain ⟨c_7, fg_7, iv0_7⟩ := op_22 hI (gm_22 hG) (gs_22 hG)
      refine t_aald (L := L) (f := f) (y := c_7) (u := x.toInt) hx hb hK.1 hP (gm_22 hG) 1 fg_7 rfl dX4_readOne_81 (rfl) (by subst hj1; omega) (fun w_8 q_8 => ?_)
      obtain ⟨r_8, p_8, n_8, er_8, m_8, s_8⟩ := iv0_7 x.toInt (by subst hj1; omega) (by subst hj1; omega)
      have q_8 := q_8.trans er_8
      subst q_8
      refine W.eq (g2 := F0 m 82 ls [.ref r_8, .ref (g 13)]) rfl ?_
      have hh_8 : r_8 = lv x.toInt.toNat := LvC_at (l := x.toInt) hLv fg_7 (by subst hj1; omega) (by subst hj1; omega) (by rw [show x.toInt = x.toInt by omega]; exact er_8)
      have hR_8 := RWf_e hMS.2.2 hh_8
      obtain ⟨len_9, fg_9, v1_9, v2_9, v3_9, mp_9, sp_9⟩ := op_0 hI m_8 s_8
      obtain ⟨w1_9, w2_9, w3_9, w4_9, w5_9⟩ := lenw hj v1_9 v2_9 v3_9
      obtain ⟨c_10, fg_10, iv0_10⟩ := op_1 hI mp_9 sp_9
      obtain ⟨hl_11, hc_11⟩ := RWf_at hR_8 s_8 fg_9 fg_10
      have hN_8 := cap_of (S := S) (a := r_8) (k := 48) (by rw [hh_8]; exact (hRD.2.1 _ (by subst hj1; omega)).1) s_8
      refine call_p (va_runV (As := [.ref r_8]) (rest := []) ⟨hx, hb, hml, hown, hts⟩ (t_X4_readBeatm l D cI cR cM _ (ks := ks) (vs := vs) (i := i) (w := (fun j => w (2 * st x.toInt + j)))  hj hG hI m_8 s_8 fg_9 fg_10 (by first | assumption | omega | (subst hj1; omega)) (hC) (by first | assumption | omega | (subst hj1; omega)) (by rw [hh_8]; exact (hRD.2.1 _ (by subst hj1; omega)).2.1) (hRD.1.1) (by rw [hl_11]; exact hc_11)) (cwV 1 hts gX4_readOne_X4_readBeat rfl rfl rfl (by decide +kernel) ⟨Nat.le_of_ble_eq_true rfl, Nat.le_of_ble_eq_true rfl⟩) (pre_T hK hP hD (gm_13 hG) fg_1 rfl) rfl rfl hl.1 rfl (lv_room (Nat.le_of_ble_eq_true rfl)) dX4_readOne_82 ⟨Nat.le_of_ble_eq_true rfl, Nat.le_of_ble_eq_true rfl⟩) hD hS hA (fun u_12 H locs hw hP hD hS => ?_)
      obtain ⟨r_12, f_12⟩ := u_12
      obtain ⟨hI, hF_12, hp_12, hfx_12, h01_12⟩ : IN jn cI cR cM g L S f_12 ∧ FR S [0, 1, 13, 14] f f_12 ∧ ((r_12.toInt = 1 ∧ ∃ (a9 b9 : Int) (j9 : Nat), BtR ks vs i a9 b9 j9 ∧ TKm cI g ks vs f_12 j9 ∧ 2 * (len_9.toInt + 1) ≤ (n_8 : Int) ∧ RWf cI jn S f_12 r_8 (len_9.toInt + 1) (fupd (fupd (fun j => w (2 * st x.toInt + j)) (2 * len_9.toInt) a9) (2 * len_9.toInt + 1) b9)) ∨ (r_12.toInt = 0 ∧ (BtF ks vs i ∨ (n_8 : Int) < 2 * (len_9.toInt + 1)))) ∧ (FX S (fun a9 => a9 = r_8 ∨ a9 = g 24) [13, 14] f f_12) ∧ (r_12.toInt = 0 ∨ r_12.toInt = 1) := hw
      have hP : va_P D vwCl (va_pl L f_12) H := hP
      have hD : va_D A (va_pl L f_12) := hD
      have hF := FR_tr hF hF_12 (by decide)
      have hFX := FX_tr hFX hfx_12 (fun a9 h9 => h9.elim (fun h9 => Or.inl ⟨x.toInt.toNat, Nat.le_refl _, by omega, h9.trans hh_8⟩) (fun h9 => Or.inr (Or.inl h9))) (by decide)
      have fb_13 : f_12 (g 22) = .inl (cR, 6, .inr (.inr (.inr (.inr c_7)))) := FR_at hF_12 (gs_22 hG) (show (22 : Nat) ∉ ([0, 1, 13, 14] : List Nat) by decide) fg_7
      exact g_zret (r_12, f_12) hx hb hr hlocks hS (b01 (by subst hj1; omega)) rfl (⟨hI, hF, show Hd ((r_12.toInt = 1 ∧ OneR cI jn g lv S f_12 ks vs E i x.toInt top one may isO w st op dg st1 op1 dg1) ∨ (r_12.toInt = 0 ∧ Fls ks vs E (i, x.toInt, top, one, may, isO, w, st1, op1, dg1))) from (by
        rw [hl_11] at hp_12
        rcases hp_12 with ⟨h5, a9, b9, j9, h6, h7, h8, h9⟩ | ⟨h5, h6⟩
        · have h9 := RWf_e h9 hh_8.symm
          obtain ⟨q1, q2, q3⟩ := L_beat (E := E) (one := one) (isO := isO) (op1 := op1) (dg1 := dg1) hMS (fun top9 w9 q1 q2 q3 => MSb_fx hMS.1 hfx_12 (by decide) (fun k9 h8 h7 => (fun q9 => q9.elim (fun q9 => (hRD.2.2.2.2.1 k9.toNat x.toInt.toNat (by subst hj1; omega) (by subst hj1; omega) (by subst hj1; omega)) (q9.trans hh_8)) (fun q8 => (hRD.2.1 k9.toNat (by subst hj1; omega)).2.1 q8))) (fun k9 v9 _ _ h9 => TN_fr hG hF_12 (by decide) k9 v9 h9) q1 q2 q3) hm9 (hst _ (by subst hj1; omega) (Int.le_refl _)) h6 (Bt_vK hKO h6) (by subst hj1; omega) h9
          exact Or.inl ⟨h5, j9, _, _, st1, op1, dg1, Go_1 q1, Bt_lt h6, by omega, h7, q2, hst, hop, q3⟩
        · refine Or.inr ⟨h5, Fls_0 (F_beat hm9 (fun q9 => by omega) (by subst hj1; omega) (by subst hj1; omega) (fun _ => by unfold Bgn; omega) ?_)⟩
          rw [hst _ (by subst hj1; omega) (Int.le_refl _)]
          exact h6.imp id (fun q9 => by omega)), show ∀ k9 v9 : Int, 0 ≤ k9 → k9 < x.toInt → TNf cI g f k9 v9 → TNf cI g f_12 k9 v9 from (fun k9 v9 _ _ h9 => TN_fr hG hF_12 (by decide) k9 v9 h9), show FX S (BXp g lv x.toInt) [13, 14, 34] f f_12 from (by first | assumption | omega | (subst hj1; omega)), show r_12.toInt = 0 ∨ r_12.toInt = 1 from (by first | assumption | omega | (subst hj1; omega))⟩) hP hD hQ (Nat.le_of_ble_eq_true rfl) (Nat.le_of_ble_eq_true rfl) dX4_readOne_85
    · refine lv_lookup (off := 42) (tgt := 64) hx hb dX4_readOne_22 (by decide) (by rw [hu_6, c_6]; decide) (by decide) ?_
      have kb9 : ks i = 2 := cK_p (hKO i).1 (Or.inl ⟨by decide, by decide⟩) kk_5 (c := 3) (by subst hj1; omega) (by decide)
      refine lv_aload_n hx hb dX4_readOne_64 rfl (lv_at hl 1 rfl) ?_
      refine lv_aload_n hx hb dX4_readOne_65 rfl (lv_at hl 1 rfl) ?_
      refine t_get (D := D) (L := L) (f := f) (ci := 4) (v := .ref (g 22)) (C := RX4) (T := TX4) (N := 11) hx hb hts (by decide +kernel) hown hK.1 hP (gm_13 hG) fg_1 rfl 3 (by decide) (hts (.fieldLink RX4 13 "JugglingHall$Reader" "levels" "[LJugglingHall$Row;") (by decide +kernel)) (fun _ h9 => h9) rfl dX4_readOne_66 ?_
      refine lv_iload_n hx hb dX4_readOne_69 rfl (lv_at hl 2 rfl) ?_
      obtain ⟨c_14, fg_14, iv0_14⟩ := op_22 hI (gm_22 hG) (gs_22 hG)
      refine t_aald (L := L) (f := f) (y := c_14) (u := x.toInt) hx hb hK.1 hP (gm_22 hG) 1 fg_14 rfl dX4_readOne_70 (rfl) (by subst hj1; omega) (fun w_15 q_15 => ?_)
      obtain ⟨r_15, p_15, n_15, er_15, m_15, s_15⟩ := iv0_14 x.toInt (by subst hj1; omega) (by subst hj1; omega)
      have q_15 := q_15.trans er_15
      subst q_15
      refine W.eq (g2 := F0 m 71 ls [.ref r_15, .ref (g 13)]) rfl ?_
      have hh_15 : r_15 = lv x.toInt.toNat := LvC_at (l := x.toInt) hLv fg_14 (by subst hj1; omega) (by subst hj1; omega) (by rw [show x.toInt = x.toInt by omega]; exact er_15)
      have hR_15 := RWf_e hMS.2.2 hh_15
      obtain ⟨len_16, fg_16, v1_16, v2_16, v3_16, mp_16, sp_16⟩ := op_0 hI m_15 s_15
      obtain ⟨w1_16, w2_16, w3_16, w4_16, w5_16⟩ := lenw hj v1_16 v2_16 v3_16
      obtain ⟨c_17, fg_17, iv0_17⟩ := op_1 hI mp_16 sp_16
      obtain ⟨hl_18, hc_18⟩ := RWf_at hR_15 s_15 fg_16 fg_17
      have hN_15 := cap_of (S := S) (a := r_15) (k := 48) (by rw [hh_15]; exact (hRD.2.1 _ (by subst hj1; omega)).1) s_15
      refine call_p (va_runV (As := [.ref r_15]) (rest := []) ⟨hx, hb, hml, hown, hts⟩ (t_X4_readLetterm l D cI cR cM _ (ks := ks) (vs := vs) (i := i) (lv := lv) (gr := gr) (E := E) (F := F) (w := (fun j => w (2 * st x.toInt + j)))  hj hG hI m_15 s_15 fg_16 fg_17 (by first | assumption | omega | (subst hj1; omega)) (hC) (by first | assumption | omega | (subst hj1; omega)) (kb9) (hEC) (by rw [hl_18]; exact hc_18)) (cwV 1 hts gX4_readOne_X4_readLetter rfl rfl rfl (by decide +kernel) ⟨Nat.le_of_ble_eq_true rfl, Nat.le_of_ble_eq_true rfl⟩) (pre_T hK hP hD (gm_13 hG) fg_1 rfl) rfl rfl hl.1 rfl (lv_room (Nat.le_of_ble_eq_true rfl)) dX4_readOne_71 ⟨Nat.le_of_ble_eq_true rfl, Nat.le_of_ble_eq_true rfl⟩) hD hS hA (fun u_19 H locs hw hP hD hS => ?_)
      obtain ⟨r_19, f_19⟩ := u_19
      obtain ⟨hI, hF_19, hp_19, hfx_19, h01_19⟩ : IN jn cI cR cM g L S f_19 ∧ FR S [0, 1, 13, 14] f f_19 ∧ ((r_19.toInt = 1 ∧ 0 < (E (vs i)).1 ∧ TKm cI g ks vs f_19 (i + 1) ∧ 2 * (len_16.toInt + (E (vs i)).1) ≤ (n_15 : Int) ∧ RWf cI jn S f_19 r_15 (len_16.toInt + (E (vs i)).1) (fun j => if j < 2 * len_16.toInt then (fun j => w (2 * st x.toInt + j)) j else (E (vs i)).2 (j - 2 * len_16.toInt))) ∨ (r_19.toInt = 0 ∧ ((E (vs i)).1 ≤ 0 ∨ (n_15 : Int) < 2 * (len_16.toInt + (E (vs i)).1)))) ∧ (FX S (fun a9 => a9 = r_15) [13, 14] f f_19) ∧ (r_19.toInt = 0 ∨ r_19.toInt = 1) := hw
      have hP : va_P D vwCl (va_pl L f_19) H := hP
      have hD : va_D A (va_pl L f_19) := hD
      have hF := FR_tr hF hF_19 (by decide)
      have hFX := FX_tr hFX hfx_19 (fun a9 h9 => Or.inl ⟨x.toInt.toNat, Nat.le_refl _, by omega, h9.trans hh_15⟩) (by decide)
      have fb_20 : f_19 (g 22) = .inl (cR, 6, .inr (.inr (.inr (.inr c_14)))) := FR_at hF_19 (gs_22 hG) (show (22 : Nat) ∉ ([0, 1, 13, 14] : List Nat) by decide) fg_14
      exact g_zret (r_19, f_19) hx hb hr hlocks hS (b01 (by subst hj1; omega)) rfl (⟨hI, hF, show Hd ((r_19.toInt = 1 ∧ OneR cI jn g lv S f_19 ks vs E i x.toInt top one may isO w st op dg st1 op1 dg1) ∨ (r_19.toInt = 0 ∧ Fls ks vs E (i, x.toInt, top, one, may, isO, w, st1, op1, dg1))) from (by
        rw [hl_18] at hp_19
        rcases hp_19 with ⟨h5, h6, h7, h8, h9⟩ | ⟨h5, h6⟩
        · have h9 := RWf_e h9 hh_15.symm
          obtain ⟨q1, q2, q3⟩ := L_letter (E := E) (one := one) (isO := isO) (op1 := op1) (dg1 := dg1) hMS (fun top9 w9 q1 q2 q3 => MSb_fx hMS.1 hfx_19 (by decide) (fun k9 h8 h7 => (fun q9 => (hRD.2.2.2.2.1 k9.toNat x.toInt.toNat (by subst hj1; omega) (by subst hj1; omega) (by subst hj1; omega)) (q9.trans hh_15))) (fun k9 v9 _ _ h9 => TN_fr hG hF_19 (by decide) k9 v9 h9) q1 q2 q3) hm9 (hst _ (by subst hj1; omega) (Int.le_refl _)) kb9 h6 (hEO _ (by have := (hKO i).2.2 kb9; omega) (by have := (hKO i).2.2 kb9; omega)).2.2 (by subst hj1; omega) h9
          exact Or.inl ⟨h5, i + 1, _, _, st1, op1, dg1, Go_1 q1, by omega, by omega, h7, q2, hst, hop, q3⟩
        · exact Or.inr ⟨h5, Fls_0 (F_letter kb9 (by rw [hst _ (by subst hj1; omega) (Int.le_refl _)]; omega))⟩), show ∀ k9 v9 : Int, 0 ≤ k9 → k9 < x.toInt → TNf cI g f k9 v9 → TNf cI g f_19 k9 v9 from (fun k9 v9 _ _ h9 => TN_fr hG hF_19 (by decide) k9 v9 h9), show FX S (BXp g lv x.toInt) [13, 14, 34] f f_19 from (by first | assumption | omega | (subst hj1; omega)), show r_19.toInt = 0 ∨ r_19.toInt = 1 from (by first | assumption | omega | (subst hj1; omega))⟩) hP hD hQ (Nat.le_of_ble_eq_true rfl) (Nat.le_of_ble_eq_true rfl) dX4_readOne_74
    · refine lv_lookup (off := 53) (tgt := 75) hx hb dX4_readOne_22 (by decide) (by rw [hu_6, c_6]; decide) (by decide) ?_
      have kb9 : ks i = 60 := cK_p (hKO i).1 (Or.inr ⟨by decide, by decide⟩) kk_5 (c := 60) (by subst hj1; omega) (by decide)
      refine lv_aload_n hx hb dX4_readOne_75 rfl (lv_at hl 1 rfl) ?_
      refine lv_aload_n hx hb dX4_readOne_76 rfl (lv_at hl 1 rfl) ?_
      refine t_get (D := D) (L := L) (f := f) (ci := 4) (v := .ref (g 22)) (C := RX4) (T := TX4) (N := 11) hx hb hts (by decide +kernel) hown hK.1 hP (gm_13 hG) fg_1 rfl 3 (by decide) (hts (.fieldLink RX4 13 "JugglingHall$Reader" "levels" "[LJugglingHall$Row;") (by decide +kernel)) (fun _ h9 => h9) rfl dX4_readOne_77 ?_
      refine lv_iload_n hx hb dX4_readOne_80 rfl (lv_at hl 2 rfl) ?_
      obtain ⟨c_21, fg_21, iv0_21⟩ := op_22 hI (gm_22 hG) (gs_22 hG)
      refine t_aald (L := L) (f := f) (y := c_21) (u := x.toInt) hx hb hK.1 hP (gm_22 hG) 1 fg_21 rfl dX4_readOne_81 (rfl) (by subst hj1; omega) (fun w_22 q_22 => ?_)
      obtain ⟨r_22, p_22, n_22, er_22, m_22, s_22⟩ := iv0_21 x.toInt (by subst hj1; omega) (by subst hj1; omega)
      have q_22 := q_22.trans er_22
      subst q_22
      refine W.eq (g2 := F0 m 82 ls [.ref r_22, .ref (g 13)]) rfl ?_
      have hh_22 : r_22 = lv x.toInt.toNat := LvC_at (l := x.toInt) hLv fg_21 (by subst hj1; omega) (by subst hj1; omega) (by rw [show x.toInt = x.toInt by omega]; exact er_22)
      have hR_22 := RWf_e hMS.2.2 hh_22
      obtain ⟨len_23, fg_23, v1_23, v2_23, v3_23, mp_23, sp_23⟩ := op_0 hI m_22 s_22
      obtain ⟨w1_23, w2_23, w3_23, w4_23, w5_23⟩ := lenw hj v1_23 v2_23 v3_23
      obtain ⟨c_24, fg_24, iv0_24⟩ := op_1 hI mp_23 sp_23
      obtain ⟨hl_25, hc_25⟩ := RWf_at hR_22 s_22 fg_23 fg_24
      have hN_22 := cap_of (S := S) (a := r_22) (k := 48) (by rw [hh_22]; exact (hRD.2.1 _ (by subst hj1; omega)).1) s_22
      refine call_p (va_runV (As := [.ref r_22]) (rest := []) ⟨hx, hb, hml, hown, hts⟩ (t_X4_readBeatm l D cI cR cM _ (ks := ks) (vs := vs) (i := i) (w := (fun j => w (2 * st x.toInt + j)))  hj hG hI m_22 s_22 fg_23 fg_24 (by first | assumption | omega | (subst hj1; omega)) (hC) (by first | assumption | omega | (subst hj1; omega)) (by rw [hh_22]; exact (hRD.2.1 _ (by subst hj1; omega)).2.1) (hRD.1.1) (by rw [hl_25]; exact hc_25)) (cwV 1 hts gX4_readOne_X4_readBeat rfl rfl rfl (by decide +kernel) ⟨Nat.le_of_ble_eq_true rfl, Nat.le_of_ble_eq_true rfl⟩) (pre_T hK hP hD (gm_13 hG) fg_1 rfl) rfl rfl hl.1 rfl (lv_room (Nat.le_of_ble_eq_true rfl)) dX4_readOne_82 ⟨Nat.le_of_ble_eq_true rfl, Nat.le_of_ble_eq_true rfl⟩) hD hS hA (fun u_26 H locs hw hP hD hS => ?_)
      obtain ⟨r_26, f_26⟩ := u_26
      obtain ⟨hI, hF_26, hp_26, hfx_26, h01_26⟩ : IN jn cI cR cM g L S f_26 ∧ FR S [0, 1, 13, 14] f f_26 ∧ ((r_26.toInt = 1 ∧ ∃ (a9 b9 : Int) (j9 : Nat), BtR ks vs i a9 b9 j9 ∧ TKm cI g ks vs f_26 j9 ∧ 2 * (len_23.toInt + 1) ≤ (n_22 : Int) ∧ RWf cI jn S f_26 r_22 (len_23.toInt + 1) (fupd (fupd (fun j => w (2 * st x.toInt + j)) (2 * len_23.toInt) a9) (2 * len_23.toInt + 1) b9)) ∨ (r_26.toInt = 0 ∧ (BtF ks vs i ∨ (n_22 : Int) < 2 * (len_23.toInt + 1)))) ∧ (FX S (fun a9 => a9 = r_22 ∨ a9 = g 24) [13, 14] f f_26) ∧ (r_26.toInt = 0 ∨ r_26.toInt = 1) := hw
      have hP : va_P D vwCl (va_pl L f_26) H := hP
      have hD : va_D A (va_pl L f_26) := hD
      have hF := FR_tr hF hF_26 (by decide)
      have hFX := FX_tr hFX hfx_26 (fun a9 h9 => h9.elim (fun h9 => Or.inl ⟨x.toInt.toNat, Nat.le_refl _, by omega, h9.trans hh_22⟩) (fun h9 => Or.inr (Or.inl h9))) (by decide)
      have fb_27 : f_26 (g 22) = .inl (cR, 6, .inr (.inr (.inr (.inr c_21)))) := FR_at hF_26 (gs_22 hG) (show (22 : Nat) ∉ ([0, 1, 13, 14] : List Nat) by decide) fg_21
      exact g_zret (r_26, f_26) hx hb hr hlocks hS (b01 (by subst hj1; omega)) rfl (⟨hI, hF, show Hd ((r_26.toInt = 1 ∧ OneR cI jn g lv S f_26 ks vs E i x.toInt top one may isO w st op dg st1 op1 dg1) ∨ (r_26.toInt = 0 ∧ Fls ks vs E (i, x.toInt, top, one, may, isO, w, st1, op1, dg1))) from (by exfalso; omega), show ∀ k9 v9 : Int, 0 ≤ k9 → k9 < x.toInt → TNf cI g f k9 v9 → TNf cI g f_26 k9 v9 from (fun k9 v9 _ _ h9 => TN_fr hG hF_26 (by decide) k9 v9 h9), show FX S (BXp g lv x.toInt) [13, 14, 34] f f_26 from (by first | assumption | omega | (subst hj1; omega)), show r_26.toInt = 0 ∨ r_26.toInt = 1 from (by first | assumption | omega | (subst hj1; omega))⟩) hP hD hQ (Nat.le_of_ble_eq_true rfl) (Nat.le_of_ble_eq_true rfl) dX4_readOne_85
    · refine lv_lookup (off := 53) (tgt := 75) hx hb dX4_readOne_22 (by decide) (by rw [hu_6, c_6]; decide) (by decide) ?_
      have kb9 : ks i = 91 := cK_p (hKO i).1 (Or.inr ⟨by decide, by decide⟩) kk_5 (c := 91) (by subst hj1; omega) (by decide)
      refine lv_aload_n hx hb dX4_readOne_75 rfl (lv_at hl 1 rfl) ?_
      refine lv_aload_n hx hb dX4_readOne_76 rfl (lv_at hl 1 rfl) ?_
      refine t_get (D := D) (L := L) (f := f) (ci := 4) (v := .ref (g 22)) (C := RX4) (T := TX4) (N := 11) hx hb hts (by decide +kernel) hown hK.1 hP (gm_13 hG) fg_1 rfl 3 (by decide) (hts (.fieldLink RX4 13 "JugglingHall$Reader" "levels" "[LJugglingHall$Row;") (by decide +kernel)) (fun _ h9 => h9) rfl dX4_readOne_77 ?_
      refine lv_iload_n hx hb dX4_readOne_80 rfl (lv_at hl 2 rfl) ?_
      obtain ⟨c_28, fg_28, iv0_28⟩ := op_22 hI (gm_22 hG) (gs_22 hG)
      refine t_aald (L := L) (f := f) (y := c_28) (u := x.toInt) hx hb hK.1 hP (gm_22 hG) 1 fg_28 rfl dX4_readOne_81 (rfl) (by subst hj1; omega) (fun w_29 q_29 => ?_)
      obtain ⟨r_29, p_29, n_29, er_29, m_29, s_29⟩ := iv0_28 x.toInt (by subst hj1; omega) (by subst hj1; omega)
      have q_29 := q_29.trans er_29
      subst q_29
      refine W.eq (g2 := F0 m 82 ls [.ref r_29, .ref (g 13)]) rfl ?_
      have hh_29 : r_29 = lv x.toInt.toNat := LvC_at (l := x.toInt) hLv fg_28 (by subst hj1; omega) (by subst hj1; omega) (by rw [show x.toInt = x.toInt by omega]; exact er_29)
      have hR_29 := RWf_e hMS.2.2 hh_29
      obtain ⟨len_30, fg_30, v1_30, v2_30, v3_30, mp_30, sp_30⟩ := op_0 hI m_29 s_29
      obtain ⟨w1_30, w2_30, w3_30, w4_30, w5_30⟩ := lenw hj v1_30 v2_30 v3_30
      obtain ⟨c_31, fg_31, iv0_31⟩ := op_1 hI mp_30 sp_30
      obtain ⟨hl_32, hc_32⟩ := RWf_at hR_29 s_29 fg_30 fg_31
      have hN_29 := cap_of (S := S) (a := r_29) (k := 48) (by rw [hh_29]; exact (hRD.2.1 _ (by subst hj1; omega)).1) s_29
      refine call_p (va_runV (As := [.ref r_29]) (rest := []) ⟨hx, hb, hml, hown, hts⟩ (t_X4_readBeatm l D cI cR cM _ (ks := ks) (vs := vs) (i := i) (w := (fun j => w (2 * st x.toInt + j)))  hj hG hI m_29 s_29 fg_30 fg_31 (by first | assumption | omega | (subst hj1; omega)) (hC) (by first | assumption | omega | (subst hj1; omega)) (by rw [hh_29]; exact (hRD.2.1 _ (by subst hj1; omega)).2.1) (hRD.1.1) (by rw [hl_32]; exact hc_32)) (cwV 1 hts gX4_readOne_X4_readBeat rfl rfl rfl (by decide +kernel) ⟨Nat.le_of_ble_eq_true rfl, Nat.le_of_ble_eq_true rfl⟩) (pre_T hK hP hD (gm_13 hG) fg_1 rfl) rfl rfl hl.1 rfl (lv_room (Nat.le_of_ble_eq_true rfl)) dX4_readOne_82 ⟨Nat.le_of_ble_eq_true rfl, Nat.le_of_ble_eq_true rfl⟩) hD hS hA (fun u_33 H locs hw hP hD hS => ?_)
      obtain ⟨r_33, f_33⟩ := u_33
      obtain ⟨hI, hF_33, hp_33, hfx_33, h01_33⟩ : IN jn cI cR cM g L S f_33 ∧ FR S [0, 1, 13, 14] f f_33 ∧ ((r_33.toInt = 1 ∧ ∃ (a9 b9 : Int) (j9 : Nat), BtR ks vs i a9 b9 j9 ∧ TKm cI g ks vs f_33 j9 ∧ 2 * (len_30.toInt + 1) ≤ (n_29 : Int) ∧ RWf cI jn S f_33 r_29 (len_30.toInt + 1) (fupd (fupd (fun j => w (2 * st x.toInt + j)) (2 * len_30.toInt) a9) (2 * len_30.toInt + 1) b9)) ∨ (r_33.toInt = 0 ∧ (BtF ks vs i ∨ (n_29 : Int) < 2 * (len_30.toInt + 1)))) ∧ (FX S (fun a9 => a9 = r_29 ∨ a9 = g 24) [13, 14] f f_33) ∧ (r_33.toInt = 0 ∨ r_33.toInt = 1) := hw
      have hP : va_P D vwCl (va_pl L f_33) H := hP
      have hD : va_D A (va_pl L f_33) := hD
      have hF := FR_tr hF hF_33 (by decide)
      have hFX := FX_tr hFX hfx_33 (fun a9 h9 => h9.elim (fun h9 => Or.inl ⟨x.toInt.toNat, Nat.le_refl _, by omega, h9.trans hh_29⟩) (fun h9 => Or.inr (Or.inl h9))) (by decide)
      have fb_34 : f_33 (g 22) = .inl (cR, 6, .inr (.inr (.inr (.inr c_28)))) := FR_at hF_33 (gs_22 hG) (show (22 : Nat) ∉ ([0, 1, 13, 14] : List Nat) by decide) fg_28
      exact g_zret (r_33, f_33) hx hb hr hlocks hS (b01 (by subst hj1; omega)) rfl (⟨hI, hF, show Hd ((r_33.toInt = 1 ∧ OneR cI jn g lv S f_33 ks vs E i x.toInt top one may isO w st op dg st1 op1 dg1) ∨ (r_33.toInt = 0 ∧ Fls ks vs E (i, x.toInt, top, one, may, isO, w, st1, op1, dg1))) from (by
        rw [hl_32] at hp_33
        rcases hp_33 with ⟨h5, a9, b9, j9, h6, h7, h8, h9⟩ | ⟨h5, h6⟩
        · have h9 := RWf_e h9 hh_29.symm
          obtain ⟨q1, q2, q3⟩ := L_beat (E := E) (one := one) (isO := isO) (op1 := op1) (dg1 := dg1) hMS (fun top9 w9 q1 q2 q3 => MSb_fx hMS.1 hfx_33 (by decide) (fun k9 h8 h7 => (fun q9 => q9.elim (fun q9 => (hRD.2.2.2.2.1 k9.toNat x.toInt.toNat (by subst hj1; omega) (by subst hj1; omega) (by subst hj1; omega)) (q9.trans hh_29)) (fun q8 => (hRD.2.1 k9.toNat (by subst hj1; omega)).2.1 q8))) (fun k9 v9 _ _ h9 => TN_fr hG hF_33 (by decide) k9 v9 h9) q1 q2 q3) hm9 (hst _ (by subst hj1; omega) (Int.le_refl _)) h6 (Bt_vK hKO h6) (by subst hj1; omega) h9
          exact Or.inl ⟨h5, j9, _, _, st1, op1, dg1, Go_1 q1, Bt_lt h6, by omega, h7, q2, hst, hop, q3⟩
        · refine Or.inr ⟨h5, Fls_0 (F_beat hm9 (fun q9 => by omega) (by subst hj1; omega) (by subst hj1; omega) (fun _ => by unfold Bgn; omega) ?_)⟩
          rw [hst _ (by subst hj1; omega) (Int.le_refl _)]
          exact h6.imp id (fun q9 => by omega)), show ∀ k9 v9 : Int, 0 ≤ k9 → k9 < x.toInt → TNf cI g f k9 v9 → TNf cI g f_33 k9 v9 from (fun k9 v9 _ _ h9 => TN_fr hG hF_33 (by decide) k9 v9 h9), show FX S (BXp g lv x.toInt) [13, 14, 34] f f_33 from (by first | assumption | omega | (subst hj1; omega)), show r_33.toInt = 0 ∨ r_33.toInt = 1 from (by first | assumption | omega | (subst hj1; omega))⟩) hP hD hQ (Nat.le_of_ble_eq_true rfl) (Nat.le_of_ble_eq_true rfl) dX4_readOne_85
    · refine lv_lookup (off := 64) (tgt := 86) hx hb dX4_readOne_22 (by decide) (by rw [hu_6]; exact (show Op.lookupswitch.offset [(2, 53), (3, 42), (60, 53), (91, 53)] (64) kd_4.toInt = (64) from lkc (by subst hj1; omega) (lkc (by subst hj1; omega) (lkc (by subst hj1; omega) (lkc (by subst hj1; omega) (lkn _ _)))))) (by decide) ?_
      have hkg : ks i = 40 ∨ (7 ≤ ks i ∧ ks i ≤ 10) := by have h9 := cK_f (hKO i).1; omega
      refine lv_aload_n hx hb dX4_readOne_86 rfl (lv_at hl 1 rfl) ?_
      refine lv_iload_n hx hb dX4_readOne_87 rfl (lv_at hl 0 rfl) ?_
      refine lv_iload_n hx hb dX4_readOne_88 rfl (lv_at hl 2 rfl) ?_
      refine call_p (va_runV (As := [.int kd_4, .int x]) (rest := []) ⟨hx, hb, hml, hown, hts⟩ (t_X4_openGroupm l D cI cR cM _ (ks := ks) (vs := vs) (i := i)  hj hG hI  (by first | assumption | omega | (subst hj1; omega)) (hC) (by first | assumption | omega | (subst hj1; omega)) (kk_5) (hkg) (by subst hj1; omega)) (cwV 2 hts gX4_readOne_X4_openGroup rfl rfl rfl (by decide +kernel) ⟨Nat.le_of_ble_eq_true rfl, Nat.le_of_ble_eq_true rfl⟩) (pre_T hK hP hD (gm_13 hG) fg_1 rfl) rfl rfl hl.1 rfl (lv_room (Nat.le_of_ble_eq_true rfl)) dX4_readOne_89 ⟨Nat.le_of_ble_eq_true rfl, Nat.le_of_ble_eq_true rfl⟩) hD hS hA (fun u_35 H locs hw hP hD hS => ?_)
      obtain ⟨r_35, f_35⟩ := u_35
      obtain ⟨hI, hF_35, hp_35, ht_35, hfx_35, h01_35⟩ : IN jn cI cR cM g L S f_35 ∧ FR S [13, 14, 34] f f_35 ∧ ((r_35.toInt = 1 ∧ x.toInt < 5 ∧ ((ks i = 40 ∧ TKm cI g ks vs f_35 (i + 1)) ∨ ((7 ≤ ks i ∧ ks i ≤ 9) ∧ ks (i + 1) = 40 ∧ TKm cI g ks vs f_35 (i + 2)) ∨ (ks i = 10 ∧ ks (i + 1) = 1 ∧ ks (i + 2) = 40 ∧ TKm cI g ks vs f_35 (i + 3) ∧ TNf cI g f_35 x.toInt (vs (i + 1))))) ∨ (r_35.toInt = 0 ∧ ¬ (x.toInt < 5 ∧ (ks i = 40 ∨ ((7 ≤ ks i ∧ ks i ≤ 9) ∧ ks (i + 1) = 40) ∨ (ks i = 10 ∧ ks (i + 1) = 1 ∧ ks (i + 2) = 40))))) ∧ (∀ k9 v9 : Int, 0 ≤ k9 → k9 ≠ x.toInt → TNf cI g f k9 v9 → TNf cI g f_35 k9 v9) ∧ (FX S (fun _ => False) [13, 14, 34] f f_35) ∧ (r_35.toInt = 0 ∨ r_35.toInt = 1) := hw
      have hP : va_P D vwCl (va_pl L f_35) H := hP
      have hD : va_D A (va_pl L f_35) := hD
      have hF := FR_tr hF hF_35 (by decide)
      have hFX := FX_tr hFX hfx_35 (fun _ h9 => h9.elim) (by decide)
      refine a_if_eq (u := r_35.toInt) (tgt := 127) hx hb dX4_readOne_92 (by decide) (rfl) (fun c_36 => ?_) (fun c_36 => ?_)
      · refine lv_iconst (v := 0) hx hb dX4_readOne_127 (by decide) ?_
        have hz_37 : (0 : Int32).toInt = 0 := by decide
        exact g_zret ((0 : Int32), f_35) hx hb hr hlocks hS (by first | exact Or.inl rfl | exact Or.inr rfl) rfl (⟨hI, hF, show Hd (((0 : Int32).toInt = 1 ∧ OneR cI jn g lv S f_35 ks vs E i x.toInt top one may isO w st op dg st1 op1 dg1) ∨ ((0 : Int32).toInt = 0 ∧ Fls ks vs E (i, x.toInt, top, one, may, isO, w, st1, op1, dg1))) from (Or.inr ⟨rfl, Fls_0 (F_opens (by subst hj1; omega) (hp_35.resolve_left (fun q9 => by have := q9.1; omega)).2)⟩), show ∀ k9 v9 : Int, 0 ≤ k9 → k9 < x.toInt → TNf cI g f k9 v9 → TNf cI g f_35 k9 v9 from (fun k9 v9 h7 h8 h9 => (ht_35 k9 v9 h7 (by subst hj1; omega) h9)), show FX S (BXp g lv x.toInt) [13, 14, 34] f f_35 from (by first | assumption | omega | (subst hj1; omega)), show (0 : Int32).toInt = 0 ∨ (0 : Int32).toInt = 1 from (by first | assumption | omega | (subst hj1; omega))⟩) hP hD hQ (Nat.le_of_ble_eq_true rfl) (Nat.le_of_ble_eq_true rfl) dX4_readOne_128
      · obtain ⟨hz1, hz2⟩ := hp_35.resolve_right (fun q9 => by have := q9.1; omega)
        have hMS1 := MSt_fx hMS hfx_35 (by decide) (fun _ _ _ h9 => h9) (fun k9 v9 h7 h8 h9 => ht_35 k9 v9 h7 (by subst hj1; omega) h9)
        have hLv1 := LvC_fr hLv hG hF_35 (by decide)
        have hEC1 := EnvC_fx hEC hG hF_35 hfx_35 (by decide) (by decide) (fun _ _ h9 => h9) (fun _ _ h9 => h9)
        obtain ⟨i1, K1, D1, hs1, hc1_, hi1, hK1, hT1⟩ := L_opens (E := E) (top := top) (one := one) (isO := isO) (w := w) (st := st1) (op := op1) (dg := dg1) hm9 hz2
        have hMo := L_open (K := K1) (D := D1) hMS1 (by subst hj1; omega) hT1
        refine lv_aload_n hx hb dX4_readOne_95 rfl (lv_at hl 1 rfl) ?_
        refine lv_iload_n hx hb dX4_readOne_96 rfl (lv_at hl 2 rfl) ?_
        refine lv_iconst (v := 1) hx hb dX4_readOne_97 (by decide) ?_
        refine a_iadd (u := x.toInt) (v := 1) hx hb dX4_readOne_98 (rfl) (by decide) (by subst hj1; omega) (fun z_38 e_38 => ?_)
        obtain ⟨fa_39, pl_39, fg_39⟩ := op_13 hI (gm_13 hG) (gs_13 hG)
        refine call_p (va_runV (As := [.int z_38]) (rest := []) ⟨hx, hb, hml, hown, hts⟩ (t_X4_readSequencem_2 l D cI cR cM _ (i := i1) (top := top) (one := one) (w := w) (st := (fupd st (x.toInt + 1) top)) (op := (fupd op x.toInt K1)) (dg := (fupd dg x.toInt D1)) (st1 := (fupd st1 (x.toInt + 1) top)) (op1 := (fupd op1 x.toInt K1)) (dg1 := (fupd dg1 x.toInt D1)) (lv := lv) (gr := gr) (E := E) (F := F) (ks := ks) (vs := vs)  hj hG hI  (by first | assumption | omega | (subst hj1; omega)) (hc1_) (by first | assumption | omega | (subst hj1; omega)) (hRD) (hLv1) (hEC1) (hEO) (by subst hj1; omega) (by subst hj1; omega) (by rw [show z_38.toInt = x.toInt + 1 by omega]; exact hMo) (by rw [show z_38.toInt = x.toInt + 1 by omega]; exact fu_s) (fun k9 h8 h9 => by
          by_cases q9 : k9 = x.toInt + 1
          · rw [q9, fu_s, fu_s]
          · rw [fu_n q9, fu_n q9]; exact hst k9 h8 (by subst hj1; omega)) (fun k9 h8 h9 => by
          by_cases q9 : k9 = x.toInt
          · rw [q9, fu_s, fu_s, fu_s, fu_s]; exact ⟨rfl, rfl⟩
          · rw [fu_n q9, fu_n q9, fu_n q9, fu_n q9]; exact hop k9 h8 (by subst hj1; omega))) (cwV 1 hts gX4_readOne_X4_readSequence rfl rfl rfl (by decide +kernel) ⟨Nat.le_of_ble_eq_true rfl, Nat.le_of_ble_eq_true rfl⟩) (pre_T hK hP hD (gm_13 hG) fg_39 rfl) rfl rfl hl.1 rfl (lv_room (Nat.le_of_ble_eq_true rfl)) dX4_readOne_99 ⟨Nat.le_of_ble_eq_true rfl, Nat.le_of_ble_eq_true rfl⟩) hD hS hA (fun u_40 H locs hw hP hD hS => ?_)
        obtain ⟨r_40, f_40⟩ := u_40
        obtain ⟨hI, hF_40, hp_40, htn_40, hfx_40, h01_40⟩ : IN jn cI cR cM g L S f_40 ∧ FR S [0, 1, 13, 14, 34] f_35 f_40 ∧ (Hd ((r_40.toInt = 1 ∧ SeqR cI jn g lv S f_40 ks vs E i1 z_38.toInt top one w (fupd st (x.toInt + 1) top) (fupd op x.toInt K1) (fupd dg x.toInt D1) (fupd st1 (x.toInt + 1) top) (fupd op1 x.toInt K1) (fupd dg1 x.toInt D1)) ∨ (r_40.toInt = 0 ∧ Fls ks vs E (i1, z_38.toInt, top, one, 0, 0, w, (fupd st1 (x.toInt + 1) top), (fupd op1 x.toInt K1), (fupd dg1 x.toInt D1))))) ∧ (∀ k9 v9 : Int, 0 ≤ k9 → k9 < z_38.toInt → TNf cI g f_35 k9 v9 → TNf cI g f_40 k9 v9) ∧ (FX S (BXp g lv z_38.toInt) [13, 14, 34] f_35 f_40) ∧ (r_40.toInt = 0 ∨ r_40.toInt = 1) := hw
        have hP : va_P D vwCl (va_pl L f_40) H := hP
        have hD : va_D A (va_pl L f_40) := hD
        have hF := FR_tr hF hF_40 (by decide)
        have hFX := FX_tr hFX hfx_40 (fun a9 h9 => h9.imp (fun ⟨k9, h8, h7, h6⟩ => ⟨k9, by omega, h7, h6⟩) id) (by decide)
        have hpz_40 := hp_40
        rw [show z_38.toInt = x.toInt + 1 by omega] at hpz_40
        refine a_if_eq (u := r_40.toInt) (tgt := 127) hx hb dX4_readOne_102 (by decide) (rfl) (fun c_41 => ?_) (fun c_41 => ?_)
        · refine lv_iconst (v := 0) hx hb dX4_readOne_127 (by decide) ?_
          have hz_42 : (0 : Int32).toInt = 0 := by decide
          exact g_zret ((0 : Int32), f_40) hx hb hr hlocks hS (by first | exact Or.inl rfl | exact Or.inr rfl) rfl (⟨hI, hF, show Hd (((0 : Int32).toInt = 1 ∧ OneR cI jn g lv S f_40 ks vs E i x.toInt top one may isO w st op dg st1 op1 dg1) ∨ ((0 : Int32).toInt = 0 ∧ Fls ks vs E (i, x.toInt, top, one, may, isO, w, st1, op1, dg1))) from (Or.inr ⟨rfl, Fls_tr (Go_1 hs1) (hpz_40.resolve_left (fun q9 => by have := q9.1; omega)).2⟩), show ∀ k9 v9 : Int, 0 ≤ k9 → k9 < x.toInt → TNf cI g f k9 v9 → TNf cI g f_40 k9 v9 from (fun k9 v9 h7 h8 h9 => (htn_40 k9 v9 h7 (by subst hj1; omega) (ht_35 k9 v9 h7 (by subst hj1; omega) h9))), show FX S (BXp g lv x.toInt) [13, 14, 34] f f_40 from (by first | assumption | omega | (subst hj1; omega)), show (0 : Int32).toInt = 0 ∨ (0 : Int32).toInt = 1 from (by first | assumption | omega | (subst hj1; omega))⟩) hP hD hQ (Nat.le_of_ble_eq_true rfl) (Nat.le_of_ble_eq_true rfl) dX4_readOne_128
        · obtain ⟨-, n_, i2_, top2_, one2_, may2_, w2_, st2_, op2_, dg2_, ⟨hq0, hq1, hq2, hqs, hqo, hqa, hqm, hqx, -⟩, hqp, hqn⟩ := hpz_40.resolve_right (fun q9 => by have := q9.1; omega)
          have hLv2 := LvC_fr hLv1 hG hF_40 (by decide)
          obtain ⟨-, -, hqi, hqt⟩ := hqx.resolve_left (fun q9 => by have := q9.1; omega)
          refine lv_aload_n hx hb dX4_readOne_105 rfl (lv_at hl 1 rfl) ?_
          refine lv_bipush (v := 41) hx hb dX4_readOne_106 (by decide) ?_
          have hz_43 : (41 : Int32).toInt = 41 := by decide
          obtain ⟨fa_44, pl_44, fg_44⟩ := op_13 hI (gm_13 hG) (gs_13 hG)
          refine call_p (va_runV (As := [.int 41]) (rest := []) ⟨hx, hb, hml, hown, hts⟩ (t_X4_expectm l D cI cR cM _ (ks := ks) (vs := vs) (i := i2_) (K9 := 41)  hj hG hI  (by first | assumption | omega | (subst hj1; omega)) (hq1) (by first | assumption | omega | (subst hj1; omega)) (by decide) (Or.inr ⟨by decide, by decide⟩)) (cwV 1 hts gX4_readOne_X4_expect rfl rfl rfl (by decide +kernel) ⟨Nat.le_of_ble_eq_true rfl, Nat.le_of_ble_eq_true rfl⟩) (pre_T hK hP hD (gm_13 hG) fg_44 rfl) rfl rfl hl.1 rfl (lv_room (Nat.le_of_ble_eq_true rfl)) dX4_readOne_108 ⟨Nat.le_of_ble_eq_true rfl, Nat.le_of_ble_eq_true rfl⟩) hD hS hA (fun u_45 H locs hw hP hD hS => ?_)
          obtain ⟨r_45, f_45⟩ := u_45
          obtain ⟨hI, hF_45, hp_45, hfx_45, h01_45⟩ : IN jn cI cR cM g L S f_45 ∧ FR S [13, 14] f_40 f_45 ∧ ((r_45.toInt = 1 ∧ ks i2_ = 41 ∧ TKm cI g ks vs f_45 (i2_ + 1)) ∨ (r_45.toInt = 0 ∧ ks i2_ ≠ 41)) ∧ (FX S (fun _ => False) [13, 14] f_40 f_45) ∧ (r_45.toInt = 0 ∨ r_45.toInt = 1) := hw
          have hP : va_P D vwCl (va_pl L f_45) H := hP
          have hD : va_D A (va_pl L f_45) := hD
          have hF := FR_tr hF hF_45 (by decide)
          have hFX := FX_tr hFX hfx_45 (fun _ h9 => h9.elim) (by decide)
          refine a_if_eq (u := r_45.toInt) (tgt := 127) hx hb dX4_readOne_111 (by decide) (rfl) (fun c_46 => ?_) (fun c_46 => ?_)
          · refine lv_iconst (v := 0) hx hb dX4_readOne_127 (by decide) ?_
            have hz_47 : (0 : Int32).toInt = 0 := by decide
            exact g_zret ((0 : Int32), f_45) hx hb hr hlocks hS (by first | exact Or.inl rfl | exact Or.inr rfl) rfl (⟨hI, hF, show Hd (((0 : Int32).toInt = 1 ∧ OneR cI jn g lv S f_45 ks vs E i x.toInt top one may isO w st op dg st1 op1 dg1) ∨ ((0 : Int32).toInt = 0 ∧ Fls ks vs E (i, x.toInt, top, one, may, isO, w, st1, op1, dg1))) from (Or.inr ⟨rfl, Fls_tr (Go_tr (Go_1 hs1) hq0) (L_open_F hqn hqm (hp_45.resolve_left (fun q9 => by have := q9.1; omega)).2 (by subst hj1; omega))⟩), show ∀ k9 v9 : Int, 0 ≤ k9 → k9 < x.toInt → TNf cI g f k9 v9 → TNf cI g f_45 k9 v9 from (fun k9 v9 h7 h8 h9 => (TN_fr hG hF_45 (by decide) k9 v9 (htn_40 k9 v9 h7 (by subst hj1; omega) (ht_35 k9 v9 h7 (by subst hj1; omega) h9)))), show FX S (BXp g lv x.toInt) [13, 14, 34] f f_45 from (by first | assumption | omega | (subst hj1; omega)), show (0 : Int32).toInt = 0 ∨ (0 : Int32).toInt = 1 from (by first | assumption | omega | (subst hj1; omega))⟩) hP hD hQ (Nat.le_of_ble_eq_true rfl) (Nat.le_of_ble_eq_true rfl) dX4_readOne_128
          · obtain ⟨-, hk41, hq5⟩ := hp_45.resolve_right (fun q9 => by have := q9.1; omega)
            have hLv3 := LvC_fr hLv2 hG hF_45 (by decide)
            have hMS3 := MSt_fx hq2 hfx_45 (by decide) (fun _ _ _ h9 => h9) (fun k9 v9 _ _ h9 => TN_fr hG hF_45 (by decide) k9 v9 h9)
            obtain ⟨hP1, hP2, hP3, hP4, hP5⟩ := L_pre hMS3 (by subst hj1; omega)
            have hst0 := (hMS.1.2.1 x.toInt (by subst hj1; omega) (Int.le_refl _)).1
            refine lv_aload_n hx hb dX4_readOne_114 rfl (lv_at hl 1 rfl) ?_
            refine lv_iload_n hx hb dX4_readOne_115 rfl (lv_at hl 0 rfl) ?_
            refine lv_iload_n hx hb dX4_readOne_116 rfl (lv_at hl 2 rfl) ?_
            obtain ⟨fa_48, pl_48, fg_48⟩ := op_13 hI (gm_13 hG) (gs_13 hG)
            refine call_p (va_runV (As := [.int kd_4, .int x]) (rest := []) ⟨hx, hb, hml, hown, hts⟩ (t_X4_joinGroupm l D cI cR cM _ (lv := lv) (gr := gr) (a8 := (ks i)) (d := D1) (n0 := (top - st x.toInt)) (m0 := (top2_ - top)) (wr := (fun j => w2_ (2 * st x.toInt + j))) (wi := (fun j => w2_ (2 * top + j)))  hj hG hI  (by first | assumption | omega | (subst hj1; omega)) (kk_5) (⟨(hKO i).1, hkg⟩) (by subst hj1; omega) (hRD) (hLv3) (hP1) (hP2) (by subst hj1; omega) (fun q9 => hP4 (by subst hj1; omega)) (srt_sh (by subst hj1; omega) (fun b9 h8 h9 => hP5 b9 h8 (by subst hj1; omega)))) (cwV 2 hts gX4_readOne_X4_joinGroup rfl rfl rfl (by decide +kernel) ⟨Nat.le_of_ble_eq_true rfl, Nat.le_of_ble_eq_true rfl⟩) (pre_T hK hP hD (gm_13 hG) fg_48 rfl) rfl rfl hl.1 rfl (lv_room (Nat.le_of_ble_eq_true rfl)) dX4_readOne_117 ⟨Nat.le_of_ble_eq_true rfl, Nat.le_of_ble_eq_true rfl⟩) hD hS hA (fun u_49 H locs hw hP hD hS => ?_)
            obtain ⟨r_49, f_49⟩ := u_49
            obtain ⟨hI, hF_49, hp_49, hfx_49, h01_49⟩ : IN jn cI cR cM g L S f_49 ∧ FR S [0, 1, 13] f_45 f_49 ∧ ((r_49.toInt = 1 ∧ (top - st x.toInt) + (top2_ - top) ≤ 24 ∧ ∃ v9 : Int → Int, ChI (ks i) D1 (fun j => w2_ (2 * top + j)) (top2_ - top) v9 ∧ RWf cI jn S f_49 (lv x.toInt.toNat) ((top - st x.toInt) + (top2_ - top)) (fun j => if j < 2 * (top - st x.toInt) then (fun j => w2_ (2 * st x.toInt + j)) j else v9 (j - 2 * (top - st x.toInt)))) ∨ (r_49.toInt = 0 ∧ (24 < (top - st x.toInt) + (top2_ - top) ∨ ChIF (ks i) (fun j => w2_ (2 * top + j)) (top2_ - top)))) ∧ (FX S (fun a9 => a9 = lv x.toInt.toNat ∨ a9 = g 25) [13] f_45 f_49) ∧ (r_49.toInt = 0 ∨ r_49.toInt = 1) := hw
            have hP : va_P D vwCl (va_pl L f_49) H := hP
            have hD : va_D A (va_pl L f_49) := hD
            have hF := FR_tr hF hF_49 (by decide)
            have hFX := FX_tr hFX hfx_49 (fun a9 h9 => h9.elim (fun q9 => Or.inl ⟨x.toInt.toNat, Nat.le_refl _, by omega, q9⟩) (fun q9 => Or.inr (Or.inr q9))) (by decide)
            refine a_if_eq (u := r_49.toInt) (tgt := 127) hx hb dX4_readOne_120 (by decide) (rfl) (fun c_50 => ?_) (fun c_50 => ?_)
            · refine lv_iconst (v := 0) hx hb dX4_readOne_127 (by decide) ?_
              have hz_51 : (0 : Int32).toInt = 0 := by decide
              exact g_zret ((0 : Int32), f_49) hx hb hr hlocks hS (by first | exact Or.inl rfl | exact Or.inr rfl) rfl (⟨hI, hF, show Hd (((0 : Int32).toInt = 1 ∧ OneR cI jn g lv S f_49 ks vs E i x.toInt top one may isO w st op dg st1 op1 dg1) ∨ ((0 : Int32).toInt = 0 ∧ Fls ks vs E (i, x.toInt, top, one, may, isO, w, st1, op1, dg1))) from (by
                have h8 := (hp_49.resolve_left (fun q9 => by have := q9.1; omega)).2
                refine Or.inr ⟨rfl, Fls_tr (Go_tr (Go_1 hs1) hq0) (Fls_0 (F_closes hk41 rfl (by subst hj1; omega) ?_))⟩
                have t1 : st2_ (x.toInt + 1 - 1) = st x.toInt := by rw [show x.toInt + 1 - 1 = x.toInt by omega, hqs _ (by subst hj1; omega) (by subst hj1; omega), fu_n (by subst hj1; omega)]
                have t2 : st2_ (x.toInt + 1) = top := by rw [hqs _ (by subst hj1; omega) (by subst hj1; omega), fu_s]
                have t3 : op2_ (x.toInt + 1 - 1) = K1 := by rw [show x.toInt + 1 - 1 = x.toInt by omega, (hqo _ (by subst hj1; omega) (by subst hj1; omega)).1, fu_s]
                rw [t1, t2, t3]
                exact h8.imp (fun q9 => by omega) (fun q9 => Ch_upF q9 hK1)), show ∀ k9 v9 : Int, 0 ≤ k9 → k9 < x.toInt → TNf cI g f k9 v9 → TNf cI g f_49 k9 v9 from (fun k9 v9 h7 h8 h9 => TN_fr hG hF_49 (by decide) k9 v9 (TN_fr hG hF_45 (by decide) k9 v9 (htn_40 k9 v9 h7 (by subst hj1; omega) (ht_35 k9 v9 h7 (by subst hj1; omega) h9)))), show FX S (BXp g lv x.toInt) [13, 14, 34] f f_49 from (by first | assumption | omega | (subst hj1; omega)), show (0 : Int32).toInt = 0 ∨ (0 : Int32).toInt = 1 from (by first | assumption | omega | (subst hj1; omega))⟩) hP hD hQ (Nat.le_of_ble_eq_true rfl) (Nat.le_of_ble_eq_true rfl) dX4_readOne_128
            · obtain ⟨-, hj5, v9_, hj6, hj7⟩ := hp_49.resolve_right (fun q9 => by have := q9.1; omega)
              obtain ⟨w3_, hc1, hc2, hc3⟩ := L_close (f := f) (ks := ks) (vs := vs) (E := E) (i := i2_) (one := one2_) (may := may2_) (a := ks i) (K := K1) (D := D1) (w := w) (st := st) (op := op) (dg := dg) (st2 := st2_) (op2 := op2_) (dg2 := dg2_) hP5 (fun top9 w9 q1 q2 q3 => MSb_fx hMS.1 hFX (by decide) (nb_lv hRD (by subst hj1; omega)) (fun k9 v9 h7 h8 h9 => TN_fr hG hF_49 (by decide) k9 v9 (TN_fr hG hF_45 (by decide) k9 v9 (htn_40 k9 v9 h7 (by subst hj1; omega) (ht_35 k9 v9 h7 (by subst hj1; omega) h9)))) q1 q2 q3) (fun j9 h8 h9 => hqa j9 h8 (by rw [fu_s]; exact h9)) hst0 (by subst hj1; omega) (by subst hj1; omega) hqt hk41 (by rw [hqs _ (by subst hj1; omega) (by subst hj1; omega), fu_n (by subst hj1; omega)]) (by rw [hqs _ (by subst hj1; omega) (by subst hj1; omega), fu_s]) (by rw [(hqo _ (by subst hj1; omega) (by subst hj1; omega)).1, fu_s]) (by rw [(hqo _ (by subst hj1; omega) (by subst hj1; omega)).2, fu_s]) hK1 (by subst hj1; omega) hj6 hj7
              refine lv_iconst (v := 1) hx hb dX4_readOne_123 (by decide) ?_
              refine lv_goto (tgt := 128) hx hb dX4_readOne_124 (by decide) ?_
              have hz_52 : (1 : Int32).toInt = 1 := by decide
              exact g_zret ((1 : Int32), f_49) hx hb hr hlocks hS (by first | exact Or.inl rfl | exact Or.inr rfl) rfl (⟨hI, hF, show Hd (((1 : Int32).toInt = 1 ∧ OneR cI jn g lv S f_49 ks vs E i x.toInt top one may isO w st op dg st1 op1 dg1) ∨ ((1 : Int32).toInt = 0 ∧ Fls ks vs E (i, x.toInt, top, one, may, isO, w, st1, op1, dg1))) from (Or.inl ⟨rfl, i2_ + 1, top2_, w3_, st2_, op2_, dg2_, Go_tr (Go_1 hs1) (Go_tr hq0 (Go_1 hc1)), by omega, by omega, TKm_fr hq5 hG hF_49 (by decide), hc2, fun k9 h8 h7 => by rw [hqs k9 h8 (by subst hj1; omega), fu_n (show k9 ≠ x.toInt + 1 by omega)], fun k9 h8 h7 => by rw [(hqo k9 h8 (by subst hj1; omega)).1, (hqo k9 h8 (by subst hj1; omega)).2, fu_n (show k9 ≠ x.toInt by omega), fu_n (show k9 ≠ x.toInt by omega)]; exact ⟨rfl, rfl⟩, hc3⟩), show ∀ k9 v9 : Int, 0 ≤ k9 → k9 < x.toInt → TNf cI g f k9 v9 → TNf cI g f_49 k9 v9 from (fun k9 v9 h7 h8 h9 => TN_fr hG hF_49 (by decide) k9 v9 (TN_fr hG hF_45 (by decide) k9 v9 (htn_40 k9 v9 h7 (by subst hj1; omega) (ht_35 k9 v9 h7 (by subst hj1; omega) h9)))), show FX S (BXp g lv x.toInt) [13, 14, 34] f f_49 from (by first | assumption | omega | (subst hj1; omega)), show (1 : Int32).toInt = 0 ∨ (1 : Int32).toInt = 1 from (by first | assumption | omega | (subst hj1; omega))⟩) hP hD hQ (Nat.le_of_ble_eq_true rfl) (Nat.le_of_ble_eq_true rfl) dX4_readOne_128
  · refine lv_aload_n hx hb dX4_readOne_7 rfl (lv_at hl 0 rfl) ?_
    refine lv_iconst (v := 1) hx hb dX4_readOne_8 (by decide) ?_
    have hz_53 : (1 : Int32).toInt = 1 := by decide
    refine call_p (va_runV (As := [.int 1]) (rest := []) ⟨hx, hb, hml, hown, hts⟩ (t_X4_fail l D cI cR cM _   hj hG hI  ) (cwV 1 hts gX4_readOne_X4_fail rfl rfl rfl (by decide +kernel) ⟨Nat.le_of_ble_eq_true rfl, Nat.le_of_ble_eq_true rfl⟩) (pre_T hK hP hD (gm_13 hG) fg_1 rfl) rfl rfl hl.1 rfl (lv_room (Nat.le_of_ble_eq_true rfl)) dX4_readOne_9 ⟨Nat.le_of_ble_eq_true rfl, Nat.le_of_ble_eq_true rfl⟩) hD hS hA (fun u_54 H locs hw hP hD hS => ?_)
    obtain ⟨r_54, f_54⟩ := u_54
    obtain ⟨hI, hF_54, h0_54, h01_54⟩ : IN jn cI cR cM g L S f_54 ∧ FR S [13] f f_54 ∧ (r_54.toInt = 0) ∧ (r_54.toInt = 0 ∨ r_54.toInt = 1) := hw
    have hP : va_P D vwCl (va_pl L f_54) H := hP
    have hD : va_D A (va_pl L f_54) := hD
    have hF := FR_tr hF hF_54 (by decide)
    have hFX := FX_trR hFX hF_54 (by decide) (by decide)
    exact g_zret (r_54, f_54) hx hb hr hlocks hS (b01 (by subst hj1; omega)) rfl (⟨hI, hF, show Hd ((r_54.toInt = 1 ∧ OneR cI jn g lv S f_54 ks vs E i x.toInt top one may isO w st op dg st1 op1 dg1) ∨ (r_54.toInt = 0 ∧ Fls ks vs E (i, x.toInt, top, one, may, isO, w, st1, op1, dg1))) from (Or.inr ⟨h0_54, by
      have h8 := (hp_2.resolve_left (fun q9 => by have := q9.1; omega)).2
      obtain ⟨e1, e2⟩ := hbg.resolve_right h8
      rw [e1, e2]
      exact L_none h8⟩), show ∀ k9 v9 : Int, 0 ≤ k9 → k9 < x.toInt → TNf cI g f k9 v9 → TNf cI g f_54 k9 v9 from (fun k9 v9 _ _ h9 => TN_fr hG hF_54 (by decide) k9 v9 h9), show FX S (BXp g lv x.toInt) [13, 14, 34] f f_54 from (by first | assumption | omega | (subst hj1; omega)), show r_54.toInt = 0 ∨ r_54.toInt = 1 from (by first | assumption | omega | (subst hj1; omega))⟩) hP hD hQ (Nat.le_of_ble_eq_true rfl) (Nat.le_of_ble_eq_true rfl) dX4_readOne_12
set_option maxRecDepth 100000 in
set_option maxHeartbeats 4000000 in
theorem t_X4_readSequencem_3 (l : Launch) (D : va_G) (cI cR cM : ClassId) (sz : Nat) {jn : Nat} {g : Nat → Nat} {L : List Nat} {S : Sg} {f : Nat → va_E} {x : Int32} {ks vs : Nat → Int} {i : Nat} {lv gr : Nat → Nat} {E : Env1} {F : Int → Int} {top one : Int} {w st op dg st1 op1 dg1 : Int → Int} (hj : 1 ≤ jn ∧ jn ≤ 3) (hG : SG g L S) (hI : IN jn cI cR cM g L S f) (hj1 : jn = 1) (hC : TKm cI g ks vs f i) (hKO : KO ks vs) (hRD : RDC g lv gr S) (hLv : LvC cR g lv f) (hEC : EnvC cI cR jn g lv gr S f E F) (hEO : EOk E) (hx0 : 0 ≤ x.toInt ∧ x.toInt ≤ 5) (hd : 3 ≤ x.toInt) (hMS : MSb cI jn g lv S f x.toInt top w st op dg) (htop : st x.toInt = top) (hst : ∀ k9 : Int, 0 ≤ k9 → k9 ≤ x.toInt → st1 k9 = st k9) (hop : ∀ k9 : Int, 0 ≤ k9 → k9 < x.toInt → op1 k9 = op k9 ∧ dg1 k9 = dg k9) : Met l yX4_readSequence wsX4_readSequence ({ frames := 8, cells := 0, slots := 0, locals := 225 }) (P0 D cI cR cM [.ref (g 13), .int x] sz (va_pl L f)) (QG (S := Int32 × (Nat → va_E)) (fun u => some (.int u.1)) (fun u => va_pl L u.2) (fun u => IN jn cI cR cM g L S u.2 ∧ FR S [0, 1, 13, 14, 34] f u.2 ∧ (Hd ((u.1.toInt = 1 ∧ SeqR cI jn g lv S u.2 ks vs E i x.toInt top one w st op dg st1 op1 dg1) ∨ (u.1.toInt = 0 ∧ Fls ks vs E (i, x.toInt, top, one, 0, 0, w, st1, op1, dg1)))) ∧ (∀ k9 v9 : Int, 0 ≤ k9 → k9 < x.toInt → TNf cI g f k9 v9 → TNf cI g u.2 k9 v9) ∧ (FX S (BXp g lv x.toInt) [13, 14, 34] f u.2) ∧ (u.1.toInt = 0 ∨ u.1.toInt = 1)) D (va_A (va_pl L f) sz)) 0 0 (va_A (va_pl L f) sz) := by
  refine go (cc := cX4_readSequence) (maxL := 5) (ret := (some .boolean)) (by decide +kernel) rfl (Nat.le_of_ble_eq_true rfl) ?_
  intro p e s m below meth c ls args Q hQ hsz hx hb hr hml hts hown hlocks hnm hP hK hD hl
  subst hsz
  have hD := hD.self (sz := s.heap.size)
  generalize hAe : va_A (va_pl L f) s.heap.size = A at hD hQ
  have hA : ∀ q, s.heap.size ≤ q → A q := fun q h => by rw [← hAe]; exact Or.inr h
  have hS : va_S A s.heap s.heap [] := va_S.rf
  have hFX : FX S (BXp g lv x.toInt) [13, 14, 34] f f := FX_rf
  have hF : FR S [0, 1, 13, 14, 34] f f := FR_rf
  have hl : lv_has ls 5 [(0, .ref (g 13)), (1, .int x)] := hl
  refine lv_iload_n hx hb dX4_readSequence_0 rfl (lv_at hl 1 rfl) ?_
  refine a_if_lt (u := x.toInt) (tgt := 9) hx hb dX4_readSequence_1 (by decide) (rfl) (fun c_1 => absurd c_1 (by subst hj1; omega)) (fun c_1 => ?_)
  refine lv_iload_n hx hb dX4_readSequence_4 rfl (lv_at hl 1 rfl) ?_
  refine lv_iconst (v := 5) hx hb dX4_readSequence_5 (by decide) ?_
  refine a_icmp_le (u := x.toInt) (v := 5) (tgt := 15) hx hb dX4_readSequence_6 (by decide) (rfl) (by decide) (fun c_2 => ?_) (fun c_2 => absurd c_2 (by subst hj1; omega))
  refine lv_aload_n hx hb dX4_readSequence_15 rfl (lv_at hl 0 rfl) ?_
  obtain ⟨fa_3, pl_3, fg_3⟩ := op_13 hI (gm_13 hG) (gs_13 hG)
  refine t_get (D := D) (L := L) (f := f) (ci := 4) (v := .ref (g 22)) (C := RX4) (T := TX4) (N := 11) hx hb hts (by decide +kernel) hown hK.1 hP (gm_13 hG) fg_3 rfl 3 (by decide) (hts (.fieldLink RX4 13 "JugglingHall$Reader" "levels" "[LJugglingHall$Row;") (by decide +kernel)) (fun _ h9 => h9) rfl dX4_readSequence_16 ?_
  refine lv_iload_n hx hb dX4_readSequence_19 rfl (lv_at hl 1 rfl) ?_
  obtain ⟨c_4, fg_4, iv0_4⟩ := op_22 hI (gm_22 hG) (gs_22 hG)
  refine t_aald (L := L) (f := f) (y := c_4) (u := x.toInt) hx hb hK.1 hP (gm_22 hG) 1 fg_4 rfl dX4_readSequence_20 (rfl) (by subst hj1; omega) (fun w_5 q_5 => ?_)
  obtain ⟨r_5, p_5, n_5, er_5, m_5, s_5⟩ := iv0_4 x.toInt (by subst hj1; omega) (by subst hj1; omega)
  have q_5 := q_5.trans er_5
  subst q_5
  refine W.eq (g2 := F0 m 21 ls [.ref r_5]) rfl ?_
  have hh_5 : r_5 = lv x.toInt.toNat := LvC_at (l := x.toInt) hLv fg_4 (by subst hj1; omega) (by subst hj1; omega) (by rw [show x.toInt = x.toInt by omega]; exact er_5)
  have hN_5 := cap_of (S := S) (a := r_5) (k := 48) (by rw [hh_5]; exact (hRD.2.1 _ (by subst hj1; omega)).1) s_5
  obtain ⟨len_6, fg_6, v1_6, v2_6, v3_6, mp_6, sp_6⟩ := op_0 hI m_5 s_5
  obtain ⟨w1_6, w2_6, w3_6, w4_6, w5_6⟩ := lenw hj v1_6 v2_6 v3_6
  obtain ⟨c_7, fg_7, iv0_7⟩ := op_1 hI mp_6 sp_6
  refine lv_astore_n (lv' := [(2, .ref r_5), (0, .ref (g 13)), (1, .int x)]) hx hb dX4_readSequence_21 rfl hl (by decide) rfl (fun ls hl => ?_)
  refine lv_aload_n hx hb dX4_readSequence_22 rfl (lv_at hl 0 rfl) ?_
  refine lv_iconst (v := 0) hx hb dX4_readSequence_23 (by decide) ?_
  have hz_9 : (0 : Int32).toInt = 0 := by decide
  refine t_putN (D := D) (L := L) (f := f) (ci := 5) (v := .int 0) (ty := .int) (C := RX5) (T := TX5) (N := 4) (host := "JugglingHall") hx hb hts (by decide +kernel) tyX5 tyX5_ok nmX5 hown hK.1 hP hD hS m_5 fg_6 rfl 3 (by decide) (hK.nw (.fieldLinkNest RX4 62 "JugglingHall$Row" "length" "I" "JugglingHall") (by decide +kernel) rfl) (fun _ h9 => h9) rfl (by decide +kernel) rfl rfl (Nat.le_of_ble_eq_true rfl) dX4_readSequence_24 (fun f_8 H locs e9_8 o_8 hP hD hS => ?_)
  have fa_8 : f_8 r_5 = .inr (5, [.int (nI jn), .int (nI (2 * jn)), .ref p_5, .int 0]) := e9_8
  have hI := IN_set (e := .inr (5, [.int (nI jn), .int (nI (2 * jn)), .ref p_5, .int 0])) hI s_5 (mk_0 (by first | assumption | omega | (subst hj1; omega)) (by rw [show (0 : Int32).toInt = 0 from rfl, Int.zero_mul]; omega) (by first | assumption | omega | (subst hj1; omega)) (by first | assumption | omega | (subst hj1; omega)) (by first | assumption | omega | (subst hj1; omega))) fa_8 o_8
  have hF := FR_set hF s_5 (show (0 : Nat) ∈ ([0, 1, 13, 14, 34] : List Nat) by decide) o_8
  have hFX := FX_set0 hFX s_5 (Or.inl ⟨x.toInt.toNat, Nat.le_refl _, by omega, hh_5⟩) o_8
  have fb_10 : f_8 (g 13) = .inr (4, [.int (nI jn), .ref (g 14), .ref (g 12), .ref (g 22), .ref (g 34), .ref (g 23), .ref (g 24), .ref (g 25), .ref (g 26), .int fa_3, .int pl_3]) := f_at o_8 (S_ne (gs_13 hG) s_5 (show (13 : Nat) ≠ 0 by decide)) fg_3
  have fb_11 : f_8 (g 22) = .inl (cR, 6, .inr (.inr (.inr (.inr c_4)))) := f_at o_8 (S_ne (gs_22 hG) s_5 (show (22 : Nat) ≠ 0 by decide)) fg_4
  have fb_12 : f_8 p_5 = .inl (cI, n_5, .inl c_7) := f_at o_8 (S_ne sp_6 s_5 (show (1 : Nat) ≠ 0 by decide)) fg_7
  have hC1 : TKm cI g ks vs f_8 i := TKm_o hC hG s_5 (show (0 : Nat) ∉ ([14, 31, 32] : List Nat) by decide) o_8
  have hLv1 := LvC_fr hLv hG hF (by decide)
  have hEC1 := EnvC_fx hEC hG hF hFX (by decide) (by decide) (nb_gr hRD) nb_nr
  have htl1 : ∀ k9 v9 : Int, 0 ≤ k9 → k9 < x.toInt → TNf cI g f k9 v9 → TNf cI g f_8 k9 v9 := fun k9 v9 _ _ h9 => TN_o hG s_5 (show (0 : Nat) ≠ 34 by decide) o_8 k9 v9 h9
  have hM1 : MSt cI jn g lv S f_8 x.toInt top w st op dg := ⟨MSb_fx hMS hFX (by decide) (nb_lv hRD (by subst hj1; omega)) htl1 (fun _ _ _ => rfl) (by subst hj1; omega) hMS.2.2.2.2, by omega, RWf_e (b := r_5) ⟨_, _, _, _, s_5, sp_6, fa_8, fb_12, by rw [show (0 : Int32).toInt = 0 from rfl]; omega, fun i9 h8 h9 => absurd h9 (by subst hj1; omega)⟩ hh_5.symm⟩
  refine lv_iconst (v := 0) hx hb dX4_readSequence_27 (by decide) ?_
  refine lv_istore_n (lv' := [(3, .int 0), (2, .ref r_5), (0, .ref (g 13)), (1, .int x)]) hx hb dX4_readSequence_28 rfl hl (by decide) rfl (fun ls hl => ?_)
  have loop29 : ∀ (ddloop29 : Nat) (ii : Int32) (f_13 : Nat → va_E) (H : Heap) (locs : List Loc) (ls : Array Slot), (400 - ii.toInt).toNat < ddloop29 → IN jn cI cR cM g L S f_13 → FR S [0, 1, 13, 14, 34] f f_13 → (0 ≤ ii.toInt ∧ ii.toInt ≤ 301) → (Hd (∃ (i2 : Nat) (top2 one2 may2 isO2 : Int) (w2 st2 op2 dg2 : Int → Int), SeqI cI jn g lv S f_13 ks vs E i x.toInt top one w st op dg st1 op1 dg1 ii.toInt i2 top2 one2 may2 isO2 w2 st2 op2 dg2)) → (LvC cR g lv f_13) → (EnvC cI cR jn g lv gr S f_13 E F) → (∀ k9 v9 : Int, 0 ≤ k9 → k9 < x.toInt → TNf cI g f k9 v9 → TNf cI g f_13 k9 v9) → (FX S (BXp g lv x.toInt) [13, 14, 34] f f_13) → va_P D vwCl (va_pl L f_13) H → va_D A (va_pl L f_13) → va_S A s.heap H locs → lv_has ls 5 [(0, .ref (g 13)), (1, .int x), (2, .ref r_5), (3, .int ii)] → W p l e ({ frames := 8, cells := 0, slots := 0, locals := 225 }) s m args below meth c H locs (0) (0) Q (F0 m 29 ls []) := by
    intro ddloop29
    induction ddloop29 with
    | zero =>
      intro ii f_13 H locs ls hdd
      exact absurd hdd (Nat.not_lt_zero _)
    | succ ddloop29 ih29 =>
      intro ii f_13 H locs ls hdd hI hF hi hSI hLvl hECl htl hFX hP hD hS hl
      obtain ⟨i2, top2, one2, may2, isO2, w2, st2, op2, dg2, j1, j2, j3, j4, j5, j6, j7, j8, j9⟩ := hSI
      have hst0 := (hMS.2.1 x.toInt (by subst hj1; omega) (Int.le_refl _)).1
      have htl0 := j3.1.2.2.2.1
      refine lv_iload_n hx hb dX4_readSequence_29 rfl (lv_at hl 3 rfl) ?_
      refine lv_sipush (v := 300) hx hb dX4_readSequence_30 (by decide) ?_
      refine a_icmp_gt (u := ii.toInt) (v := 300) (tgt := 79) hx hb dX4_readSequence_33 (by decide) (rfl) (by decide) (fun c_14 => ?_) (fun c_14 => ?_)
      · refine lv_iconst (v := 1) hx hb dX4_readSequence_79 (by decide) ?_
        have hz_15 : (1 : Int32).toInt = 1 := by decide
        exact g_zret ((1 : Int32), f_13) hx hb hr hlocks hS (by first | exact Or.inl rfl | exact Or.inr rfl) rfl (⟨hI, hF, show Hd (((1 : Int32).toInt = 1 ∧ SeqR cI jn g lv S f_13 ks vs E i x.toInt top one w st op dg st1 op1 dg1) ∨ ((1 : Int32).toInt = 0 ∧ Fls ks vs E (i, x.toInt, top, one, 0, 0, w, st1, op1, dg1))) from (by
          obtain ⟨e1, e2, e3, e4⟩ := j8.resolve_left (fun q9 => by have := q9.1; omega)
          rw [e2] at j1
          exact Or.inl ⟨rfl, ii.toInt, i2, top2, one2, may2, w2, st2, op2, dg2, ⟨j1, j2, j3, j4, j5, j6, j7, Or.inr ⟨e1, rfl, e3, e4⟩, j9⟩, e1, by have := TKm_end j2 (by subst hj1; omega); omega⟩), show ∀ k9 v9 : Int, 0 ≤ k9 → k9 < x.toInt → TNf cI g f k9 v9 → TNf cI g f_13 k9 v9 from (htl), show FX S (BXp g lv x.toInt) [13, 14, 34] f f_13 from (by first | assumption | omega | (subst hj1; omega)), show (1 : Int32).toInt = 0 ∨ (1 : Int32).toInt = 1 from (by first | assumption | omega | (subst hj1; omega))⟩) hP hD hQ (Nat.le_of_ble_eq_true rfl) (Nat.le_of_ble_eq_true rfl) dX4_readSequence_80
      · refine lv_iload_n hx hb dX4_readSequence_36 rfl (lv_at hl 3 rfl) ?_
        refine a_if_eq (u := ii.toInt) (tgt := 47) hx hb dX4_readSequence_37 (by decide) (rfl) (fun c_16 => ?_) (fun c_16 => ?_)
        · refine lv_aload_n hx hb dX4_readSequence_47 rfl (lv_at hl 2 rfl) ?_
          have hRl := RWf_e j3.2.2 hh_5
          obtain ⟨len_17, fg_17, v1_17, v2_17, v3_17, mp_17, sp_17⟩ := op_0 hI m_5 s_5
          obtain ⟨w1_17, w2_17, w3_17, w4_17, w5_17⟩ := lenw hj v1_17 v2_17 v3_17
          obtain ⟨c_18, fg_18, iv0_18⟩ := op_1 hI mp_6 sp_6
          obtain ⟨hl_19, hc_19⟩ := RWf_at hRl s_5 fg_17 fg_18
          refine t_getN (D := D) (L := L) (f := f_13) (ci := 5) (v := .int len_17) (C := RX5) (T := TX5) (N := 4) (host := "JugglingHall") hx hb hts (by decide +kernel) hown hK.1 hP m_5 fg_17 rfl 3 (by decide) (hK.nw (.fieldLinkNest RX4 62 "JugglingHall$Row" "length" "I" "JugglingHall") (by decide +kernel) rfl) (fun _ h9 => h9) rfl dX4_readSequence_48 ?_
          refine lv_istore (lv' := [(4, .int len_17), (0, .ref (g 13)), (1, .int x), (2, .ref r_5), (3, .int ii)]) hx hb dX4_readSequence_51 hl (by decide) rfl (fun ls hl => ?_)
          refine lv_aload_n hx hb dX4_readSequence_53 rfl (lv_at hl 1 rfl) ?_
          refine lv_iload_n hx hb dX4_readSequence_54 rfl (lv_at hl 2 rfl) ?_
          obtain ⟨fa_20, pl_20, fg_20⟩ := op_13 hI (gm_13 hG) (gs_13 hG)
          refine call_p (va_runV (As := [.int x]) (rest := []) ⟨hx, hb, hml, hown, hts⟩ (t_X4_readOnem_3 l D cI cR cM _ (i := i2) (top := top2) (one := one2) (may := may2) (isO := isO2) (w := w2) (st := st) (op := op) (dg := dg) (st1 := st2) (op1 := op2) (dg1 := dg2) (lv := lv) (gr := gr) (E := E) (F := F) (ks := ks) (vs := vs)  hj hG hI  (by first | assumption | omega | (subst hj1; omega)) (j2) (by first | assumption | omega | (subst hj1; omega)) (by first | assumption | omega | (subst hj1; omega)) (hLvl) (hECl) (by first | assumption | omega | (subst hj1; omega)) (by first | assumption | omega | (subst hj1; omega)) (by first | assumption | omega | (subst hj1; omega)) (j3) (j4) (j5) (j7) (Or.inl (j8.elim (fun q9 => ⟨q9.2.1, q9.2.2.1⟩) (fun q9 => by have := q9.1; omega)))) (cwV 1 hts gX4_readSequence_X4_readOne rfl rfl rfl (by decide +kernel) ⟨Nat.le_of_ble_eq_true rfl, Nat.le_of_ble_eq_true rfl⟩) (pre_T hK hP hD (gm_13 hG) fg_20 rfl) rfl rfl hl.1 rfl (lv_room (Nat.le_of_ble_eq_true rfl)) dX4_readSequence_55 ⟨Nat.le_of_ble_eq_true rfl, Nat.le_of_ble_eq_true rfl⟩) hD hS hA (fun u_21 H locs hw hP hD hS => ?_)
          obtain ⟨r_21, f_21⟩ := u_21
          obtain ⟨hI, hF_21, hp_21, htn_21, hfx_21, h01_21⟩ : IN jn cI cR cM g L S f_21 ∧ FR S [0, 1, 13, 14, 34] f_13 f_21 ∧ (Hd ((r_21.toInt = 1 ∧ OneR cI jn g lv S f_21 ks vs E i2 x.toInt top2 one2 may2 isO2 w2 st op dg st2 op2 dg2) ∨ (r_21.toInt = 0 ∧ Fls ks vs E (i2, x.toInt, top2, one2, may2, isO2, w2, st2, op2, dg2)))) ∧ (∀ k9 v9 : Int, 0 ≤ k9 → k9 < x.toInt → TNf cI g f_13 k9 v9 → TNf cI g f_21 k9 v9) ∧ (FX S (BXp g lv x.toInt) [13, 14, 34] f_13 f_21) ∧ (r_21.toInt = 0 ∨ r_21.toInt = 1) := hw
          have hP : va_P D vwCl (va_pl L f_21) H := hP
          have hD : va_D A (va_pl L f_21) := hD
          have hF := FR_tr hF hF_21 (by decide)
          have hFX := FX_tr hFX hfx_21 (fun _ h9 => h9) (by decide)
          refine a_if_eq (u := r_21.toInt) (tgt := 71) hx hb dX4_readSequence_58 (by decide) (rfl) (fun c_22 => ?_) (fun c_22 => ?_)
          · refine lv_iconst (v := 0) hx hb dX4_readSequence_71 (by decide) ?_
            have hz_23 : (0 : Int32).toInt = 0 := by decide
            exact g_zret ((0 : Int32), f_21) hx hb hr hlocks hS (by first | exact Or.inl rfl | exact Or.inr rfl) rfl (⟨hI, hF, show Hd (((0 : Int32).toInt = 1 ∧ SeqR cI jn g lv S f_21 ks vs E i x.toInt top one w st op dg st1 op1 dg1) ∨ ((0 : Int32).toInt = 0 ∧ Fls ks vs E (i, x.toInt, top, one, 0, 0, w, st1, op1, dg1))) from (Or.inr ⟨rfl, Fls_tr j1 (hp_21.resolve_left (fun q9 => by have := q9.1; omega)).2⟩), show ∀ k9 v9 : Int, 0 ≤ k9 → k9 < x.toInt → TNf cI g f k9 v9 → TNf cI g f_21 k9 v9 from (fun k9 v9 h7 h8 h9 => htn_21 k9 v9 h7 h8 (htl k9 v9 h7 h8 h9)), show FX S (BXp g lv x.toInt) [13, 14, 34] f f_21 from (by first | assumption | omega | (subst hj1; omega)), show (0 : Int32).toInt = 0 ∨ (0 : Int32).toInt = 1 from (by first | assumption | omega | (subst hj1; omega))⟩) hP hD hQ (Nat.le_of_ble_eq_true rfl) (Nat.le_of_ble_eq_true rfl) dX4_readSequence_72
          · obtain ⟨-, i3_, top3_, w3_, st3_, op3_, dg3_, j1_, j2_, j3_, j4_, j5_, j6_, j7_, j8_⟩ := hp_21.resolve_right (fun q9 => by have := q9.1; omega)
            have hLv2 := LvC_fr hLvl hG hF_21 (by decide)
            have hEC2 := EnvC_fx hECl hG hF_21 hfx_21 (by decide) (by decide) (nb_gr hRD) nb_nr
            have htl2 := j5_.1.2.2.2.1
            refine lv_aload_n hx hb dX4_readSequence_61 rfl (lv_at hl 1 rfl) ?_
            refine lv_aload_n hx hb dX4_readSequence_62 rfl (lv_at hl 3 rfl) ?_
            refine lv_iload hx hb dX4_readSequence_63 (lv_at hl 0 rfl) ?_
            have hRo := RWf_e j5_.2.2 hh_5
            have hlf : len_17.toInt = top2 - st x.toInt := hl_19
            obtain ⟨len_24, fg_24, v1_24, v2_24, v3_24, mp_24, sp_24⟩ := op_0 hI m_5 s_5
            obtain ⟨w1_24, w2_24, w3_24, w4_24, w5_24⟩ := lenw hj v1_24 v2_24 v3_24
            obtain ⟨c_25, fg_25, iv0_25⟩ := op_1 hI mp_6 sp_6
            obtain ⟨hl_26, hc_26⟩ := RWf_at hRo s_5 fg_24 fg_25
            obtain ⟨fa_27, pl_27, fg_27⟩ := op_13 hI (gm_13 hG) (gs_13 hG)
            refine call_p (va_runV (As := [.ref r_5, .int len_17]) (rest := []) ⟨hx, hb, hml, hown, hts⟩ (t_X4_readTimesm l D cI cR cM _ (ks := ks) (vs := vs) (i := i3_) (w := (fun j => w3_ (2 * st x.toInt + j)))  hj hG hI m_5 s_5 fg_24 fg_25 (by first | assumption | omega | (subst hj1; omega)) (j4_) (by first | assumption | omega | (subst hj1; omega)) (by subst hj1; omega) (by rw [hl_26]; exact hc_26)) (cwV 2 hts gX4_readSequence_X4_readTimes rfl rfl rfl (by decide +kernel) ⟨Nat.le_of_ble_eq_true rfl, Nat.le_of_ble_eq_true rfl⟩) (pre_T hK hP hD (gm_13 hG) fg_27 rfl) rfl rfl hl.1 rfl (lv_room (Nat.le_of_ble_eq_true rfl)) dX4_readSequence_65 ⟨Nat.le_of_ble_eq_true rfl, Nat.le_of_ble_eq_true rfl⟩) hD hS hA (fun u_28 H locs hw hP hD hS => ?_)
            obtain ⟨r_28, f_28⟩ := u_28
            obtain ⟨hI, hF_28, hp_28, hfx_28, h01_28⟩ : IN jn cI cR cM g L S f_28 ∧ FR S [0, 1, 13, 14] f_21 f_28 ∧ ((r_28.toInt = 1 ∧ ((ks i3_ ≠ 42 ∧ TKm cI g ks vs f_28 i3_ ∧ RWf cI jn S f_28 r_5 len_24.toInt (fun j => w3_ (2 * st x.toInt + j))) ∨ (ks i3_ = 42 ∧ ks (i3_ + 1) = 1 ∧ vs (i3_ + 1) ≠ 0 ∧ TKm cI g ks vs f_28 (i3_ + 1 + 1) ∧ 2 * (len_24.toInt + (vs (i3_ + 1) - 1) * (len_24.toInt - len_17.toInt)) ≤ (n_5 : Int) ∧ RWf cI jn S f_28 r_5 (len_24.toInt + (vs (i3_ + 1) - 1) * (len_24.toInt - len_17.toInt)) (tmW (fun j => w3_ (2 * st x.toInt + j)) len_24.toInt len_17.toInt)))) ∨ (r_28.toInt = 0 ∧ ks i3_ = 42 ∧ ¬ (ks (i3_ + 1) = 1 ∧ vs (i3_ + 1) ≠ 0 ∧ 2 * (len_24.toInt + (vs (i3_ + 1) - 1) * (len_24.toInt - len_17.toInt)) ≤ (n_5 : Int)))) ∧ (FX S (fun a9 => a9 = r_5) [13, 14] f_21 f_28) ∧ (r_28.toInt = 0 ∨ r_28.toInt = 1) := hw
            have hP : va_P D vwCl (va_pl L f_28) H := hP
            have hD : va_D A (va_pl L f_28) := hD
            have hF := FR_tr hF hF_28 (by decide)
            have hFX := FX_tr hFX hfx_28 (fun a9 h9 => Or.inl ⟨x.toInt.toNat, Nat.le_refl _, by omega, h9.trans hh_5⟩) (by decide)
            refine a_if_ne (u := r_28.toInt) (tgt := 73) hx hb dX4_readSequence_68 (by decide) (rfl) (fun c_29 => ?_) (fun c_29 => ?_)
            · obtain ⟨z_30, q_30, e_30⟩ := i_inc (a := ii.toInt) (1) (rfl) (by decide) (by subst hj1; omega) (by subst hj1; omega)
              refine lv_iinc (v := z_30) (lv' := [(3, .int z_30), (4, .int len_17), (0, .ref (g 13)), (1, .int x), (2, .ref r_5)]) hx hb dX4_readSequence_73 hl (k := 4) rfl q_30 (by decide) rfl (fun ls hl => ?_)
              refine lv_goto (tgt := 29) hx hb dX4_readSequence_76 (by decide) ?_
              exact ih29 z_30 f_28 _ _ _ (by subst hj1; omega) hI hF (by first | assumption | omega | (subst hj1; omega)) (by
                rw [hl_26] at hp_28
                rw [hlf] at hp_28
                obtain ⟨-, h9⟩ := hp_28.resolve_right (fun q9 => by have := q9.1; omega)
                rcases h9 with ⟨h1, h2, h3⟩ | ⟨h1, h2, h3, h4, h5, h6⟩
                · exact ⟨i3_, top3_, top2, 1, 1, w3_, st3_, op3_, dg3_, Go_tr j1 j1_, h2, ⟨MSb_rf j5_.1 hfx_28 (by decide) (fun k9 h8 h7 q9 => (hRD.2.2.2.2.1 k9.toNat x.toInt.toNat (by subst hj1; omega) (by subst hj1; omega) (by subst hj1; omega)) (q9.trans hh_5)) (fun k9 v9 _ _ h9 => TN_fr hG hF_28 (by decide) k9 v9 h9), j5_.2.1, RWf_e h3 hh_5.symm⟩, j6_, j7_, fun j9 h8 h9 => by rw [j8_ j9 h8 h9]; exact j6 j9 h8 h9, fun q9 => h1 q9.2, Or.inr ⟨by omega, rfl, by omega, by omega⟩, by omega⟩
                · rw [show top3_ - st x.toInt - (top2 - st x.toInt) = top3_ - top2 by omega] at h5 h6
                  have h6 := RWf_e h6 hh_5.symm
                  obtain ⟨q1, q2, q3⟩ := L_times (E := E) (i := i3_) (one := top2) (isO := 1) (op1 := op3_) (dg1 := dg3_) (may := 1) j5_ (fun top9 w9 q1 q2 q3 => MSb_fx j5_.1 hfx_28 (by decide) (fun k9 h8 h7 q9 => (hRD.2.2.2.2.1 k9.toNat x.toInt.toNat (by subst hj1; omega) (by subst hj1; omega) (by subst hj1; omega)) (q9.trans hh_5)) (fun k9 v9 _ _ h9 => TN_fr hG hF_28 (by decide) k9 v9 h9) q1 q2 q3) rfl (j6_ _ (by subst hj1; omega) (Int.le_refl _)) h1 h2 h3 (by have := (hKO (i3_ + 1)).2.1 h2; omega) (by subst hj1; omega) (by subst hj1; omega) h6
                  have hm0 : 0 ≤ (vs (i3_ + 1) - 1) * (top3_ - top2) := Int.mul_nonneg (by have := (hKO (i3_ + 1)).2.1 h2; omega) (by subst hj1; omega)
                  exact ⟨i3_ + 2, _, top2, 0, 1, _, st3_, op3_, dg3_, Go_tr j1 (Go_tr j1_ (Go_1 q1)), h4, q2, j6_, j7_, fun j9 h8 h9 => (q3 j9 h8 h9).trans ((j8_ j9 h8 h9).trans (j6 j9 h8 h9)), fun q9 => absurd q9.1 (by decide), Or.inr ⟨by omega, rfl, by omega, by omega⟩, by omega⟩) (LvC_fr hLv2 hG hF_28 (by decide)) (EnvC_fx hEC2 hG hF_28 hfx_28 (by decide) (by decide) (fun k9 h9 q9 => hRD.2.2.2.1 x.toInt.toNat k9 (by subst hj1; omega) h9 (hh_5.symm.trans q9.symm)) (fun r9 h9 q9 => h9 (Or.inl ⟨x.toInt.toNat, by omega, q9.trans hh_5⟩))) (fun k9 v9 h7 h8 h9 => TN_fr hG hF_28 (by decide) k9 v9 (htn_21 k9 v9 h7 h8 (htl k9 v9 h7 h8 h9))) (by first | assumption | omega | (subst hj1; omega)) hP hD hS (lv_sub hl [2, 3, 4, 0] rfl)
            · refine lv_iconst (v := 0) hx hb dX4_readSequence_71 (by decide) ?_
              have hz_31 : (0 : Int32).toInt = 0 := by decide
              exact g_zret ((0 : Int32), f_28) hx hb hr hlocks hS (by first | exact Or.inl rfl | exact Or.inr rfl) rfl (⟨hI, hF, show Hd (((0 : Int32).toInt = 1 ∧ SeqR cI jn g lv S f_28 ks vs E i x.toInt top one w st op dg st1 op1 dg1) ∨ ((0 : Int32).toInt = 0 ∧ Fls ks vs E (i, x.toInt, top, one, 0, 0, w, st1, op1, dg1))) from (by
                rw [hl_26] at hp_28
                rw [hlf] at hp_28
                obtain ⟨-, h1, h2⟩ := hp_28.resolve_left (fun q9 => by have := q9.1; omega)
                refine Or.inr ⟨rfl, Fls_tr (Go_tr j1 j1_) (Fls_0 (F_times rfl h1 ?_))⟩
                rw [j6_ _ (by subst hj1; omega) (Int.le_refl _)]
                rw [show top3_ - st x.toInt - (top2 - st x.toInt) = top3_ - top2 by omega] at h2
                exact fun q9 => h2 ⟨q9.1, q9.2.1, by have := q9.2.2; omega⟩), show ∀ k9 v9 : Int, 0 ≤ k9 → k9 < x.toInt → TNf cI g f k9 v9 → TNf cI g f_28 k9 v9 from (fun k9 v9 h7 h8 h9 => TN_fr hG hF_28 (by decide) k9 v9 (htn_21 k9 v9 h7 h8 (htl k9 v9 h7 h8 h9))), show FX S (BXp g lv x.toInt) [13, 14, 34] f f_28 from (by first | assumption | omega | (subst hj1; omega)), show (0 : Int32).toInt = 0 ∨ (0 : Int32).toInt = 1 from (by first | assumption | omega | (subst hj1; omega))⟩) hP hD hQ (Nat.le_of_ble_eq_true rfl) (Nat.le_of_ble_eq_true rfl) dX4_readSequence_72
        · refine lv_aload_n hx hb dX4_readSequence_40 rfl (lv_at hl 0 rfl) ?_
          obtain ⟨fa_32, pl_32, fg_32⟩ := op_13 hI (gm_13 hG) (gs_13 hG)
          refine roP (va_runV (As := []) (rest := []) ⟨hx, hb, hml, hown, hts⟩ (t_X4_beginsOnem l D cI cR cM _ (ks := ks) (vs := vs) (i := i2)  hj hG hI  (by first | assumption | omega | (subst hj1; omega)) (j2) (by first | assumption | omega | (subst hj1; omega))) (cwV 0 hts gX4_readSequence_X4_beginsOne rfl rfl rfl (by decide +kernel) ⟨Nat.le_of_ble_eq_true rfl, Nat.le_of_ble_eq_true rfl⟩) (pre_T hK hP hD (gm_13 hG) fg_32 rfl) rfl rfl hl.1 rfl (lv_room (Nat.le_of_ble_eq_true rfl)) dX4_readSequence_41 ⟨Nat.le_of_ble_eq_true rfl, Nat.le_of_ble_eq_true rfl⟩) hS hA hP (fun r_33 H locs hw hP hS => ?_)
          obtain ⟨hp_33, h01_33⟩ : ((r_33.toInt = 1 ∧ (ks i2 = 1 ∨ ks i2 = 2 ∨ ks i2 = 91 ∨ ks i2 = 40 ∨ (7 ≤ ks i2 ∧ ks i2 ≤ 10))) ∨ (r_33.toInt = 0 ∧ ¬ (ks i2 = 1 ∨ ks i2 = 2 ∨ ks i2 = 91 ∨ ks i2 = 40 ∨ (7 ≤ ks i2 ∧ ks i2 ≤ 10)))) ∧ (r_33.toInt = 0 ∨ r_33.toInt = 1) := hw
          refine a_if_eq (u := r_33.toInt) (tgt := 79) hx hb dX4_readSequence_44 (by decide) (rfl) (fun c_34 => ?_) (fun c_34 => ?_)
          · refine lv_iconst (v := 1) hx hb dX4_readSequence_79 (by decide) ?_
            have hz_35 : (1 : Int32).toInt = 1 := by decide
            exact g_zret ((1 : Int32), f_13) hx hb hr hlocks hS (by first | exact Or.inl rfl | exact Or.inr rfl) rfl (⟨hI, hF, show Hd (((1 : Int32).toInt = 1 ∧ SeqR cI jn g lv S f_13 ks vs E i x.toInt top one w st op dg st1 op1 dg1) ∨ ((1 : Int32).toInt = 0 ∧ Fls ks vs E (i, x.toInt, top, one, 0, 0, w, st1, op1, dg1))) from (by
              obtain ⟨e1, e2, e3, e4⟩ := j8.resolve_left (fun q9 => by have := q9.1; omega)
              rw [e2] at j1
              exact Or.inl ⟨rfl, ii.toInt, i2, top2, one2, may2, w2, st2, op2, dg2, ⟨j1, j2, j3, j4, j5, j6, j7, Or.inr ⟨e1, rfl, e3, e4⟩, j9⟩, e1, (hp_33.resolve_left (fun q9 => by have := q9.1; omega)).2⟩), show ∀ k9 v9 : Int, 0 ≤ k9 → k9 < x.toInt → TNf cI g f k9 v9 → TNf cI g f_13 k9 v9 from (htl), show FX S (BXp g lv x.toInt) [13, 14, 34] f f_13 from (by first | assumption | omega | (subst hj1; omega)), show (1 : Int32).toInt = 0 ∨ (1 : Int32).toInt = 1 from (by first | assumption | omega | (subst hj1; omega))⟩) hP hD hQ (Nat.le_of_ble_eq_true rfl) (Nat.le_of_ble_eq_true rfl) dX4_readSequence_80
          · refine lv_aload_n hx hb dX4_readSequence_47 rfl (lv_at hl 2 rfl) ?_
            have hRl := RWf_e j3.2.2 hh_5
            obtain ⟨len_36, fg_36, v1_36, v2_36, v3_36, mp_36, sp_36⟩ := op_0 hI m_5 s_5
            obtain ⟨w1_36, w2_36, w3_36, w4_36, w5_36⟩ := lenw hj v1_36 v2_36 v3_36
            obtain ⟨c_37, fg_37, iv0_37⟩ := op_1 hI mp_6 sp_6
            obtain ⟨hl_38, hc_38⟩ := RWf_at hRl s_5 fg_36 fg_37
            refine t_getN (D := D) (L := L) (f := f_13) (ci := 5) (v := .int len_36) (C := RX5) (T := TX5) (N := 4) (host := "JugglingHall") hx hb hts (by decide +kernel) hown hK.1 hP m_5 fg_36 rfl 3 (by decide) (hK.nw (.fieldLinkNest RX4 62 "JugglingHall$Row" "length" "I" "JugglingHall") (by decide +kernel) rfl) (fun _ h9 => h9) rfl dX4_readSequence_48 ?_
            refine lv_istore (lv' := [(4, .int len_36), (0, .ref (g 13)), (1, .int x), (2, .ref r_5), (3, .int ii)]) hx hb dX4_readSequence_51 hl (by decide) rfl (fun ls hl => ?_)
            refine lv_aload_n hx hb dX4_readSequence_53 rfl (lv_at hl 1 rfl) ?_
            refine lv_iload_n hx hb dX4_readSequence_54 rfl (lv_at hl 2 rfl) ?_
            refine call_p (va_runV (As := [.int x]) (rest := []) ⟨hx, hb, hml, hown, hts⟩ (t_X4_readOnem_3 l D cI cR cM _ (i := i2) (top := top2) (one := one2) (may := may2) (isO := isO2) (w := w2) (st := st) (op := op) (dg := dg) (st1 := st2) (op1 := op2) (dg1 := dg2) (lv := lv) (gr := gr) (E := E) (F := F) (ks := ks) (vs := vs)  hj hG hI  (by first | assumption | omega | (subst hj1; omega)) (j2) (by first | assumption | omega | (subst hj1; omega)) (by first | assumption | omega | (subst hj1; omega)) (hLvl) (hECl) (by first | assumption | omega | (subst hj1; omega)) (by first | assumption | omega | (subst hj1; omega)) (by first | assumption | omega | (subst hj1; omega)) (j3) (j4) (j5) (j7) (Or.inr (hp_33.resolve_right (fun q9 => by have := q9.1; omega)).2)) (cwV 1 hts gX4_readSequence_X4_readOne rfl rfl rfl (by decide +kernel) ⟨Nat.le_of_ble_eq_true rfl, Nat.le_of_ble_eq_true rfl⟩) (pre_T hK hP hD (gm_13 hG) fg_32 rfl) rfl rfl hl.1 rfl (lv_room (Nat.le_of_ble_eq_true rfl)) dX4_readSequence_55 ⟨Nat.le_of_ble_eq_true rfl, Nat.le_of_ble_eq_true rfl⟩) hD hS hA (fun u_39 H locs hw hP hD hS => ?_)
            obtain ⟨r_39, f_39⟩ := u_39
            obtain ⟨hI, hF_39, hp_39, htn_39, hfx_39, h01_39⟩ : IN jn cI cR cM g L S f_39 ∧ FR S [0, 1, 13, 14, 34] f_13 f_39 ∧ (Hd ((r_39.toInt = 1 ∧ OneR cI jn g lv S f_39 ks vs E i2 x.toInt top2 one2 may2 isO2 w2 st op dg st2 op2 dg2) ∨ (r_39.toInt = 0 ∧ Fls ks vs E (i2, x.toInt, top2, one2, may2, isO2, w2, st2, op2, dg2)))) ∧ (∀ k9 v9 : Int, 0 ≤ k9 → k9 < x.toInt → TNf cI g f_13 k9 v9 → TNf cI g f_39 k9 v9) ∧ (FX S (BXp g lv x.toInt) [13, 14, 34] f_13 f_39) ∧ (r_39.toInt = 0 ∨ r_39.toInt = 1) := hw
            have hP : va_P D vwCl (va_pl L f_39) H := hP
            have hD : va_D A (va_pl L f_39) := hD
            have hF := FR_tr hF hF_39 (by decide)
            have hFX := FX_tr hFX hfx_39 (fun _ h9 => h9) (by decide)
            refine a_if_eq (u := r_39.toInt) (tgt := 71) hx hb dX4_readSequence_58 (by decide) (rfl) (fun c_40 => ?_) (fun c_40 => ?_)
            · refine lv_iconst (v := 0) hx hb dX4_readSequence_71 (by decide) ?_
              have hz_41 : (0 : Int32).toInt = 0 := by decide
              exact g_zret ((0 : Int32), f_39) hx hb hr hlocks hS (by first | exact Or.inl rfl | exact Or.inr rfl) rfl (⟨hI, hF, show Hd (((0 : Int32).toInt = 1 ∧ SeqR cI jn g lv S f_39 ks vs E i x.toInt top one w st op dg st1 op1 dg1) ∨ ((0 : Int32).toInt = 0 ∧ Fls ks vs E (i, x.toInt, top, one, 0, 0, w, st1, op1, dg1))) from (Or.inr ⟨rfl, Fls_tr j1 (hp_39.resolve_left (fun q9 => by have := q9.1; omega)).2⟩), show ∀ k9 v9 : Int, 0 ≤ k9 → k9 < x.toInt → TNf cI g f k9 v9 → TNf cI g f_39 k9 v9 from (fun k9 v9 h7 h8 h9 => htn_39 k9 v9 h7 h8 (htl k9 v9 h7 h8 h9)), show FX S (BXp g lv x.toInt) [13, 14, 34] f f_39 from (by first | assumption | omega | (subst hj1; omega)), show (0 : Int32).toInt = 0 ∨ (0 : Int32).toInt = 1 from (by first | assumption | omega | (subst hj1; omega))⟩) hP hD hQ (Nat.le_of_ble_eq_true rfl) (Nat.le_of_ble_eq_true rfl) dX4_readSequence_72
            · obtain ⟨-, i3_, top3_, w3_, st3_, op3_, dg3_, j1_, j2_, j3_, j4_, j5_, j6_, j7_, j8_⟩ := hp_39.resolve_right (fun q9 => by have := q9.1; omega)
              have hLv2 := LvC_fr hLvl hG hF_39 (by decide)
              have hEC2 := EnvC_fx hECl hG hF_39 hfx_39 (by decide) (by decide) (nb_gr hRD) nb_nr
              have htl2 := j5_.1.2.2.2.1
              refine lv_aload_n hx hb dX4_readSequence_61 rfl (lv_at hl 1 rfl) ?_
              refine lv_aload_n hx hb dX4_readSequence_62 rfl (lv_at hl 3 rfl) ?_
              refine lv_iload hx hb dX4_readSequence_63 (lv_at hl 0 rfl) ?_
              have hRo := RWf_e j5_.2.2 hh_5
              have hlf : len_36.toInt = top2 - st x.toInt := hl_38
              obtain ⟨len_42, fg_42, v1_42, v2_42, v3_42, mp_42, sp_42⟩ := op_0 hI m_5 s_5
              obtain ⟨w1_42, w2_42, w3_42, w4_42, w5_42⟩ := lenw hj v1_42 v2_42 v3_42
              obtain ⟨c_43, fg_43, iv0_43⟩ := op_1 hI mp_6 sp_6
              obtain ⟨hl_44, hc_44⟩ := RWf_at hRo s_5 fg_42 fg_43
              obtain ⟨fa_45, pl_45, fg_45⟩ := op_13 hI (gm_13 hG) (gs_13 hG)
              refine call_p (va_runV (As := [.ref r_5, .int len_36]) (rest := []) ⟨hx, hb, hml, hown, hts⟩ (t_X4_readTimesm l D cI cR cM _ (ks := ks) (vs := vs) (i := i3_) (w := (fun j => w3_ (2 * st x.toInt + j)))  hj hG hI m_5 s_5 fg_42 fg_43 (by first | assumption | omega | (subst hj1; omega)) (j4_) (by first | assumption | omega | (subst hj1; omega)) (by subst hj1; omega) (by rw [hl_44]; exact hc_44)) (cwV 2 hts gX4_readSequence_X4_readTimes rfl rfl rfl (by decide +kernel) ⟨Nat.le_of_ble_eq_true rfl, Nat.le_of_ble_eq_true rfl⟩) (pre_T hK hP hD (gm_13 hG) fg_45 rfl) rfl rfl hl.1 rfl (lv_room (Nat.le_of_ble_eq_true rfl)) dX4_readSequence_65 ⟨Nat.le_of_ble_eq_true rfl, Nat.le_of_ble_eq_true rfl⟩) hD hS hA (fun u_46 H locs hw hP hD hS => ?_)
              obtain ⟨r_46, f_46⟩ := u_46
              obtain ⟨hI, hF_46, hp_46, hfx_46, h01_46⟩ : IN jn cI cR cM g L S f_46 ∧ FR S [0, 1, 13, 14] f_39 f_46 ∧ ((r_46.toInt = 1 ∧ ((ks i3_ ≠ 42 ∧ TKm cI g ks vs f_46 i3_ ∧ RWf cI jn S f_46 r_5 len_42.toInt (fun j => w3_ (2 * st x.toInt + j))) ∨ (ks i3_ = 42 ∧ ks (i3_ + 1) = 1 ∧ vs (i3_ + 1) ≠ 0 ∧ TKm cI g ks vs f_46 (i3_ + 1 + 1) ∧ 2 * (len_42.toInt + (vs (i3_ + 1) - 1) * (len_42.toInt - len_36.toInt)) ≤ (n_5 : Int) ∧ RWf cI jn S f_46 r_5 (len_42.toInt + (vs (i3_ + 1) - 1) * (len_42.toInt - len_36.toInt)) (tmW (fun j => w3_ (2 * st x.toInt + j)) len_42.toInt len_36.toInt)))) ∨ (r_46.toInt = 0 ∧ ks i3_ = 42 ∧ ¬ (ks (i3_ + 1) = 1 ∧ vs (i3_ + 1) ≠ 0 ∧ 2 * (len_42.toInt + (vs (i3_ + 1) - 1) * (len_42.toInt - len_36.toInt)) ≤ (n_5 : Int)))) ∧ (FX S (fun a9 => a9 = r_5) [13, 14] f_39 f_46) ∧ (r_46.toInt = 0 ∨ r_46.toInt = 1) := hw
              have hP : va_P D vwCl (va_pl L f_46) H := hP
              have hD : va_D A (va_pl L f_46) := hD
              have hF := FR_tr hF hF_46 (by decide)
              have hFX := FX_tr hFX hfx_46 (fun a9 h9 => Or.inl ⟨x.toInt.toNat, Nat.le_refl _, by omega, h9.trans hh_5⟩) (by decide)
              refine a_if_ne (u := r_46.toInt) (tgt := 73) hx hb dX4_readSequence_68 (by decide) (rfl) (fun c_47 => ?_) (fun c_47 => ?_)
              · obtain ⟨z_48, q_48, e_48⟩ := i_inc (a := ii.toInt) (1) (rfl) (by decide) (by subst hj1; omega) (by subst hj1; omega)
                refine lv_iinc (v := z_48) (lv' := [(3, .int z_48), (4, .int len_36), (0, .ref (g 13)), (1, .int x), (2, .ref r_5)]) hx hb dX4_readSequence_73 hl (k := 4) rfl q_48 (by decide) rfl (fun ls hl => ?_)
                refine lv_goto (tgt := 29) hx hb dX4_readSequence_76 (by decide) ?_
                exact ih29 z_48 f_46 _ _ _ (by subst hj1; omega) hI hF (by first | assumption | omega | (subst hj1; omega)) (by
                  rw [hl_44] at hp_46
                  rw [hlf] at hp_46
                  obtain ⟨-, h9⟩ := hp_46.resolve_right (fun q9 => by have := q9.1; omega)
                  rcases h9 with ⟨h1, h2, h3⟩ | ⟨h1, h2, h3, h4, h5, h6⟩
                  · exact ⟨i3_, top3_, top2, 1, 1, w3_, st3_, op3_, dg3_, Go_tr j1 j1_, h2, ⟨MSb_rf j5_.1 hfx_46 (by decide) (fun k9 h8 h7 q9 => (hRD.2.2.2.2.1 k9.toNat x.toInt.toNat (by subst hj1; omega) (by subst hj1; omega) (by subst hj1; omega)) (q9.trans hh_5)) (fun k9 v9 _ _ h9 => TN_fr hG hF_46 (by decide) k9 v9 h9), j5_.2.1, RWf_e h3 hh_5.symm⟩, j6_, j7_, fun j9 h8 h9 => by rw [j8_ j9 h8 h9]; exact j6 j9 h8 h9, fun q9 => h1 q9.2, Or.inr ⟨by omega, rfl, by omega, by omega⟩, by omega⟩
                  · rw [show top3_ - st x.toInt - (top2 - st x.toInt) = top3_ - top2 by omega] at h5 h6
                    have h6 := RWf_e h6 hh_5.symm
                    obtain ⟨q1, q2, q3⟩ := L_times (E := E) (i := i3_) (one := top2) (isO := 1) (op1 := op3_) (dg1 := dg3_) (may := 1) j5_ (fun top9 w9 q1 q2 q3 => MSb_fx j5_.1 hfx_46 (by decide) (fun k9 h8 h7 q9 => (hRD.2.2.2.2.1 k9.toNat x.toInt.toNat (by subst hj1; omega) (by subst hj1; omega) (by subst hj1; omega)) (q9.trans hh_5)) (fun k9 v9 _ _ h9 => TN_fr hG hF_46 (by decide) k9 v9 h9) q1 q2 q3) rfl (j6_ _ (by subst hj1; omega) (Int.le_refl _)) h1 h2 h3 (by have := (hKO (i3_ + 1)).2.1 h2; omega) (by subst hj1; omega) (by subst hj1; omega) h6
                    have hm0 : 0 ≤ (vs (i3_ + 1) - 1) * (top3_ - top2) := Int.mul_nonneg (by have := (hKO (i3_ + 1)).2.1 h2; omega) (by subst hj1; omega)
                    exact ⟨i3_ + 2, _, top2, 0, 1, _, st3_, op3_, dg3_, Go_tr j1 (Go_tr j1_ (Go_1 q1)), h4, q2, j6_, j7_, fun j9 h8 h9 => (q3 j9 h8 h9).trans ((j8_ j9 h8 h9).trans (j6 j9 h8 h9)), fun q9 => absurd q9.1 (by decide), Or.inr ⟨by omega, rfl, by omega, by omega⟩, by omega⟩) (LvC_fr hLv2 hG hF_46 (by decide)) (EnvC_fx hEC2 hG hF_46 hfx_46 (by decide) (by decide) (fun k9 h9 q9 => hRD.2.2.2.1 x.toInt.toNat k9 (by subst hj1; omega) h9 (hh_5.symm.trans q9.symm)) (fun r9 h9 q9 => h9 (Or.inl ⟨x.toInt.toNat, by omega, q9.trans hh_5⟩))) (fun k9 v9 h7 h8 h9 => TN_fr hG hF_46 (by decide) k9 v9 (htn_39 k9 v9 h7 h8 (htl k9 v9 h7 h8 h9))) (by first | assumption | omega | (subst hj1; omega)) hP hD hS (lv_sub hl [2, 3, 4, 0] rfl)
              · refine lv_iconst (v := 0) hx hb dX4_readSequence_71 (by decide) ?_
                have hz_49 : (0 : Int32).toInt = 0 := by decide
                exact g_zret ((0 : Int32), f_46) hx hb hr hlocks hS (by first | exact Or.inl rfl | exact Or.inr rfl) rfl (⟨hI, hF, show Hd (((0 : Int32).toInt = 1 ∧ SeqR cI jn g lv S f_46 ks vs E i x.toInt top one w st op dg st1 op1 dg1) ∨ ((0 : Int32).toInt = 0 ∧ Fls ks vs E (i, x.toInt, top, one, 0, 0, w, st1, op1, dg1))) from (by
                  rw [hl_44] at hp_46
                  rw [hlf] at hp_46
                  obtain ⟨-, h1, h2⟩ := hp_46.resolve_left (fun q9 => by have := q9.1; omega)
                  refine Or.inr ⟨rfl, Fls_tr (Go_tr j1 j1_) (Fls_0 (F_times rfl h1 ?_))⟩
                  rw [j6_ _ (by subst hj1; omega) (Int.le_refl _)]
                  rw [show top3_ - st x.toInt - (top2 - st x.toInt) = top3_ - top2 by omega] at h2
                  exact fun q9 => h2 ⟨q9.1, q9.2.1, by have := q9.2.2; omega⟩), show ∀ k9 v9 : Int, 0 ≤ k9 → k9 < x.toInt → TNf cI g f k9 v9 → TNf cI g f_46 k9 v9 from (fun k9 v9 h7 h8 h9 => TN_fr hG hF_46 (by decide) k9 v9 (htn_39 k9 v9 h7 h8 (htl k9 v9 h7 h8 h9))), show FX S (BXp g lv x.toInt) [13, 14, 34] f f_46 from (by first | assumption | omega | (subst hj1; omega)), show (0 : Int32).toInt = 0 ∨ (0 : Int32).toInt = 1 from (by first | assumption | omega | (subst hj1; omega))⟩) hP hD hQ (Nat.le_of_ble_eq_true rfl) (Nat.le_of_ble_eq_true rfl) dX4_readSequence_72
  have hz_50 : (0 : Int32).toInt = 0 := by decide
  exact loop29 ((400 - (0 : Int32).toInt).toNat + 1) (0 : Int32) f_8 _ _ _ (by subst hj1; omega) hI hF (by first | assumption | omega | (subst hj1; omega)) (⟨i, top, one, 0, 0, w, st1, op1, dg1, Go_rf, hC1, hM1, hst, hop, fun _ _ _ => rfl, fun q9 => absurd q9.1 (by decide), Or.inl ⟨by omega, rfl, rfl, rfl, rfl⟩, by omega⟩) (hLv1) (hEC1) (htl1) (by first | assumption | omega | (subst hj1; omega)) hP hD hS (lv_sub hl [2, 3, 1, 0] rfl)
set_option maxRecDepth 100000 in
set_option maxHeartbeats 4000000 in
theorem t_X4_readOnem_4 (l : Launch) (D : va_G) (cI cR cM : ClassId) (sz : Nat) {jn : Nat} {g : Nat → Nat} {L : List Nat} {S : Sg} {f : Nat → va_E} {x : Int32} {ks vs : Nat → Int} {i : Nat} {lv gr : Nat → Nat} {E : Env1} {F : Int → Int} {top one may isO : Int} {w st op dg st1 op1 dg1 : Int → Int} (hj : 1 ≤ jn ∧ jn ≤ 3) (hG : SG g L S) (hI : IN jn cI cR cM g L S f) (hj1 : jn = 1) (hC : TKm cI g ks vs f i) (hKO : KO ks vs) (hRD : RDC g lv gr S) (hLv : LvC cR g lv f) (hEC : EnvC cI cR jn g lv gr S f E F) (hEO : EOk E) (hx0 : 0 ≤ x.toInt ∧ x.toInt ≤ 5) (hd : 2 ≤ x.toInt) (hMS : MSt cI jn g lv S f x.toInt top w st op dg) (hst : ∀ k9 : Int, 0 ≤ k9 → k9 ≤ x.toInt → st1 k9 = st k9) (hop : ∀ k9 : Int, 0 ≤ k9 → k9 < x.toInt → op1 k9 = op k9 ∧ dg1 k9 = dg k9) (hm9 : ¬ (may = 1 ∧ ks i = 42)) (hbg : (isO = 0 ∧ may = 0) ∨ (ks i = 1 ∨ ks i = 2 ∨ ks i = 91 ∨ ks i = 40 ∨ (7 ≤ ks i ∧ ks i ≤ 10))) : Met l yX4_readOne wsX4_readOne ({ frames := 9, cells := 0, slots := 0, locals := 249 }) (P0 D cI cR cM [.ref (g 13), .int x] sz (va_pl L f)) (QG (S := Int32 × (Nat → va_E)) (fun u => some (.int u.1)) (fun u => va_pl L u.2) (fun u => IN jn cI cR cM g L S u.2 ∧ FR S [0, 1, 13, 14, 34] f u.2 ∧ (Hd ((u.1.toInt = 1 ∧ OneR cI jn g lv S u.2 ks vs E i x.toInt top one may isO w st op dg st1 op1 dg1) ∨ (u.1.toInt = 0 ∧ Fls ks vs E (i, x.toInt, top, one, may, isO, w, st1, op1, dg1)))) ∧ (∀ k9 v9 : Int, 0 ≤ k9 → k9 < x.toInt → TNf cI g f k9 v9 → TNf cI g u.2 k9 v9) ∧ (FX S (BXp g lv x.toInt) [13, 14, 34] f u.2) ∧ (u.1.toInt = 0 ∨ u.1.toInt = 1)) D (va_A (va_pl L f) sz)) 0 0 (va_A (va_pl L f) sz) := by
  refine go (cc := cX4_readOne) (maxL := 3) (ret := (some .boolean)) (by decide +kernel) rfl (Nat.le_of_ble_eq_true rfl) ?_
  intro p e s m below meth c ls args Q hQ hsz hx hb hr hml hts hown hlocks hnm hP hK hD hl
  subst hsz
  have hD := hD.self (sz := s.heap.size)
  generalize hAe : va_A (va_pl L f) s.heap.size = A at hD hQ
  have hA : ∀ q, s.heap.size ≤ q → A q := fun q h => by rw [← hAe]; exact Or.inr h
  have hS : va_S A s.heap s.heap [] := va_S.rf
  have hFX : FX S (BXp g lv x.toInt) [13, 14, 34] f f := FX_rf
  have hF : FR S [0, 1, 13, 14, 34] f f := FR_rf
  have hl : lv_has ls 3 [(0, .ref (g 13)), (1, .int x)] := hl
  refine lv_aload_n hx hb dX4_readOne_0 rfl (lv_at hl 0 rfl) ?_
  obtain ⟨fa_1, pl_1, fg_1⟩ := op_13 hI (gm_13 hG) (gs_13 hG)
  refine roP (va_runV (As := []) (rest := []) ⟨hx, hb, hml, hown, hts⟩ (t_X4_beginsOnem l D cI cR cM _ (ks := ks) (vs := vs) (i := i)  hj hG hI  (by first | assumption | omega | (subst hj1; omega)) (hC) (by first | assumption | omega | (subst hj1; omega))) (cwV 0 hts gX4_readOne_X4_beginsOne rfl rfl rfl (by decide +kernel) ⟨Nat.le_of_ble_eq_true rfl, Nat.le_of_ble_eq_true rfl⟩) (pre_T hK hP hD (gm_13 hG) fg_1 rfl) rfl rfl hl.1 rfl (lv_room (Nat.le_of_ble_eq_true rfl)) dX4_readOne_1 ⟨Nat.le_of_ble_eq_true rfl, Nat.le_of_ble_eq_true rfl⟩) hS hA hP (fun r_2 H locs hw hP hS => ?_)
  obtain ⟨hp_2, h01_2⟩ : ((r_2.toInt = 1 ∧ (ks i = 1 ∨ ks i = 2 ∨ ks i = 91 ∨ ks i = 40 ∨ (7 ≤ ks i ∧ ks i ≤ 10))) ∨ (r_2.toInt = 0 ∧ ¬ (ks i = 1 ∨ ks i = 2 ∨ ks i = 91 ∨ ks i = 40 ∨ (7 ≤ ks i ∧ ks i ≤ 10)))) ∧ (r_2.toInt = 0 ∨ r_2.toInt = 1) := hw
  refine a_if_ne (u := r_2.toInt) (tgt := 13) hx hb dX4_readOne_4 (by decide) (rfl) (fun c_3 => ?_) (fun c_3 => ?_)
  · refine lv_aload_n hx hb dX4_readOne_13 rfl (lv_at hl 0 rfl) ?_
    obtain ⟨cnt_4, nx_4, kd_4, vl_4, st_4, ls_4, fg_4, iv0_4, iv1_4, iv2_4⟩ := op_14 hI (gm_14 hG) (gs_14 hG)
    obtain ⟨kk_5, kv_5⟩ := TKm_k hC fg_4
    refine t_get (D := D) (L := L) (f := f) (ci := 4) (v := .ref (g 14)) (C := RX4) (T := TX4) (N := 11) hx hb hts (by decide +kernel) hown hK.1 hP (gm_13 hG) fg_1 rfl 1 (by decide) (hts (.fieldLink RX4 41 "JugglingHall$Reader" "tokens" "LJugglingHall$Tokens;") (by decide +kernel)) (fun _ h9 => h9) rfl dX4_readOne_14 ?_
    refine t_getN (D := D) (L := L) (f := f) (ci := 8) (v := .int kd_4) (C := RX8) (T := TX8) (N := 10) (host := "JugglingHall") hx hb hts (by decide +kernel) hown hK.1 hP (gm_14 hG) fg_4 rfl 6 (by decide) (hK.nw (.fieldLinkNest RX4 70 "JugglingHall$Tokens" "kind" "I" "JugglingHall") (by decide +kernel) rfl) (fun _ h9 => h9) rfl dX4_readOne_17 ?_
    refine lv_istore_n (lv' := [(2, .int kd_4), (0, .ref (g 13)), (1, .int x)]) hx hb dX4_readOne_20 rfl hl (by decide) rfl (fun ls hl => ?_)
    refine lv_iload_n hx hb dX4_readOne_21 rfl (lv_at hl 0 rfl) ?_
    have hu_6 : kd_4.toInt = kd_4.toInt := rfl
    rcases (show (kd_4.toInt = 2) ∨ (kd_4.toInt = 3) ∨ (kd_4.toInt = 60) ∨ (kd_4.toInt = 91) ∨ (kd_4.toInt ≠ 2 ∧ kd_4.toInt ≠ 3 ∧ kd_4.toInt ≠ 60 ∧ kd_4.toInt ≠ 91) by omega) with c_6 | c_6 | c_6 | c_6 | c_6
    · refine lv_lookup (off := 53) (tgt := 75) hx hb dX4_readOne_22 (by decide) (by rw [hu_6, c_6]; decide) (by decide) ?_
      have kb9 : ks i = 1 := cK_p (hKO i).1 (Or.inl ⟨by decide, by decide⟩) kk_5 (c := 2) (by subst hj1; omega) (by decide)
      refine lv_aload_n hx hb dX4_readOne_75 rfl (lv_at hl 1 rfl) ?_
      refine lv_aload_n hx hb dX4_readOne_76 rfl (lv_at hl 1 rfl) ?_
      refine t_get (D := D) (L := L) (f := f) (ci := 4) (v := .ref (g 22)) (C := RX4) (T := TX4) (N := 11) hx hb hts (by decide +kernel) hown hK.1 hP (gm_13 hG) fg_1 rfl 3 (by decide) (hts (.fieldLink RX4 13 "JugglingHall$Reader" "levels" "[LJugglingHall$Row;") (by decide +kernel)) (fun _ h9 => h9) rfl dX4_readOne_77 ?_
      refine lv_iload_n hx hb dX4_readOne_80 rfl (lv_at hl 2 rfl) ?_
      obtain ⟨c_7, fg_7, iv0_7⟩ := op_22 hI (gm_22 hG) (gs_22 hG)
      refine t_aald (L := L) (f := f) (y := c_7) (u := x.toInt) hx hb hK.1 hP (gm_22 hG) 1 fg_7 rfl dX4_readOne_81 (rfl) (by subst hj1; omega) (fun w_8 q_8 => ?_)
      obtain ⟨r_8, p_8, n_8, er_8, m_8, s_8⟩ := iv0_7 x.toInt (by subst hj1; omega) (by subst hj1; omega)
      have q_8 := q_8.trans er_8
      subst q_8
      refine W.eq (g2 := F0 m 82 ls [.ref r_8, .ref (g 13)]) rfl ?_
      have hh_8 : r_8 = lv x.toInt.toNat := LvC_at (l := x.toInt) hLv fg_7 (by subst hj1; omega) (by subst hj1; omega) (by rw [show x.toInt = x.toInt by omega]; exact er_8)
      have hR_8 := RWf_e hMS.2.2 hh_8
      obtain ⟨len_9, fg_9, v1_9, v2_9, v3_9, mp_9, sp_9⟩ := op_0 hI m_8 s_8
      obtain ⟨w1_9, w2_9, w3_9, w4_9, w5_9⟩ := lenw hj v1_9 v2_9 v3_9
      obtain ⟨c_10, fg_10, iv0_10⟩ := op_1 hI mp_9 sp_9
      obtain ⟨hl_11, hc_11⟩ := RWf_at hR_8 s_8 fg_9 fg_10
      have hN_8 := cap_of (S := S) (a := r_8) (k := 48) (by rw [hh_8]; exact (hRD.2.1 _ (by subst hj1; omega)).1) s_8
      refine call_p (va_runV (As := [.ref r_8]) (rest := []) ⟨hx, hb, hml, hown, hts⟩ (t_X4_readBeatm l D cI cR cM _ (ks := ks) (vs := vs) (i := i) (w := (fun j => w (2 * st x.toInt + j)))  hj hG hI m_8 s_8 fg_9 fg_10 (by first | assumption | omega | (subst hj1; omega)) (hC) (by first | assumption | omega | (subst hj1; omega)) (by rw [hh_8]; exact (hRD.2.1 _ (by subst hj1; omega)).2.1) (hRD.1.1) (by rw [hl_11]; exact hc_11)) (cwV 1 hts gX4_readOne_X4_readBeat rfl rfl rfl (by decide +kernel) ⟨Nat.le_of_ble_eq_true rfl, Nat.le_of_ble_eq_true rfl⟩) (pre_T hK hP hD (gm_13 hG) fg_1 rfl) rfl rfl hl.1 rfl (lv_room (Nat.le_of_ble_eq_true rfl)) dX4_readOne_82 ⟨Nat.le_of_ble_eq_true rfl, Nat.le_of_ble_eq_true rfl⟩) hD hS hA (fun u_12 H locs hw hP hD hS => ?_)
      obtain ⟨r_12, f_12⟩ := u_12
      obtain ⟨hI, hF_12, hp_12, hfx_12, h01_12⟩ : IN jn cI cR cM g L S f_12 ∧ FR S [0, 1, 13, 14] f f_12 ∧ ((r_12.toInt = 1 ∧ ∃ (a9 b9 : Int) (j9 : Nat), BtR ks vs i a9 b9 j9 ∧ TKm cI g ks vs f_12 j9 ∧ 2 * (len_9.toInt + 1) ≤ (n_8 : Int) ∧ RWf cI jn S f_12 r_8 (len_9.toInt + 1) (fupd (fupd (fun j => w (2 * st x.toInt + j)) (2 * len_9.toInt) a9) (2 * len_9.toInt + 1) b9)) ∨ (r_12.toInt = 0 ∧ (BtF ks vs i ∨ (n_8 : Int) < 2 * (len_9.toInt + 1)))) ∧ (FX S (fun a9 => a9 = r_8 ∨ a9 = g 24) [13, 14] f f_12) ∧ (r_12.toInt = 0 ∨ r_12.toInt = 1) := hw
      have hP : va_P D vwCl (va_pl L f_12) H := hP
      have hD : va_D A (va_pl L f_12) := hD
      have hF := FR_tr hF hF_12 (by decide)
      have hFX := FX_tr hFX hfx_12 (fun a9 h9 => h9.elim (fun h9 => Or.inl ⟨x.toInt.toNat, Nat.le_refl _, by omega, h9.trans hh_8⟩) (fun h9 => Or.inr (Or.inl h9))) (by decide)
      have fb_13 : f_12 (g 22) = .inl (cR, 6, .inr (.inr (.inr (.inr c_7)))) := FR_at hF_12 (gs_22 hG) (show (22 : Nat) ∉ ([0, 1, 13, 14] : List Nat) by decide) fg_7
      exact g_zret (r_12, f_12) hx hb hr hlocks hS (b01 (by subst hj1; omega)) rfl (⟨hI, hF, show Hd ((r_12.toInt = 1 ∧ OneR cI jn g lv S f_12 ks vs E i x.toInt top one may isO w st op dg st1 op1 dg1) ∨ (r_12.toInt = 0 ∧ Fls ks vs E (i, x.toInt, top, one, may, isO, w, st1, op1, dg1))) from (by
        rw [hl_11] at hp_12
        rcases hp_12 with ⟨h5, a9, b9, j9, h6, h7, h8, h9⟩ | ⟨h5, h6⟩
        · have h9 := RWf_e h9 hh_8.symm
          obtain ⟨q1, q2, q3⟩ := L_beat (E := E) (one := one) (isO := isO) (op1 := op1) (dg1 := dg1) hMS (fun top9 w9 q1 q2 q3 => MSb_fx hMS.1 hfx_12 (by decide) (fun k9 h8 h7 => (fun q9 => q9.elim (fun q9 => (hRD.2.2.2.2.1 k9.toNat x.toInt.toNat (by subst hj1; omega) (by subst hj1; omega) (by subst hj1; omega)) (q9.trans hh_8)) (fun q8 => (hRD.2.1 k9.toNat (by subst hj1; omega)).2.1 q8))) (fun k9 v9 _ _ h9 => TN_fr hG hF_12 (by decide) k9 v9 h9) q1 q2 q3) hm9 (hst _ (by subst hj1; omega) (Int.le_refl _)) h6 (Bt_vK hKO h6) (by subst hj1; omega) h9
          exact Or.inl ⟨h5, j9, _, _, st1, op1, dg1, Go_1 q1, Bt_lt h6, by omega, h7, q2, hst, hop, q3⟩
        · refine Or.inr ⟨h5, Fls_0 (F_beat hm9 (fun q9 => by omega) (by subst hj1; omega) (by subst hj1; omega) (fun _ => by unfold Bgn; omega) ?_)⟩
          rw [hst _ (by subst hj1; omega) (Int.le_refl _)]
          exact h6.imp id (fun q9 => by omega)), show ∀ k9 v9 : Int, 0 ≤ k9 → k9 < x.toInt → TNf cI g f k9 v9 → TNf cI g f_12 k9 v9 from (fun k9 v9 _ _ h9 => TN_fr hG hF_12 (by decide) k9 v9 h9), show FX S (BXp g lv x.toInt) [13, 14, 34] f f_12 from (by first | assumption | omega | (subst hj1; omega)), show r_12.toInt = 0 ∨ r_12.toInt = 1 from (by first | assumption | omega | (subst hj1; omega))⟩) hP hD hQ (Nat.le_of_ble_eq_true rfl) (Nat.le_of_ble_eq_true rfl) dX4_readOne_85
    · refine lv_lookup (off := 42) (tgt := 64) hx hb dX4_readOne_22 (by decide) (by rw [hu_6, c_6]; decide) (by decide) ?_
      have kb9 : ks i = 2 := cK_p (hKO i).1 (Or.inl ⟨by decide, by decide⟩) kk_5 (c := 3) (by subst hj1; omega) (by decide)
      refine lv_aload_n hx hb dX4_readOne_64 rfl (lv_at hl 1 rfl) ?_
      refine lv_aload_n hx hb dX4_readOne_65 rfl (lv_at hl 1 rfl) ?_
      refine t_get (D := D) (L := L) (f := f) (ci := 4) (v := .ref (g 22)) (C := RX4) (T := TX4) (N := 11) hx hb hts (by decide +kernel) hown hK.1 hP (gm_13 hG) fg_1 rfl 3 (by decide) (hts (.fieldLink RX4 13 "JugglingHall$Reader" "levels" "[LJugglingHall$Row;") (by decide +kernel)) (fun _ h9 => h9) rfl dX4_readOne_66 ?_
      refine lv_iload_n hx hb dX4_readOne_69 rfl (lv_at hl 2 rfl) ?_
      obtain ⟨c_14, fg_14, iv0_14⟩ := op_22 hI (gm_22 hG) (gs_22 hG)
      refine t_aald (L := L) (f := f) (y := c_14) (u := x.toInt) hx hb hK.1 hP (gm_22 hG) 1 fg_14 rfl dX4_readOne_70 (rfl) (by subst hj1; omega) (fun w_15 q_15 => ?_)
      obtain ⟨r_15, p_15, n_15, er_15, m_15, s_15⟩ := iv0_14 x.toInt (by subst hj1; omega) (by subst hj1; omega)
      have q_15 := q_15.trans er_15
      subst q_15
      refine W.eq (g2 := F0 m 71 ls [.ref r_15, .ref (g 13)]) rfl ?_
      have hh_15 : r_15 = lv x.toInt.toNat := LvC_at (l := x.toInt) hLv fg_14 (by subst hj1; omega) (by subst hj1; omega) (by rw [show x.toInt = x.toInt by omega]; exact er_15)
      have hR_15 := RWf_e hMS.2.2 hh_15
      obtain ⟨len_16, fg_16, v1_16, v2_16, v3_16, mp_16, sp_16⟩ := op_0 hI m_15 s_15
      obtain ⟨w1_16, w2_16, w3_16, w4_16, w5_16⟩ := lenw hj v1_16 v2_16 v3_16
      obtain ⟨c_17, fg_17, iv0_17⟩ := op_1 hI mp_16 sp_16
      obtain ⟨hl_18, hc_18⟩ := RWf_at hR_15 s_15 fg_16 fg_17
      have hN_15 := cap_of (S := S) (a := r_15) (k := 48) (by rw [hh_15]; exact (hRD.2.1 _ (by subst hj1; omega)).1) s_15
      refine call_p (va_runV (As := [.ref r_15]) (rest := []) ⟨hx, hb, hml, hown, hts⟩ (t_X4_readLetterm l D cI cR cM _ (ks := ks) (vs := vs) (i := i) (lv := lv) (gr := gr) (E := E) (F := F) (w := (fun j => w (2 * st x.toInt + j)))  hj hG hI m_15 s_15 fg_16 fg_17 (by first | assumption | omega | (subst hj1; omega)) (hC) (by first | assumption | omega | (subst hj1; omega)) (kb9) (hEC) (by rw [hl_18]; exact hc_18)) (cwV 1 hts gX4_readOne_X4_readLetter rfl rfl rfl (by decide +kernel) ⟨Nat.le_of_ble_eq_true rfl, Nat.le_of_ble_eq_true rfl⟩) (pre_T hK hP hD (gm_13 hG) fg_1 rfl) rfl rfl hl.1 rfl (lv_room (Nat.le_of_ble_eq_true rfl)) dX4_readOne_71 ⟨Nat.le_of_ble_eq_true rfl, Nat.le_of_ble_eq_true rfl⟩) hD hS hA (fun u_19 H locs hw hP hD hS => ?_)
      obtain ⟨r_19, f_19⟩ := u_19
      obtain ⟨hI, hF_19, hp_19, hfx_19, h01_19⟩ : IN jn cI cR cM g L S f_19 ∧ FR S [0, 1, 13, 14] f f_19 ∧ ((r_19.toInt = 1 ∧ 0 < (E (vs i)).1 ∧ TKm cI g ks vs f_19 (i + 1) ∧ 2 * (len_16.toInt + (E (vs i)).1) ≤ (n_15 : Int) ∧ RWf cI jn S f_19 r_15 (len_16.toInt + (E (vs i)).1) (fun j => if j < 2 * len_16.toInt then (fun j => w (2 * st x.toInt + j)) j else (E (vs i)).2 (j - 2 * len_16.toInt))) ∨ (r_19.toInt = 0 ∧ ((E (vs i)).1 ≤ 0 ∨ (n_15 : Int) < 2 * (len_16.toInt + (E (vs i)).1)))) ∧ (FX S (fun a9 => a9 = r_15) [13, 14] f f_19) ∧ (r_19.toInt = 0 ∨ r_19.toInt = 1) := hw
      have hP : va_P D vwCl (va_pl L f_19) H := hP
      have hD : va_D A (va_pl L f_19) := hD
      have hF := FR_tr hF hF_19 (by decide)
      have hFX := FX_tr hFX hfx_19 (fun a9 h9 => Or.inl ⟨x.toInt.toNat, Nat.le_refl _, by omega, h9.trans hh_15⟩) (by decide)
      have fb_20 : f_19 (g 22) = .inl (cR, 6, .inr (.inr (.inr (.inr c_14)))) := FR_at hF_19 (gs_22 hG) (show (22 : Nat) ∉ ([0, 1, 13, 14] : List Nat) by decide) fg_14
      exact g_zret (r_19, f_19) hx hb hr hlocks hS (b01 (by subst hj1; omega)) rfl (⟨hI, hF, show Hd ((r_19.toInt = 1 ∧ OneR cI jn g lv S f_19 ks vs E i x.toInt top one may isO w st op dg st1 op1 dg1) ∨ (r_19.toInt = 0 ∧ Fls ks vs E (i, x.toInt, top, one, may, isO, w, st1, op1, dg1))) from (by
        rw [hl_18] at hp_19
        rcases hp_19 with ⟨h5, h6, h7, h8, h9⟩ | ⟨h5, h6⟩
        · have h9 := RWf_e h9 hh_15.symm
          obtain ⟨q1, q2, q3⟩ := L_letter (E := E) (one := one) (isO := isO) (op1 := op1) (dg1 := dg1) hMS (fun top9 w9 q1 q2 q3 => MSb_fx hMS.1 hfx_19 (by decide) (fun k9 h8 h7 => (fun q9 => (hRD.2.2.2.2.1 k9.toNat x.toInt.toNat (by subst hj1; omega) (by subst hj1; omega) (by subst hj1; omega)) (q9.trans hh_15))) (fun k9 v9 _ _ h9 => TN_fr hG hF_19 (by decide) k9 v9 h9) q1 q2 q3) hm9 (hst _ (by subst hj1; omega) (Int.le_refl _)) kb9 h6 (hEO _ (by have := (hKO i).2.2 kb9; omega) (by have := (hKO i).2.2 kb9; omega)).2.2 (by subst hj1; omega) h9
          exact Or.inl ⟨h5, i + 1, _, _, st1, op1, dg1, Go_1 q1, by omega, by omega, h7, q2, hst, hop, q3⟩
        · exact Or.inr ⟨h5, Fls_0 (F_letter kb9 (by rw [hst _ (by subst hj1; omega) (Int.le_refl _)]; omega))⟩), show ∀ k9 v9 : Int, 0 ≤ k9 → k9 < x.toInt → TNf cI g f k9 v9 → TNf cI g f_19 k9 v9 from (fun k9 v9 _ _ h9 => TN_fr hG hF_19 (by decide) k9 v9 h9), show FX S (BXp g lv x.toInt) [13, 14, 34] f f_19 from (by first | assumption | omega | (subst hj1; omega)), show r_19.toInt = 0 ∨ r_19.toInt = 1 from (by first | assumption | omega | (subst hj1; omega))⟩) hP hD hQ (Nat.le_of_ble_eq_true rfl) (Nat.le_of_ble_eq_true rfl) dX4_readOne_74
    · refine lv_lookup (off := 53) (tgt := 75) hx hb dX4_readOne_22 (by decide) (by rw [hu_6, c_6]; decide) (by decide) ?_
      have kb9 : ks i = 60 := cK_p (hKO i).1 (Or.inr ⟨by decide, by decide⟩) kk_5 (c := 60) (by subst hj1; omega) (by decide)
      refine lv_aload_n hx hb dX4_readOne_75 rfl (lv_at hl 1 rfl) ?_
      refine lv_aload_n hx hb dX4_readOne_76 rfl (lv_at hl 1 rfl) ?_
      refine t_get (D := D) (L := L) (f := f) (ci := 4) (v := .ref (g 22)) (C := RX4) (T := TX4) (N := 11) hx hb hts (by decide +kernel) hown hK.1 hP (gm_13 hG) fg_1 rfl 3 (by decide) (hts (.fieldLink RX4 13 "JugglingHall$Reader" "levels" "[LJugglingHall$Row;") (by decide +kernel)) (fun _ h9 => h9) rfl dX4_readOne_77 ?_
      refine lv_iload_n hx hb dX4_readOne_80 rfl (lv_at hl 2 rfl) ?_
      obtain ⟨c_21, fg_21, iv0_21⟩ := op_22 hI (gm_22 hG) (gs_22 hG)
      refine t_aald (L := L) (f := f) (y := c_21) (u := x.toInt) hx hb hK.1 hP (gm_22 hG) 1 fg_21 rfl dX4_readOne_81 (rfl) (by subst hj1; omega) (fun w_22 q_22 => ?_)
      obtain ⟨r_22, p_22, n_22, er_22, m_22, s_22⟩ := iv0_21 x.toInt (by subst hj1; omega) (by subst hj1; omega)
      have q_22 := q_22.trans er_22
      subst q_22
      refine W.eq (g2 := F0 m 82 ls [.ref r_22, .ref (g 13)]) rfl ?_
      have hh_22 : r_22 = lv x.toInt.toNat := LvC_at (l := x.toInt) hLv fg_21 (by subst hj1; omega) (by subst hj1; omega) (by rw [show x.toInt = x.toInt by omega]; exact er_22)
      have hR_22 := RWf_e hMS.2.2 hh_22
      obtain ⟨len_23, fg_23, v1_23, v2_23, v3_23, mp_23, sp_23⟩ := op_0 hI m_22 s_22
      obtain ⟨w1_23, w2_23, w3_23, w4_23, w5_23⟩ := lenw hj v1_23 v2_23 v3_23
      obtain ⟨c_24, fg_24, iv0_24⟩ := op_1 hI mp_23 sp_23
      obtain ⟨hl_25, hc_25⟩ := RWf_at hR_22 s_22 fg_23 fg_24
      have hN_22 := cap_of (S := S) (a := r_22) (k := 48) (by rw [hh_22]; exact (hRD.2.1 _ (by subst hj1; omega)).1) s_22
      refine call_p (va_runV (As := [.ref r_22]) (rest := []) ⟨hx, hb, hml, hown, hts⟩ (t_X4_readBeatm l D cI cR cM _ (ks := ks) (vs := vs) (i := i) (w := (fun j => w (2 * st x.toInt + j)))  hj hG hI m_22 s_22 fg_23 fg_24 (by first | assumption | omega | (subst hj1; omega)) (hC) (by first | assumption | omega | (subst hj1; omega)) (by rw [hh_22]; exact (hRD.2.1 _ (by subst hj1; omega)).2.1) (hRD.1.1) (by rw [hl_25]; exact hc_25)) (cwV 1 hts gX4_readOne_X4_readBeat rfl rfl rfl (by decide +kernel) ⟨Nat.le_of_ble_eq_true rfl, Nat.le_of_ble_eq_true rfl⟩) (pre_T hK hP hD (gm_13 hG) fg_1 rfl) rfl rfl hl.1 rfl (lv_room (Nat.le_of_ble_eq_true rfl)) dX4_readOne_82 ⟨Nat.le_of_ble_eq_true rfl, Nat.le_of_ble_eq_true rfl⟩) hD hS hA (fun u_26 H locs hw hP hD hS => ?_)
      obtain ⟨r_26, f_26⟩ := u_26
      obtain ⟨hI, hF_26, hp_26, hfx_26, h01_26⟩ : IN jn cI cR cM g L S f_26 ∧ FR S [0, 1, 13, 14] f f_26 ∧ ((r_26.toInt = 1 ∧ ∃ (a9 b9 : Int) (j9 : Nat), BtR ks vs i a9 b9 j9 ∧ TKm cI g ks vs f_26 j9 ∧ 2 * (len_23.toInt + 1) ≤ (n_22 : Int) ∧ RWf cI jn S f_26 r_22 (len_23.toInt + 1) (fupd (fupd (fun j => w (2 * st x.toInt + j)) (2 * len_23.toInt) a9) (2 * len_23.toInt + 1) b9)) ∨ (r_26.toInt = 0 ∧ (BtF ks vs i ∨ (n_22 : Int) < 2 * (len_23.toInt + 1)))) ∧ (FX S (fun a9 => a9 = r_22 ∨ a9 = g 24) [13, 14] f f_26) ∧ (r_26.toInt = 0 ∨ r_26.toInt = 1) := hw
      have hP : va_P D vwCl (va_pl L f_26) H := hP
      have hD : va_D A (va_pl L f_26) := hD
      have hF := FR_tr hF hF_26 (by decide)
      have hFX := FX_tr hFX hfx_26 (fun a9 h9 => h9.elim (fun h9 => Or.inl ⟨x.toInt.toNat, Nat.le_refl _, by omega, h9.trans hh_22⟩) (fun h9 => Or.inr (Or.inl h9))) (by decide)
      have fb_27 : f_26 (g 22) = .inl (cR, 6, .inr (.inr (.inr (.inr c_21)))) := FR_at hF_26 (gs_22 hG) (show (22 : Nat) ∉ ([0, 1, 13, 14] : List Nat) by decide) fg_21
      exact g_zret (r_26, f_26) hx hb hr hlocks hS (b01 (by subst hj1; omega)) rfl (⟨hI, hF, show Hd ((r_26.toInt = 1 ∧ OneR cI jn g lv S f_26 ks vs E i x.toInt top one may isO w st op dg st1 op1 dg1) ∨ (r_26.toInt = 0 ∧ Fls ks vs E (i, x.toInt, top, one, may, isO, w, st1, op1, dg1))) from (by exfalso; omega), show ∀ k9 v9 : Int, 0 ≤ k9 → k9 < x.toInt → TNf cI g f k9 v9 → TNf cI g f_26 k9 v9 from (fun k9 v9 _ _ h9 => TN_fr hG hF_26 (by decide) k9 v9 h9), show FX S (BXp g lv x.toInt) [13, 14, 34] f f_26 from (by first | assumption | omega | (subst hj1; omega)), show r_26.toInt = 0 ∨ r_26.toInt = 1 from (by first | assumption | omega | (subst hj1; omega))⟩) hP hD hQ (Nat.le_of_ble_eq_true rfl) (Nat.le_of_ble_eq_true rfl) dX4_readOne_85
    · refine lv_lookup (off := 53) (tgt := 75) hx hb dX4_readOne_22 (by decide) (by rw [hu_6, c_6]; decide) (by decide) ?_
      have kb9 : ks i = 91 := cK_p (hKO i).1 (Or.inr ⟨by decide, by decide⟩) kk_5 (c := 91) (by subst hj1; omega) (by decide)
      refine lv_aload_n hx hb dX4_readOne_75 rfl (lv_at hl 1 rfl) ?_
      refine lv_aload_n hx hb dX4_readOne_76 rfl (lv_at hl 1 rfl) ?_
      refine t_get (D := D) (L := L) (f := f) (ci := 4) (v := .ref (g 22)) (C := RX4) (T := TX4) (N := 11) hx hb hts (by decide +kernel) hown hK.1 hP (gm_13 hG) fg_1 rfl 3 (by decide) (hts (.fieldLink RX4 13 "JugglingHall$Reader" "levels" "[LJugglingHall$Row;") (by decide +kernel)) (fun _ h9 => h9) rfl dX4_readOne_77 ?_
      refine lv_iload_n hx hb dX4_readOne_80 rfl (lv_at hl 2 rfl) ?_
      obtain ⟨c_28, fg_28, iv0_28⟩ := op_22 hI (gm_22 hG) (gs_22 hG)
      refine t_aald (L := L) (f := f) (y := c_28) (u := x.toInt) hx hb hK.1 hP (gm_22 hG) 1 fg_28 rfl dX4_readOne_81 (rfl) (by subst hj1; omega) (fun w_29 q_29 => ?_)
      obtain ⟨r_29, p_29, n_29, er_29, m_29, s_29⟩ := iv0_28 x.toInt (by subst hj1; omega) (by subst hj1; omega)
      have q_29 := q_29.trans er_29
      subst q_29
      refine W.eq (g2 := F0 m 82 ls [.ref r_29, .ref (g 13)]) rfl ?_
      have hh_29 : r_29 = lv x.toInt.toNat := LvC_at (l := x.toInt) hLv fg_28 (by subst hj1; omega) (by subst hj1; omega) (by rw [show x.toInt = x.toInt by omega]; exact er_29)
      have hR_29 := RWf_e hMS.2.2 hh_29
      obtain ⟨len_30, fg_30, v1_30, v2_30, v3_30, mp_30, sp_30⟩ := op_0 hI m_29 s_29
      obtain ⟨w1_30, w2_30, w3_30, w4_30, w5_30⟩ := lenw hj v1_30 v2_30 v3_30
      obtain ⟨c_31, fg_31, iv0_31⟩ := op_1 hI mp_30 sp_30
      obtain ⟨hl_32, hc_32⟩ := RWf_at hR_29 s_29 fg_30 fg_31
      have hN_29 := cap_of (S := S) (a := r_29) (k := 48) (by rw [hh_29]; exact (hRD.2.1 _ (by subst hj1; omega)).1) s_29
      refine call_p (va_runV (As := [.ref r_29]) (rest := []) ⟨hx, hb, hml, hown, hts⟩ (t_X4_readBeatm l D cI cR cM _ (ks := ks) (vs := vs) (i := i) (w := (fun j => w (2 * st x.toInt + j)))  hj hG hI m_29 s_29 fg_30 fg_31 (by first | assumption | omega | (subst hj1; omega)) (hC) (by first | assumption | omega | (subst hj1; omega)) (by rw [hh_29]; exact (hRD.2.1 _ (by subst hj1; omega)).2.1) (hRD.1.1) (by rw [hl_32]; exact hc_32)) (cwV 1 hts gX4_readOne_X4_readBeat rfl rfl rfl (by decide +kernel) ⟨Nat.le_of_ble_eq_true rfl, Nat.le_of_ble_eq_true rfl⟩) (pre_T hK hP hD (gm_13 hG) fg_1 rfl) rfl rfl hl.1 rfl (lv_room (Nat.le_of_ble_eq_true rfl)) dX4_readOne_82 ⟨Nat.le_of_ble_eq_true rfl, Nat.le_of_ble_eq_true rfl⟩) hD hS hA (fun u_33 H locs hw hP hD hS => ?_)
      obtain ⟨r_33, f_33⟩ := u_33
      obtain ⟨hI, hF_33, hp_33, hfx_33, h01_33⟩ : IN jn cI cR cM g L S f_33 ∧ FR S [0, 1, 13, 14] f f_33 ∧ ((r_33.toInt = 1 ∧ ∃ (a9 b9 : Int) (j9 : Nat), BtR ks vs i a9 b9 j9 ∧ TKm cI g ks vs f_33 j9 ∧ 2 * (len_30.toInt + 1) ≤ (n_29 : Int) ∧ RWf cI jn S f_33 r_29 (len_30.toInt + 1) (fupd (fupd (fun j => w (2 * st x.toInt + j)) (2 * len_30.toInt) a9) (2 * len_30.toInt + 1) b9)) ∨ (r_33.toInt = 0 ∧ (BtF ks vs i ∨ (n_29 : Int) < 2 * (len_30.toInt + 1)))) ∧ (FX S (fun a9 => a9 = r_29 ∨ a9 = g 24) [13, 14] f f_33) ∧ (r_33.toInt = 0 ∨ r_33.toInt = 1) := hw
      have hP : va_P D vwCl (va_pl L f_33) H := hP
      have hD : va_D A (va_pl L f_33) := hD
      have hF := FR_tr hF hF_33 (by decide)
      have hFX := FX_tr hFX hfx_33 (fun a9 h9 => h9.elim (fun h9 => Or.inl ⟨x.toInt.toNat, Nat.le_refl _, by omega, h9.trans hh_29⟩) (fun h9 => Or.inr (Or.inl h9))) (by decide)
      have fb_34 : f_33 (g 22) = .inl (cR, 6, .inr (.inr (.inr (.inr c_28)))) := FR_at hF_33 (gs_22 hG) (show (22 : Nat) ∉ ([0, 1, 13, 14] : List Nat) by decide) fg_28
      exact g_zret (r_33, f_33) hx hb hr hlocks hS (b01 (by subst hj1; omega)) rfl (⟨hI, hF, show Hd ((r_33.toInt = 1 ∧ OneR cI jn g lv S f_33 ks vs E i x.toInt top one may isO w st op dg st1 op1 dg1) ∨ (r_33.toInt = 0 ∧ Fls ks vs E (i, x.toInt, top, one, may, isO, w, st1, op1, dg1))) from (by
        rw [hl_32] at hp_33
        rcases hp_33 with ⟨h5, a9, b9, j9, h6, h7, h8, h9⟩ | ⟨h5, h6⟩
        · have h9 := RWf_e h9 hh_29.symm
          obtain ⟨q1, q2, q3⟩ := L_beat (E := E) (one := one) (isO := isO) (op1 := op1) (dg1 := dg1) hMS (fun top9 w9 q1 q2 q3 => MSb_fx hMS.1 hfx_33 (by decide) (fun k9 h8 h7 => (fun q9 => q9.elim (fun q9 => (hRD.2.2.2.2.1 k9.toNat x.toInt.toNat (by subst hj1; omega) (by subst hj1; omega) (by subst hj1; omega)) (q9.trans hh_29)) (fun q8 => (hRD.2.1 k9.toNat (by subst hj1; omega)).2.1 q8))) (fun k9 v9 _ _ h9 => TN_fr hG hF_33 (by decide) k9 v9 h9) q1 q2 q3) hm9 (hst _ (by subst hj1; omega) (Int.le_refl _)) h6 (Bt_vK hKO h6) (by subst hj1; omega) h9
          exact Or.inl ⟨h5, j9, _, _, st1, op1, dg1, Go_1 q1, Bt_lt h6, by omega, h7, q2, hst, hop, q3⟩
        · refine Or.inr ⟨h5, Fls_0 (F_beat hm9 (fun q9 => by omega) (by subst hj1; omega) (by subst hj1; omega) (fun _ => by unfold Bgn; omega) ?_)⟩
          rw [hst _ (by subst hj1; omega) (Int.le_refl _)]
          exact h6.imp id (fun q9 => by omega)), show ∀ k9 v9 : Int, 0 ≤ k9 → k9 < x.toInt → TNf cI g f k9 v9 → TNf cI g f_33 k9 v9 from (fun k9 v9 _ _ h9 => TN_fr hG hF_33 (by decide) k9 v9 h9), show FX S (BXp g lv x.toInt) [13, 14, 34] f f_33 from (by first | assumption | omega | (subst hj1; omega)), show r_33.toInt = 0 ∨ r_33.toInt = 1 from (by first | assumption | omega | (subst hj1; omega))⟩) hP hD hQ (Nat.le_of_ble_eq_true rfl) (Nat.le_of_ble_eq_true rfl) dX4_readOne_85
    · refine lv_lookup (off := 64) (tgt := 86) hx hb dX4_readOne_22 (by decide) (by rw [hu_6]; exact (show Op.lookupswitch.offset [(2, 53), (3, 42), (60, 53), (91, 53)] (64) kd_4.toInt = (64) from lkc (by subst hj1; omega) (lkc (by subst hj1; omega) (lkc (by subst hj1; omega) (lkc (by subst hj1; omega) (lkn _ _)))))) (by decide) ?_
      have hkg : ks i = 40 ∨ (7 ≤ ks i ∧ ks i ≤ 10) := by have h9 := cK_f (hKO i).1; omega
      refine lv_aload_n hx hb dX4_readOne_86 rfl (lv_at hl 1 rfl) ?_
      refine lv_iload_n hx hb dX4_readOne_87 rfl (lv_at hl 0 rfl) ?_
      refine lv_iload_n hx hb dX4_readOne_88 rfl (lv_at hl 2 rfl) ?_
      refine call_p (va_runV (As := [.int kd_4, .int x]) (rest := []) ⟨hx, hb, hml, hown, hts⟩ (t_X4_openGroupm l D cI cR cM _ (ks := ks) (vs := vs) (i := i)  hj hG hI  (by first | assumption | omega | (subst hj1; omega)) (hC) (by first | assumption | omega | (subst hj1; omega)) (kk_5) (hkg) (by subst hj1; omega)) (cwV 2 hts gX4_readOne_X4_openGroup rfl rfl rfl (by decide +kernel) ⟨Nat.le_of_ble_eq_true rfl, Nat.le_of_ble_eq_true rfl⟩) (pre_T hK hP hD (gm_13 hG) fg_1 rfl) rfl rfl hl.1 rfl (lv_room (Nat.le_of_ble_eq_true rfl)) dX4_readOne_89 ⟨Nat.le_of_ble_eq_true rfl, Nat.le_of_ble_eq_true rfl⟩) hD hS hA (fun u_35 H locs hw hP hD hS => ?_)
      obtain ⟨r_35, f_35⟩ := u_35
      obtain ⟨hI, hF_35, hp_35, ht_35, hfx_35, h01_35⟩ : IN jn cI cR cM g L S f_35 ∧ FR S [13, 14, 34] f f_35 ∧ ((r_35.toInt = 1 ∧ x.toInt < 5 ∧ ((ks i = 40 ∧ TKm cI g ks vs f_35 (i + 1)) ∨ ((7 ≤ ks i ∧ ks i ≤ 9) ∧ ks (i + 1) = 40 ∧ TKm cI g ks vs f_35 (i + 2)) ∨ (ks i = 10 ∧ ks (i + 1) = 1 ∧ ks (i + 2) = 40 ∧ TKm cI g ks vs f_35 (i + 3) ∧ TNf cI g f_35 x.toInt (vs (i + 1))))) ∨ (r_35.toInt = 0 ∧ ¬ (x.toInt < 5 ∧ (ks i = 40 ∨ ((7 ≤ ks i ∧ ks i ≤ 9) ∧ ks (i + 1) = 40) ∨ (ks i = 10 ∧ ks (i + 1) = 1 ∧ ks (i + 2) = 40))))) ∧ (∀ k9 v9 : Int, 0 ≤ k9 → k9 ≠ x.toInt → TNf cI g f k9 v9 → TNf cI g f_35 k9 v9) ∧ (FX S (fun _ => False) [13, 14, 34] f f_35) ∧ (r_35.toInt = 0 ∨ r_35.toInt = 1) := hw
      have hP : va_P D vwCl (va_pl L f_35) H := hP
      have hD : va_D A (va_pl L f_35) := hD
      have hF := FR_tr hF hF_35 (by decide)
      have hFX := FX_tr hFX hfx_35 (fun _ h9 => h9.elim) (by decide)
      refine a_if_eq (u := r_35.toInt) (tgt := 127) hx hb dX4_readOne_92 (by decide) (rfl) (fun c_36 => ?_) (fun c_36 => ?_)
      · refine lv_iconst (v := 0) hx hb dX4_readOne_127 (by decide) ?_
        have hz_37 : (0 : Int32).toInt = 0 := by decide
        exact g_zret ((0 : Int32), f_35) hx hb hr hlocks hS (by first | exact Or.inl rfl | exact Or.inr rfl) rfl (⟨hI, hF, show Hd (((0 : Int32).toInt = 1 ∧ OneR cI jn g lv S f_35 ks vs E i x.toInt top one may isO w st op dg st1 op1 dg1) ∨ ((0 : Int32).toInt = 0 ∧ Fls ks vs E (i, x.toInt, top, one, may, isO, w, st1, op1, dg1))) from (Or.inr ⟨rfl, Fls_0 (F_opens (by subst hj1; omega) (hp_35.resolve_left (fun q9 => by have := q9.1; omega)).2)⟩), show ∀ k9 v9 : Int, 0 ≤ k9 → k9 < x.toInt → TNf cI g f k9 v9 → TNf cI g f_35 k9 v9 from (fun k9 v9 h7 h8 h9 => (ht_35 k9 v9 h7 (by subst hj1; omega) h9)), show FX S (BXp g lv x.toInt) [13, 14, 34] f f_35 from (by first | assumption | omega | (subst hj1; omega)), show (0 : Int32).toInt = 0 ∨ (0 : Int32).toInt = 1 from (by first | assumption | omega | (subst hj1; omega))⟩) hP hD hQ (Nat.le_of_ble_eq_true rfl) (Nat.le_of_ble_eq_true rfl) dX4_readOne_128
      · obtain ⟨hz1, hz2⟩ := hp_35.resolve_right (fun q9 => by have := q9.1; omega)
        have hMS1 := MSt_fx hMS hfx_35 (by decide) (fun _ _ _ h9 => h9) (fun k9 v9 h7 h8 h9 => ht_35 k9 v9 h7 (by subst hj1; omega) h9)
        have hLv1 := LvC_fr hLv hG hF_35 (by decide)
        have hEC1 := EnvC_fx hEC hG hF_35 hfx_35 (by decide) (by decide) (fun _ _ h9 => h9) (fun _ _ h9 => h9)
        obtain ⟨i1, K1, D1, hs1, hc1_, hi1, hK1, hT1⟩ := L_opens (E := E) (top := top) (one := one) (isO := isO) (w := w) (st := st1) (op := op1) (dg := dg1) hm9 hz2
        have hMo := L_open (K := K1) (D := D1) hMS1 (by subst hj1; omega) hT1
        refine lv_aload_n hx hb dX4_readOne_95 rfl (lv_at hl 1 rfl) ?_
        refine lv_iload_n hx hb dX4_readOne_96 rfl (lv_at hl 2 rfl) ?_
        refine lv_iconst (v := 1) hx hb dX4_readOne_97 (by decide) ?_
        refine a_iadd (u := x.toInt) (v := 1) hx hb dX4_readOne_98 (rfl) (by decide) (by subst hj1; omega) (fun z_38 e_38 => ?_)
        obtain ⟨fa_39, pl_39, fg_39⟩ := op_13 hI (gm_13 hG) (gs_13 hG)
        refine call_p (va_runV (As := [.int z_38]) (rest := []) ⟨hx, hb, hml, hown, hts⟩ (t_X4_readSequencem_3 l D cI cR cM _ (i := i1) (top := top) (one := one) (w := w) (st := (fupd st (x.toInt + 1) top)) (op := (fupd op x.toInt K1)) (dg := (fupd dg x.toInt D1)) (st1 := (fupd st1 (x.toInt + 1) top)) (op1 := (fupd op1 x.toInt K1)) (dg1 := (fupd dg1 x.toInt D1)) (lv := lv) (gr := gr) (E := E) (F := F) (ks := ks) (vs := vs)  hj hG hI  (by first | assumption | omega | (subst hj1; omega)) (hc1_) (by first | assumption | omega | (subst hj1; omega)) (hRD) (hLv1) (hEC1) (hEO) (by subst hj1; omega) (by subst hj1; omega) (by rw [show z_38.toInt = x.toInt + 1 by omega]; exact hMo) (by rw [show z_38.toInt = x.toInt + 1 by omega]; exact fu_s) (fun k9 h8 h9 => by
          by_cases q9 : k9 = x.toInt + 1
          · rw [q9, fu_s, fu_s]
          · rw [fu_n q9, fu_n q9]; exact hst k9 h8 (by subst hj1; omega)) (fun k9 h8 h9 => by
          by_cases q9 : k9 = x.toInt
          · rw [q9, fu_s, fu_s, fu_s, fu_s]; exact ⟨rfl, rfl⟩
          · rw [fu_n q9, fu_n q9, fu_n q9, fu_n q9]; exact hop k9 h8 (by subst hj1; omega))) (cwV 1 hts gX4_readOne_X4_readSequence rfl rfl rfl (by decide +kernel) ⟨Nat.le_of_ble_eq_true rfl, Nat.le_of_ble_eq_true rfl⟩) (pre_T hK hP hD (gm_13 hG) fg_39 rfl) rfl rfl hl.1 rfl (lv_room (Nat.le_of_ble_eq_true rfl)) dX4_readOne_99 ⟨Nat.le_of_ble_eq_true rfl, Nat.le_of_ble_eq_true rfl⟩) hD hS hA (fun u_40 H locs hw hP hD hS => ?_)
        obtain ⟨r_40, f_40⟩ := u_40
        obtain ⟨hI, hF_40, hp_40, htn_40, hfx_40, h01_40⟩ : IN jn cI cR cM g L S f_40 ∧ FR S [0, 1, 13, 14, 34] f_35 f_40 ∧ (Hd ((r_40.toInt = 1 ∧ SeqR cI jn g lv S f_40 ks vs E i1 z_38.toInt top one w (fupd st (x.toInt + 1) top) (fupd op x.toInt K1) (fupd dg x.toInt D1) (fupd st1 (x.toInt + 1) top) (fupd op1 x.toInt K1) (fupd dg1 x.toInt D1)) ∨ (r_40.toInt = 0 ∧ Fls ks vs E (i1, z_38.toInt, top, one, 0, 0, w, (fupd st1 (x.toInt + 1) top), (fupd op1 x.toInt K1), (fupd dg1 x.toInt D1))))) ∧ (∀ k9 v9 : Int, 0 ≤ k9 → k9 < z_38.toInt → TNf cI g f_35 k9 v9 → TNf cI g f_40 k9 v9) ∧ (FX S (BXp g lv z_38.toInt) [13, 14, 34] f_35 f_40) ∧ (r_40.toInt = 0 ∨ r_40.toInt = 1) := hw
        have hP : va_P D vwCl (va_pl L f_40) H := hP
        have hD : va_D A (va_pl L f_40) := hD
        have hF := FR_tr hF hF_40 (by decide)
        have hFX := FX_tr hFX hfx_40 (fun a9 h9 => h9.imp (fun ⟨k9, h8, h7, h6⟩ => ⟨k9, by omega, h7, h6⟩) id) (by decide)
        have hpz_40 := hp_40
        rw [show z_38.toInt = x.toInt + 1 by omega] at hpz_40
        refine a_if_eq (u := r_40.toInt) (tgt := 127) hx hb dX4_readOne_102 (by decide) (rfl) (fun c_41 => ?_) (fun c_41 => ?_)
        · refine lv_iconst (v := 0) hx hb dX4_readOne_127 (by decide) ?_
          have hz_42 : (0 : Int32).toInt = 0 := by decide
          exact g_zret ((0 : Int32), f_40) hx hb hr hlocks hS (by first | exact Or.inl rfl | exact Or.inr rfl) rfl (⟨hI, hF, show Hd (((0 : Int32).toInt = 1 ∧ OneR cI jn g lv S f_40 ks vs E i x.toInt top one may isO w st op dg st1 op1 dg1) ∨ ((0 : Int32).toInt = 0 ∧ Fls ks vs E (i, x.toInt, top, one, may, isO, w, st1, op1, dg1))) from (Or.inr ⟨rfl, Fls_tr (Go_1 hs1) (hpz_40.resolve_left (fun q9 => by have := q9.1; omega)).2⟩), show ∀ k9 v9 : Int, 0 ≤ k9 → k9 < x.toInt → TNf cI g f k9 v9 → TNf cI g f_40 k9 v9 from (fun k9 v9 h7 h8 h9 => (htn_40 k9 v9 h7 (by subst hj1; omega) (ht_35 k9 v9 h7 (by subst hj1; omega) h9))), show FX S (BXp g lv x.toInt) [13, 14, 34] f f_40 from (by first | assumption | omega | (subst hj1; omega)), show (0 : Int32).toInt = 0 ∨ (0 : Int32).toInt = 1 from (by first | assumption | omega | (subst hj1; omega))⟩) hP hD hQ (Nat.le_of_ble_eq_true rfl) (Nat.le_of_ble_eq_true rfl) dX4_readOne_128
        · obtain ⟨-, n_, i2_, top2_, one2_, may2_, w2_, st2_, op2_, dg2_, ⟨hq0, hq1, hq2, hqs, hqo, hqa, hqm, hqx, -⟩, hqp, hqn⟩ := hpz_40.resolve_right (fun q9 => by have := q9.1; omega)
          have hLv2 := LvC_fr hLv1 hG hF_40 (by decide)
          obtain ⟨-, -, hqi, hqt⟩ := hqx.resolve_left (fun q9 => by have := q9.1; omega)
          refine lv_aload_n hx hb dX4_readOne_105 rfl (lv_at hl 1 rfl) ?_
          refine lv_bipush (v := 41) hx hb dX4_readOne_106 (by decide) ?_
          have hz_43 : (41 : Int32).toInt = 41 := by decide
          obtain ⟨fa_44, pl_44, fg_44⟩ := op_13 hI (gm_13 hG) (gs_13 hG)
          refine call_p (va_runV (As := [.int 41]) (rest := []) ⟨hx, hb, hml, hown, hts⟩ (t_X4_expectm l D cI cR cM _ (ks := ks) (vs := vs) (i := i2_) (K9 := 41)  hj hG hI  (by first | assumption | omega | (subst hj1; omega)) (hq1) (by first | assumption | omega | (subst hj1; omega)) (by decide) (Or.inr ⟨by decide, by decide⟩)) (cwV 1 hts gX4_readOne_X4_expect rfl rfl rfl (by decide +kernel) ⟨Nat.le_of_ble_eq_true rfl, Nat.le_of_ble_eq_true rfl⟩) (pre_T hK hP hD (gm_13 hG) fg_44 rfl) rfl rfl hl.1 rfl (lv_room (Nat.le_of_ble_eq_true rfl)) dX4_readOne_108 ⟨Nat.le_of_ble_eq_true rfl, Nat.le_of_ble_eq_true rfl⟩) hD hS hA (fun u_45 H locs hw hP hD hS => ?_)
          obtain ⟨r_45, f_45⟩ := u_45
          obtain ⟨hI, hF_45, hp_45, hfx_45, h01_45⟩ : IN jn cI cR cM g L S f_45 ∧ FR S [13, 14] f_40 f_45 ∧ ((r_45.toInt = 1 ∧ ks i2_ = 41 ∧ TKm cI g ks vs f_45 (i2_ + 1)) ∨ (r_45.toInt = 0 ∧ ks i2_ ≠ 41)) ∧ (FX S (fun _ => False) [13, 14] f_40 f_45) ∧ (r_45.toInt = 0 ∨ r_45.toInt = 1) := hw
          have hP : va_P D vwCl (va_pl L f_45) H := hP
          have hD : va_D A (va_pl L f_45) := hD
          have hF := FR_tr hF hF_45 (by decide)
          have hFX := FX_tr hFX hfx_45 (fun _ h9 => h9.elim) (by decide)
          refine a_if_eq (u := r_45.toInt) (tgt := 127) hx hb dX4_readOne_111 (by decide) (rfl) (fun c_46 => ?_) (fun c_46 => ?_)
          · refine lv_iconst (v := 0) hx hb dX4_readOne_127 (by decide) ?_
            have hz_47 : (0 : Int32).toInt = 0 := by decide
            exact g_zret ((0 : Int32), f_45) hx hb hr hlocks hS (by first | exact Or.inl rfl | exact Or.inr rfl) rfl (⟨hI, hF, show Hd (((0 : Int32).toInt = 1 ∧ OneR cI jn g lv S f_45 ks vs E i x.toInt top one may isO w st op dg st1 op1 dg1) ∨ ((0 : Int32).toInt = 0 ∧ Fls ks vs E (i, x.toInt, top, one, may, isO, w, st1, op1, dg1))) from (Or.inr ⟨rfl, Fls_tr (Go_tr (Go_1 hs1) hq0) (L_open_F hqn hqm (hp_45.resolve_left (fun q9 => by have := q9.1; omega)).2 (by subst hj1; omega))⟩), show ∀ k9 v9 : Int, 0 ≤ k9 → k9 < x.toInt → TNf cI g f k9 v9 → TNf cI g f_45 k9 v9 from (fun k9 v9 h7 h8 h9 => (TN_fr hG hF_45 (by decide) k9 v9 (htn_40 k9 v9 h7 (by subst hj1; omega) (ht_35 k9 v9 h7 (by subst hj1; omega) h9)))), show FX S (BXp g lv x.toInt) [13, 14, 34] f f_45 from (by first | assumption | omega | (subst hj1; omega)), show (0 : Int32).toInt = 0 ∨ (0 : Int32).toInt = 1 from (by first | assumption | omega | (subst hj1; omega))⟩) hP hD hQ (Nat.le_of_ble_eq_true rfl) (Nat.le_of_ble_eq_true rfl) dX4_readOne_128
          · obtain ⟨-, hk41, hq5⟩ := hp_45.resolve_right (fun q9 => by have := q9.1; omega)
            have hLv3 := LvC_fr hLv2 hG hF_45 (by decide)
            have hMS3 := MSt_fx hq2 hfx_45 (by decide) (fun _ _ _ h9 => h9) (fun k9 v9 _ _ h9 => TN_fr hG hF_45 (by decide) k9 v9 h9)
            obtain ⟨hP1, hP2, hP3, hP4, hP5⟩ := L_pre hMS3 (by subst hj1; omega)
            have hst0 := (hMS.1.2.1 x.toInt (by subst hj1; omega) (Int.le_refl _)).1
            refine lv_aload_n hx hb dX4_readOne_114 rfl (lv_at hl 1 rfl) ?_
            refine lv_iload_n hx hb dX4_readOne_115 rfl (lv_at hl 0 rfl) ?_
            refine lv_iload_n hx hb dX4_readOne_116 rfl (lv_at hl 2 rfl) ?_
            obtain ⟨fa_48, pl_48, fg_48⟩ := op_13 hI (gm_13 hG) (gs_13 hG)
            refine call_p (va_runV (As := [.int kd_4, .int x]) (rest := []) ⟨hx, hb, hml, hown, hts⟩ (t_X4_joinGroupm l D cI cR cM _ (lv := lv) (gr := gr) (a8 := (ks i)) (d := D1) (n0 := (top - st x.toInt)) (m0 := (top2_ - top)) (wr := (fun j => w2_ (2 * st x.toInt + j))) (wi := (fun j => w2_ (2 * top + j)))  hj hG hI  (by first | assumption | omega | (subst hj1; omega)) (kk_5) (⟨(hKO i).1, hkg⟩) (by subst hj1; omega) (hRD) (hLv3) (hP1) (hP2) (by subst hj1; omega) (fun q9 => hP4 (by subst hj1; omega)) (srt_sh (by subst hj1; omega) (fun b9 h8 h9 => hP5 b9 h8 (by subst hj1; omega)))) (cwV 2 hts gX4_readOne_X4_joinGroup rfl rfl rfl (by decide +kernel) ⟨Nat.le_of_ble_eq_true rfl, Nat.le_of_ble_eq_true rfl⟩) (pre_T hK hP hD (gm_13 hG) fg_48 rfl) rfl rfl hl.1 rfl (lv_room (Nat.le_of_ble_eq_true rfl)) dX4_readOne_117 ⟨Nat.le_of_ble_eq_true rfl, Nat.le_of_ble_eq_true rfl⟩) hD hS hA (fun u_49 H locs hw hP hD hS => ?_)
            obtain ⟨r_49, f_49⟩ := u_49
            obtain ⟨hI, hF_49, hp_49, hfx_49, h01_49⟩ : IN jn cI cR cM g L S f_49 ∧ FR S [0, 1, 13] f_45 f_49 ∧ ((r_49.toInt = 1 ∧ (top - st x.toInt) + (top2_ - top) ≤ 24 ∧ ∃ v9 : Int → Int, ChI (ks i) D1 (fun j => w2_ (2 * top + j)) (top2_ - top) v9 ∧ RWf cI jn S f_49 (lv x.toInt.toNat) ((top - st x.toInt) + (top2_ - top)) (fun j => if j < 2 * (top - st x.toInt) then (fun j => w2_ (2 * st x.toInt + j)) j else v9 (j - 2 * (top - st x.toInt)))) ∨ (r_49.toInt = 0 ∧ (24 < (top - st x.toInt) + (top2_ - top) ∨ ChIF (ks i) (fun j => w2_ (2 * top + j)) (top2_ - top)))) ∧ (FX S (fun a9 => a9 = lv x.toInt.toNat ∨ a9 = g 25) [13] f_45 f_49) ∧ (r_49.toInt = 0 ∨ r_49.toInt = 1) := hw
            have hP : va_P D vwCl (va_pl L f_49) H := hP
            have hD : va_D A (va_pl L f_49) := hD
            have hF := FR_tr hF hF_49 (by decide)
            have hFX := FX_tr hFX hfx_49 (fun a9 h9 => h9.elim (fun q9 => Or.inl ⟨x.toInt.toNat, Nat.le_refl _, by omega, q9⟩) (fun q9 => Or.inr (Or.inr q9))) (by decide)
            refine a_if_eq (u := r_49.toInt) (tgt := 127) hx hb dX4_readOne_120 (by decide) (rfl) (fun c_50 => ?_) (fun c_50 => ?_)
            · refine lv_iconst (v := 0) hx hb dX4_readOne_127 (by decide) ?_
              have hz_51 : (0 : Int32).toInt = 0 := by decide
              exact g_zret ((0 : Int32), f_49) hx hb hr hlocks hS (by first | exact Or.inl rfl | exact Or.inr rfl) rfl (⟨hI, hF, show Hd (((0 : Int32).toInt = 1 ∧ OneR cI jn g lv S f_49 ks vs E i x.toInt top one may isO w st op dg st1 op1 dg1) ∨ ((0 : Int32).toInt = 0 ∧ Fls ks vs E (i, x.toInt, top, one, may, isO, w, st1, op1, dg1))) from (by
                have h8 := (hp_49.resolve_left (fun q9 => by have := q9.1; omega)).2
                refine Or.inr ⟨rfl, Fls_tr (Go_tr (Go_1 hs1) hq0) (Fls_0 (F_closes hk41 rfl (by subst hj1; omega) ?_))⟩
                have t1 : st2_ (x.toInt + 1 - 1) = st x.toInt := by rw [show x.toInt + 1 - 1 = x.toInt by omega, hqs _ (by subst hj1; omega) (by subst hj1; omega), fu_n (by subst hj1; omega)]
                have t2 : st2_ (x.toInt + 1) = top := by rw [hqs _ (by subst hj1; omega) (by subst hj1; omega), fu_s]
                have t3 : op2_ (x.toInt + 1 - 1) = K1 := by rw [show x.toInt + 1 - 1 = x.toInt by omega, (hqo _ (by subst hj1; omega) (by subst hj1; omega)).1, fu_s]
                rw [t1, t2, t3]
                exact h8.imp (fun q9 => by omega) (fun q9 => Ch_upF q9 hK1)), show ∀ k9 v9 : Int, 0 ≤ k9 → k9 < x.toInt → TNf cI g f k9 v9 → TNf cI g f_49 k9 v9 from (fun k9 v9 h7 h8 h9 => TN_fr hG hF_49 (by decide) k9 v9 (TN_fr hG hF_45 (by decide) k9 v9 (htn_40 k9 v9 h7 (by subst hj1; omega) (ht_35 k9 v9 h7 (by subst hj1; omega) h9)))), show FX S (BXp g lv x.toInt) [13, 14, 34] f f_49 from (by first | assumption | omega | (subst hj1; omega)), show (0 : Int32).toInt = 0 ∨ (0 : Int32).toInt = 1 from (by first | assumption | omega | (subst hj1; omega))⟩) hP hD hQ (Nat.le_of_ble_eq_true rfl) (Nat.le_of_ble_eq_true rfl) dX4_readOne_128
            · obtain ⟨-, hj5, v9_, hj6, hj7⟩ := hp_49.resolve_right (fun q9 => by have := q9.1; omega)
              obtain ⟨w3_, hc1, hc2, hc3⟩ := L_close (f := f) (ks := ks) (vs := vs) (E := E) (i := i2_) (one := one2_) (may := may2_) (a := ks i) (K := K1) (D := D1) (w := w) (st := st) (op := op) (dg := dg) (st2 := st2_) (op2 := op2_) (dg2 := dg2_) hP5 (fun top9 w9 q1 q2 q3 => MSb_fx hMS.1 hFX (by decide) (nb_lv hRD (by subst hj1; omega)) (fun k9 v9 h7 h8 h9 => TN_fr hG hF_49 (by decide) k9 v9 (TN_fr hG hF_45 (by decide) k9 v9 (htn_40 k9 v9 h7 (by subst hj1; omega) (ht_35 k9 v9 h7 (by subst hj1; omega) h9)))) q1 q2 q3) (fun j9 h8 h9 => hqa j9 h8 (by rw [fu_s]; exact h9)) hst0 (by subst hj1; omega) (by subst hj1; omega) hqt hk41 (by rw [hqs _ (by subst hj1; omega) (by subst hj1; omega), fu_n (by subst hj1; omega)]) (by rw [hqs _ (by subst hj1; omega) (by subst hj1; omega), fu_s]) (by rw [(hqo _ (by subst hj1; omega) (by subst hj1; omega)).1, fu_s]) (by rw [(hqo _ (by subst hj1; omega) (by subst hj1; omega)).2, fu_s]) hK1 (by subst hj1; omega) hj6 hj7
              refine lv_iconst (v := 1) hx hb dX4_readOne_123 (by decide) ?_
              refine lv_goto (tgt := 128) hx hb dX4_readOne_124 (by decide) ?_
              have hz_52 : (1 : Int32).toInt = 1 := by decide
              exact g_zret ((1 : Int32), f_49) hx hb hr hlocks hS (by first | exact Or.inl rfl | exact Or.inr rfl) rfl (⟨hI, hF, show Hd (((1 : Int32).toInt = 1 ∧ OneR cI jn g lv S f_49 ks vs E i x.toInt top one may isO w st op dg st1 op1 dg1) ∨ ((1 : Int32).toInt = 0 ∧ Fls ks vs E (i, x.toInt, top, one, may, isO, w, st1, op1, dg1))) from (Or.inl ⟨rfl, i2_ + 1, top2_, w3_, st2_, op2_, dg2_, Go_tr (Go_1 hs1) (Go_tr hq0 (Go_1 hc1)), by omega, by omega, TKm_fr hq5 hG hF_49 (by decide), hc2, fun k9 h8 h7 => by rw [hqs k9 h8 (by subst hj1; omega), fu_n (show k9 ≠ x.toInt + 1 by omega)], fun k9 h8 h7 => by rw [(hqo k9 h8 (by subst hj1; omega)).1, (hqo k9 h8 (by subst hj1; omega)).2, fu_n (show k9 ≠ x.toInt by omega), fu_n (show k9 ≠ x.toInt by omega)]; exact ⟨rfl, rfl⟩, hc3⟩), show ∀ k9 v9 : Int, 0 ≤ k9 → k9 < x.toInt → TNf cI g f k9 v9 → TNf cI g f_49 k9 v9 from (fun k9 v9 h7 h8 h9 => TN_fr hG hF_49 (by decide) k9 v9 (TN_fr hG hF_45 (by decide) k9 v9 (htn_40 k9 v9 h7 (by subst hj1; omega) (ht_35 k9 v9 h7 (by subst hj1; omega) h9)))), show FX S (BXp g lv x.toInt) [13, 14, 34] f f_49 from (by first | assumption | omega | (subst hj1; omega)), show (1 : Int32).toInt = 0 ∨ (1 : Int32).toInt = 1 from (by first | assumption | omega | (subst hj1; omega))⟩) hP hD hQ (Nat.le_of_ble_eq_true rfl) (Nat.le_of_ble_eq_true rfl) dX4_readOne_128
  · refine lv_aload_n hx hb dX4_readOne_7 rfl (lv_at hl 0 rfl) ?_
    refine lv_iconst (v := 1) hx hb dX4_readOne_8 (by decide) ?_
    have hz_53 : (1 : Int32).toInt = 1 := by decide
    refine call_p (va_runV (As := [.int 1]) (rest := []) ⟨hx, hb, hml, hown, hts⟩ (t_X4_fail l D cI cR cM _   hj hG hI  ) (cwV 1 hts gX4_readOne_X4_fail rfl rfl rfl (by decide +kernel) ⟨Nat.le_of_ble_eq_true rfl, Nat.le_of_ble_eq_true rfl⟩) (pre_T hK hP hD (gm_13 hG) fg_1 rfl) rfl rfl hl.1 rfl (lv_room (Nat.le_of_ble_eq_true rfl)) dX4_readOne_9 ⟨Nat.le_of_ble_eq_true rfl, Nat.le_of_ble_eq_true rfl⟩) hD hS hA (fun u_54 H locs hw hP hD hS => ?_)
    obtain ⟨r_54, f_54⟩ := u_54
    obtain ⟨hI, hF_54, h0_54, h01_54⟩ : IN jn cI cR cM g L S f_54 ∧ FR S [13] f f_54 ∧ (r_54.toInt = 0) ∧ (r_54.toInt = 0 ∨ r_54.toInt = 1) := hw
    have hP : va_P D vwCl (va_pl L f_54) H := hP
    have hD : va_D A (va_pl L f_54) := hD
    have hF := FR_tr hF hF_54 (by decide)
    have hFX := FX_trR hFX hF_54 (by decide) (by decide)
    exact g_zret (r_54, f_54) hx hb hr hlocks hS (b01 (by subst hj1; omega)) rfl (⟨hI, hF, show Hd ((r_54.toInt = 1 ∧ OneR cI jn g lv S f_54 ks vs E i x.toInt top one may isO w st op dg st1 op1 dg1) ∨ (r_54.toInt = 0 ∧ Fls ks vs E (i, x.toInt, top, one, may, isO, w, st1, op1, dg1))) from (Or.inr ⟨h0_54, by
      have h8 := (hp_2.resolve_left (fun q9 => by have := q9.1; omega)).2
      obtain ⟨e1, e2⟩ := hbg.resolve_right h8
      rw [e1, e2]
      exact L_none h8⟩), show ∀ k9 v9 : Int, 0 ≤ k9 → k9 < x.toInt → TNf cI g f k9 v9 → TNf cI g f_54 k9 v9 from (fun k9 v9 _ _ h9 => TN_fr hG hF_54 (by decide) k9 v9 h9), show FX S (BXp g lv x.toInt) [13, 14, 34] f f_54 from (by first | assumption | omega | (subst hj1; omega)), show r_54.toInt = 0 ∨ r_54.toInt = 1 from (by first | assumption | omega | (subst hj1; omega))⟩) hP hD hQ (Nat.le_of_ble_eq_true rfl) (Nat.le_of_ble_eq_true rfl) dX4_readOne_12
set_option maxRecDepth 100000 in
set_option maxHeartbeats 4000000 in
theorem t_X4_readSequencem_4 (l : Launch) (D : va_G) (cI cR cM : ClassId) (sz : Nat) {jn : Nat} {g : Nat → Nat} {L : List Nat} {S : Sg} {f : Nat → va_E} {x : Int32} {ks vs : Nat → Int} {i : Nat} {lv gr : Nat → Nat} {E : Env1} {F : Int → Int} {top one : Int} {w st op dg st1 op1 dg1 : Int → Int} (hj : 1 ≤ jn ∧ jn ≤ 3) (hG : SG g L S) (hI : IN jn cI cR cM g L S f) (hj1 : jn = 1) (hC : TKm cI g ks vs f i) (hKO : KO ks vs) (hRD : RDC g lv gr S) (hLv : LvC cR g lv f) (hEC : EnvC cI cR jn g lv gr S f E F) (hEO : EOk E) (hx0 : 0 ≤ x.toInt ∧ x.toInt ≤ 5) (hd : 2 ≤ x.toInt) (hMS : MSb cI jn g lv S f x.toInt top w st op dg) (htop : st x.toInt = top) (hst : ∀ k9 : Int, 0 ≤ k9 → k9 ≤ x.toInt → st1 k9 = st k9) (hop : ∀ k9 : Int, 0 ≤ k9 → k9 < x.toInt → op1 k9 = op k9 ∧ dg1 k9 = dg k9) : Met l yX4_readSequence wsX4_readSequence ({ frames := 10, cells := 0, slots := 0, locals := 271 }) (P0 D cI cR cM [.ref (g 13), .int x] sz (va_pl L f)) (QG (S := Int32 × (Nat → va_E)) (fun u => some (.int u.1)) (fun u => va_pl L u.2) (fun u => IN jn cI cR cM g L S u.2 ∧ FR S [0, 1, 13, 14, 34] f u.2 ∧ (Hd ((u.1.toInt = 1 ∧ SeqR cI jn g lv S u.2 ks vs E i x.toInt top one w st op dg st1 op1 dg1) ∨ (u.1.toInt = 0 ∧ Fls ks vs E (i, x.toInt, top, one, 0, 0, w, st1, op1, dg1)))) ∧ (∀ k9 v9 : Int, 0 ≤ k9 → k9 < x.toInt → TNf cI g f k9 v9 → TNf cI g u.2 k9 v9) ∧ (FX S (BXp g lv x.toInt) [13, 14, 34] f u.2) ∧ (u.1.toInt = 0 ∨ u.1.toInt = 1)) D (va_A (va_pl L f) sz)) 0 0 (va_A (va_pl L f) sz) := by
  refine go (cc := cX4_readSequence) (maxL := 5) (ret := (some .boolean)) (by decide +kernel) rfl (Nat.le_of_ble_eq_true rfl) ?_
  intro p e s m below meth c ls args Q hQ hsz hx hb hr hml hts hown hlocks hnm hP hK hD hl
  subst hsz
  have hD := hD.self (sz := s.heap.size)
  generalize hAe : va_A (va_pl L f) s.heap.size = A at hD hQ
  have hA : ∀ q, s.heap.size ≤ q → A q := fun q h => by rw [← hAe]; exact Or.inr h
  have hS : va_S A s.heap s.heap [] := va_S.rf
  have hFX : FX S (BXp g lv x.toInt) [13, 14, 34] f f := FX_rf
  have hF : FR S [0, 1, 13, 14, 34] f f := FR_rf
  have hl : lv_has ls 5 [(0, .ref (g 13)), (1, .int x)] := hl
  refine lv_iload_n hx hb dX4_readSequence_0 rfl (lv_at hl 1 rfl) ?_
  refine a_if_lt (u := x.toInt) (tgt := 9) hx hb dX4_readSequence_1 (by decide) (rfl) (fun c_1 => absurd c_1 (by subst hj1; omega)) (fun c_1 => ?_)
  refine lv_iload_n hx hb dX4_readSequence_4 rfl (lv_at hl 1 rfl) ?_
  refine lv_iconst (v := 5) hx hb dX4_readSequence_5 (by decide) ?_
  refine a_icmp_le (u := x.toInt) (v := 5) (tgt := 15) hx hb dX4_readSequence_6 (by decide) (rfl) (by decide) (fun c_2 => ?_) (fun c_2 => absurd c_2 (by subst hj1; omega))
  refine lv_aload_n hx hb dX4_readSequence_15 rfl (lv_at hl 0 rfl) ?_
  obtain ⟨fa_3, pl_3, fg_3⟩ := op_13 hI (gm_13 hG) (gs_13 hG)
  refine t_get (D := D) (L := L) (f := f) (ci := 4) (v := .ref (g 22)) (C := RX4) (T := TX4) (N := 11) hx hb hts (by decide +kernel) hown hK.1 hP (gm_13 hG) fg_3 rfl 3 (by decide) (hts (.fieldLink RX4 13 "JugglingHall$Reader" "levels" "[LJugglingHall$Row;") (by decide +kernel)) (fun _ h9 => h9) rfl dX4_readSequence_16 ?_
  refine lv_iload_n hx hb dX4_readSequence_19 rfl (lv_at hl 1 rfl) ?_
  obtain ⟨c_4, fg_4, iv0_4⟩ := op_22 hI (gm_22 hG) (gs_22 hG)
  refine t_aald (L := L) (f := f) (y := c_4) (u := x.toInt) hx hb hK.1 hP (gm_22 hG) 1 fg_4 rfl dX4_readSequence_20 (rfl) (by subst hj1; omega) (fun w_5 q_5 => ?_)
  obtain ⟨r_5, p_5, n_5, er_5, m_5, s_5⟩ := iv0_4 x.toInt (by subst hj1; omega) (by subst hj1; omega)
  have q_5 := q_5.trans er_5
  subst q_5
  refine W.eq (g2 := F0 m 21 ls [.ref r_5]) rfl ?_
  have hh_5 : r_5 = lv x.toInt.toNat := LvC_at (l := x.toInt) hLv fg_4 (by subst hj1; omega) (by subst hj1; omega) (by rw [show x.toInt = x.toInt by omega]; exact er_5)
  have hN_5 := cap_of (S := S) (a := r_5) (k := 48) (by rw [hh_5]; exact (hRD.2.1 _ (by subst hj1; omega)).1) s_5
  obtain ⟨len_6, fg_6, v1_6, v2_6, v3_6, mp_6, sp_6⟩ := op_0 hI m_5 s_5
  obtain ⟨w1_6, w2_6, w3_6, w4_6, w5_6⟩ := lenw hj v1_6 v2_6 v3_6
  obtain ⟨c_7, fg_7, iv0_7⟩ := op_1 hI mp_6 sp_6
  refine lv_astore_n (lv' := [(2, .ref r_5), (0, .ref (g 13)), (1, .int x)]) hx hb dX4_readSequence_21 rfl hl (by decide) rfl (fun ls hl => ?_)
  refine lv_aload_n hx hb dX4_readSequence_22 rfl (lv_at hl 0 rfl) ?_
  refine lv_iconst (v := 0) hx hb dX4_readSequence_23 (by decide) ?_
  have hz_9 : (0 : Int32).toInt = 0 := by decide
  refine t_putN (D := D) (L := L) (f := f) (ci := 5) (v := .int 0) (ty := .int) (C := RX5) (T := TX5) (N := 4) (host := "JugglingHall") hx hb hts (by decide +kernel) tyX5 tyX5_ok nmX5 hown hK.1 hP hD hS m_5 fg_6 rfl 3 (by decide) (hK.nw (.fieldLinkNest RX4 62 "JugglingHall$Row" "length" "I" "JugglingHall") (by decide +kernel) rfl) (fun _ h9 => h9) rfl (by decide +kernel) rfl rfl (Nat.le_of_ble_eq_true rfl) dX4_readSequence_24 (fun f_8 H locs e9_8 o_8 hP hD hS => ?_)
  have fa_8 : f_8 r_5 = .inr (5, [.int (nI jn), .int (nI (2 * jn)), .ref p_5, .int 0]) := e9_8
  have hI := IN_set (e := .inr (5, [.int (nI jn), .int (nI (2 * jn)), .ref p_5, .int 0])) hI s_5 (mk_0 (by first | assumption | omega | (subst hj1; omega)) (by rw [show (0 : Int32).toInt = 0 from rfl, Int.zero_mul]; omega) (by first | assumption | omega | (subst hj1; omega)) (by first | assumption | omega | (subst hj1; omega)) (by first | assumption | omega | (subst hj1; omega))) fa_8 o_8
  have hF := FR_set hF s_5 (show (0 : Nat) ∈ ([0, 1, 13, 14, 34] : List Nat) by decide) o_8
  have hFX := FX_set0 hFX s_5 (Or.inl ⟨x.toInt.toNat, Nat.le_refl _, by omega, hh_5⟩) o_8
  have fb_10 : f_8 (g 13) = .inr (4, [.int (nI jn), .ref (g 14), .ref (g 12), .ref (g 22), .ref (g 34), .ref (g 23), .ref (g 24), .ref (g 25), .ref (g 26), .int fa_3, .int pl_3]) := f_at o_8 (S_ne (gs_13 hG) s_5 (show (13 : Nat) ≠ 0 by decide)) fg_3
  have fb_11 : f_8 (g 22) = .inl (cR, 6, .inr (.inr (.inr (.inr c_4)))) := f_at o_8 (S_ne (gs_22 hG) s_5 (show (22 : Nat) ≠ 0 by decide)) fg_4
  have fb_12 : f_8 p_5 = .inl (cI, n_5, .inl c_7) := f_at o_8 (S_ne sp_6 s_5 (show (1 : Nat) ≠ 0 by decide)) fg_7
  have hC1 : TKm cI g ks vs f_8 i := TKm_o hC hG s_5 (show (0 : Nat) ∉ ([14, 31, 32] : List Nat) by decide) o_8
  have hLv1 := LvC_fr hLv hG hF (by decide)
  have hEC1 := EnvC_fx hEC hG hF hFX (by decide) (by decide) (nb_gr hRD) nb_nr
  have htl1 : ∀ k9 v9 : Int, 0 ≤ k9 → k9 < x.toInt → TNf cI g f k9 v9 → TNf cI g f_8 k9 v9 := fun k9 v9 _ _ h9 => TN_o hG s_5 (show (0 : Nat) ≠ 34 by decide) o_8 k9 v9 h9
  have hM1 : MSt cI jn g lv S f_8 x.toInt top w st op dg := ⟨MSb_fx hMS hFX (by decide) (nb_lv hRD (by subst hj1; omega)) htl1 (fun _ _ _ => rfl) (by subst hj1; omega) hMS.2.2.2.2, by omega, RWf_e (b := r_5) ⟨_, _, _, _, s_5, sp_6, fa_8, fb_12, by rw [show (0 : Int32).toInt = 0 from rfl]; omega, fun i9 h8 h9 => absurd h9 (by subst hj1; omega)⟩ hh_5.symm⟩
  refine lv_iconst (v := 0) hx hb dX4_readSequence_27 (by decide) ?_
  refine lv_istore_n (lv' := [(3, .int 0), (2, .ref r_5), (0, .ref (g 13)), (1, .int x)]) hx hb dX4_readSequence_28 rfl hl (by decide) rfl (fun ls hl => ?_)
  have loop29 : ∀ (ddloop29 : Nat) (ii : Int32) (f_13 : Nat → va_E) (H : Heap) (locs : List Loc) (ls : Array Slot), (400 - ii.toInt).toNat < ddloop29 → IN jn cI cR cM g L S f_13 → FR S [0, 1, 13, 14, 34] f f_13 → (0 ≤ ii.toInt ∧ ii.toInt ≤ 301) → (Hd (∃ (i2 : Nat) (top2 one2 may2 isO2 : Int) (w2 st2 op2 dg2 : Int → Int), SeqI cI jn g lv S f_13 ks vs E i x.toInt top one w st op dg st1 op1 dg1 ii.toInt i2 top2 one2 may2 isO2 w2 st2 op2 dg2)) → (LvC cR g lv f_13) → (EnvC cI cR jn g lv gr S f_13 E F) → (∀ k9 v9 : Int, 0 ≤ k9 → k9 < x.toInt → TNf cI g f k9 v9 → TNf cI g f_13 k9 v9) → (FX S (BXp g lv x.toInt) [13, 14, 34] f f_13) → va_P D vwCl (va_pl L f_13) H → va_D A (va_pl L f_13) → va_S A s.heap H locs → lv_has ls 5 [(0, .ref (g 13)), (1, .int x), (2, .ref r_5), (3, .int ii)] → W p l e ({ frames := 10, cells := 0, slots := 0, locals := 271 }) s m args below meth c H locs (0) (0) Q (F0 m 29 ls []) := by
    intro ddloop29
    induction ddloop29 with
    | zero =>
      intro ii f_13 H locs ls hdd
      exact absurd hdd (Nat.not_lt_zero _)
    | succ ddloop29 ih29 =>
      intro ii f_13 H locs ls hdd hI hF hi hSI hLvl hECl htl hFX hP hD hS hl
      obtain ⟨i2, top2, one2, may2, isO2, w2, st2, op2, dg2, j1, j2, j3, j4, j5, j6, j7, j8, j9⟩ := hSI
      have hst0 := (hMS.2.1 x.toInt (by subst hj1; omega) (Int.le_refl _)).1
      have htl0 := j3.1.2.2.2.1
      refine lv_iload_n hx hb dX4_readSequence_29 rfl (lv_at hl 3 rfl) ?_
      refine lv_sipush (v := 300) hx hb dX4_readSequence_30 (by decide) ?_
      refine a_icmp_gt (u := ii.toInt) (v := 300) (tgt := 79) hx hb dX4_readSequence_33 (by decide) (rfl) (by decide) (fun c_14 => ?_) (fun c_14 => ?_)
      · refine lv_iconst (v := 1) hx hb dX4_readSequence_79 (by decide) ?_
        have hz_15 : (1 : Int32).toInt = 1 := by decide
        exact g_zret ((1 : Int32), f_13) hx hb hr hlocks hS (by first | exact Or.inl rfl | exact Or.inr rfl) rfl (⟨hI, hF, show Hd (((1 : Int32).toInt = 1 ∧ SeqR cI jn g lv S f_13 ks vs E i x.toInt top one w st op dg st1 op1 dg1) ∨ ((1 : Int32).toInt = 0 ∧ Fls ks vs E (i, x.toInt, top, one, 0, 0, w, st1, op1, dg1))) from (by
          obtain ⟨e1, e2, e3, e4⟩ := j8.resolve_left (fun q9 => by have := q9.1; omega)
          rw [e2] at j1
          exact Or.inl ⟨rfl, ii.toInt, i2, top2, one2, may2, w2, st2, op2, dg2, ⟨j1, j2, j3, j4, j5, j6, j7, Or.inr ⟨e1, rfl, e3, e4⟩, j9⟩, e1, by have := TKm_end j2 (by subst hj1; omega); omega⟩), show ∀ k9 v9 : Int, 0 ≤ k9 → k9 < x.toInt → TNf cI g f k9 v9 → TNf cI g f_13 k9 v9 from (htl), show FX S (BXp g lv x.toInt) [13, 14, 34] f f_13 from (by first | assumption | omega | (subst hj1; omega)), show (1 : Int32).toInt = 0 ∨ (1 : Int32).toInt = 1 from (by first | assumption | omega | (subst hj1; omega))⟩) hP hD hQ (Nat.le_of_ble_eq_true rfl) (Nat.le_of_ble_eq_true rfl) dX4_readSequence_80
      · refine lv_iload_n hx hb dX4_readSequence_36 rfl (lv_at hl 3 rfl) ?_
        refine a_if_eq (u := ii.toInt) (tgt := 47) hx hb dX4_readSequence_37 (by decide) (rfl) (fun c_16 => ?_) (fun c_16 => ?_)
        · refine lv_aload_n hx hb dX4_readSequence_47 rfl (lv_at hl 2 rfl) ?_
          have hRl := RWf_e j3.2.2 hh_5
          obtain ⟨len_17, fg_17, v1_17, v2_17, v3_17, mp_17, sp_17⟩ := op_0 hI m_5 s_5
          obtain ⟨w1_17, w2_17, w3_17, w4_17, w5_17⟩ := lenw hj v1_17 v2_17 v3_17
          obtain ⟨c_18, fg_18, iv0_18⟩ := op_1 hI mp_6 sp_6
          obtain ⟨hl_19, hc_19⟩ := RWf_at hRl s_5 fg_17 fg_18
          refine t_getN (D := D) (L := L) (f := f_13) (ci := 5) (v := .int len_17) (C := RX5) (T := TX5) (N := 4) (host := "JugglingHall") hx hb hts (by decide +kernel) hown hK.1 hP m_5 fg_17 rfl 3 (by decide) (hK.nw (.fieldLinkNest RX4 62 "JugglingHall$Row" "length" "I" "JugglingHall") (by decide +kernel) rfl) (fun _ h9 => h9) rfl dX4_readSequence_48 ?_
          refine lv_istore (lv' := [(4, .int len_17), (0, .ref (g 13)), (1, .int x), (2, .ref r_5), (3, .int ii)]) hx hb dX4_readSequence_51 hl (by decide) rfl (fun ls hl => ?_)
          refine lv_aload_n hx hb dX4_readSequence_53 rfl (lv_at hl 1 rfl) ?_
          refine lv_iload_n hx hb dX4_readSequence_54 rfl (lv_at hl 2 rfl) ?_
          obtain ⟨fa_20, pl_20, fg_20⟩ := op_13 hI (gm_13 hG) (gs_13 hG)
          refine call_p (va_runV (As := [.int x]) (rest := []) ⟨hx, hb, hml, hown, hts⟩ (t_X4_readOnem_4 l D cI cR cM _ (i := i2) (top := top2) (one := one2) (may := may2) (isO := isO2) (w := w2) (st := st) (op := op) (dg := dg) (st1 := st2) (op1 := op2) (dg1 := dg2) (lv := lv) (gr := gr) (E := E) (F := F) (ks := ks) (vs := vs)  hj hG hI  (by first | assumption | omega | (subst hj1; omega)) (j2) (by first | assumption | omega | (subst hj1; omega)) (by first | assumption | omega | (subst hj1; omega)) (hLvl) (hECl) (by first | assumption | omega | (subst hj1; omega)) (by first | assumption | omega | (subst hj1; omega)) (by first | assumption | omega | (subst hj1; omega)) (j3) (j4) (j5) (j7) (Or.inl (j8.elim (fun q9 => ⟨q9.2.1, q9.2.2.1⟩) (fun q9 => by have := q9.1; omega)))) (cwV 1 hts gX4_readSequence_X4_readOne rfl rfl rfl (by decide +kernel) ⟨Nat.le_of_ble_eq_true rfl, Nat.le_of_ble_eq_true rfl⟩) (pre_T hK hP hD (gm_13 hG) fg_20 rfl) rfl rfl hl.1 rfl (lv_room (Nat.le_of_ble_eq_true rfl)) dX4_readSequence_55 ⟨Nat.le_of_ble_eq_true rfl, Nat.le_of_ble_eq_true rfl⟩) hD hS hA (fun u_21 H locs hw hP hD hS => ?_)
          obtain ⟨r_21, f_21⟩ := u_21
          obtain ⟨hI, hF_21, hp_21, htn_21, hfx_21, h01_21⟩ : IN jn cI cR cM g L S f_21 ∧ FR S [0, 1, 13, 14, 34] f_13 f_21 ∧ (Hd ((r_21.toInt = 1 ∧ OneR cI jn g lv S f_21 ks vs E i2 x.toInt top2 one2 may2 isO2 w2 st op dg st2 op2 dg2) ∨ (r_21.toInt = 0 ∧ Fls ks vs E (i2, x.toInt, top2, one2, may2, isO2, w2, st2, op2, dg2)))) ∧ (∀ k9 v9 : Int, 0 ≤ k9 → k9 < x.toInt → TNf cI g f_13 k9 v9 → TNf cI g f_21 k9 v9) ∧ (FX S (BXp g lv x.toInt) [13, 14, 34] f_13 f_21) ∧ (r_21.toInt = 0 ∨ r_21.toInt = 1) := hw
          have hP : va_P D vwCl (va_pl L f_21) H := hP
          have hD : va_D A (va_pl L f_21) := hD
          have hF := FR_tr hF hF_21 (by decide)
          have hFX := FX_tr hFX hfx_21 (fun _ h9 => h9) (by decide)
          refine a_if_eq (u := r_21.toInt) (tgt := 71) hx hb dX4_readSequence_58 (by decide) (rfl) (fun c_22 => ?_) (fun c_22 => ?_)
          · refine lv_iconst (v := 0) hx hb dX4_readSequence_71 (by decide) ?_
            have hz_23 : (0 : Int32).toInt = 0 := by decide
            exact g_zret ((0 : Int32), f_21) hx hb hr hlocks hS (by first | exact Or.inl rfl | exact Or.inr rfl) rfl (⟨hI, hF, show Hd (((0 : Int32).toInt = 1 ∧ SeqR cI jn g lv S f_21 ks vs E i x.toInt top one w st op dg st1 op1 dg1) ∨ ((0 : Int32).toInt = 0 ∧ Fls ks vs E (i, x.toInt, top, one, 0, 0, w, st1, op1, dg1))) from (Or.inr ⟨rfl, Fls_tr j1 (hp_21.resolve_left (fun q9 => by have := q9.1; omega)).2⟩), show ∀ k9 v9 : Int, 0 ≤ k9 → k9 < x.toInt → TNf cI g f k9 v9 → TNf cI g f_21 k9 v9 from (fun k9 v9 h7 h8 h9 => htn_21 k9 v9 h7 h8 (htl k9 v9 h7 h8 h9)), show FX S (BXp g lv x.toInt) [13, 14, 34] f f_21 from (by first | assumption | omega | (subst hj1; omega)), show (0 : Int32).toInt = 0 ∨ (0 : Int32).toInt = 1 from (by first | assumption | omega | (subst hj1; omega))⟩) hP hD hQ (Nat.le_of_ble_eq_true rfl) (Nat.le_of_ble_eq_true rfl) dX4_readSequence_72
          · obtain ⟨-, i3_, top3_, w3_, st3_, op3_, dg3_, j1_, j2_, j3_, j4_, j5_, j6_, j7_, j8_⟩ := hp_21.resolve_right (fun q9 => by have := q9.1; omega)
            have hLv2 := LvC_fr hLvl hG hF_21 (by decide)
            have hEC2 := EnvC_fx hECl hG hF_21 hfx_21 (by decide) (by decide) (nb_gr hRD) nb_nr
            have htl2 := j5_.1.2.2.2.1
            refine lv_aload_n hx hb dX4_readSequence_61 rfl (lv_at hl 1 rfl) ?_
            refine lv_aload_n hx hb dX4_readSequence_62 rfl (lv_at hl 3 rfl) ?_
            refine lv_iload hx hb dX4_readSequence_63 (lv_at hl 0 rfl) ?_
            have hRo := RWf_e j5_.2.2 hh_5
            have hlf : len_17.toInt = top2 - st x.toInt := hl_19
            obtain ⟨len_24, fg_24, v1_24, v2_24, v3_24, mp_24, sp_24⟩ := op_0 hI m_5 s_5
            obtain ⟨w1_24, w2_24, w3_24, w4_24, w5_24⟩ := lenw hj v1_24 v2_24 v3_24
            obtain ⟨c_25, fg_25, iv0_25⟩ := op_1 hI mp_6 sp_6
            obtain ⟨hl_26, hc_26⟩ := RWf_at hRo s_5 fg_24 fg_25
            obtain ⟨fa_27, pl_27, fg_27⟩ := op_13 hI (gm_13 hG) (gs_13 hG)
            refine call_p (va_runV (As := [.ref r_5, .int len_17]) (rest := []) ⟨hx, hb, hml, hown, hts⟩ (t_X4_readTimesm l D cI cR cM _ (ks := ks) (vs := vs) (i := i3_) (w := (fun j => w3_ (2 * st x.toInt + j)))  hj hG hI m_5 s_5 fg_24 fg_25 (by first | assumption | omega | (subst hj1; omega)) (j4_) (by first | assumption | omega | (subst hj1; omega)) (by subst hj1; omega) (by rw [hl_26]; exact hc_26)) (cwV 2 hts gX4_readSequence_X4_readTimes rfl rfl rfl (by decide +kernel) ⟨Nat.le_of_ble_eq_true rfl, Nat.le_of_ble_eq_true rfl⟩) (pre_T hK hP hD (gm_13 hG) fg_27 rfl) rfl rfl hl.1 rfl (lv_room (Nat.le_of_ble_eq_true rfl)) dX4_readSequence_65 ⟨Nat.le_of_ble_eq_true rfl, Nat.le_of_ble_eq_true rfl⟩) hD hS hA (fun u_28 H locs hw hP hD hS => ?_)
            obtain ⟨r_28, f_28⟩ := u_28
            obtain ⟨hI, hF_28, hp_28, hfx_28, h01_28⟩ : IN jn cI cR cM g L S f_28 ∧ FR S [0, 1, 13, 14] f_21 f_28 ∧ ((r_28.toInt = 1 ∧ ((ks i3_ ≠ 42 ∧ TKm cI g ks vs f_28 i3_ ∧ RWf cI jn S f_28 r_5 len_24.toInt (fun j => w3_ (2 * st x.toInt + j))) ∨ (ks i3_ = 42 ∧ ks (i3_ + 1) = 1 ∧ vs (i3_ + 1) ≠ 0 ∧ TKm cI g ks vs f_28 (i3_ + 1 + 1) ∧ 2 * (len_24.toInt + (vs (i3_ + 1) - 1) * (len_24.toInt - len_17.toInt)) ≤ (n_5 : Int) ∧ RWf cI jn S f_28 r_5 (len_24.toInt + (vs (i3_ + 1) - 1) * (len_24.toInt - len_17.toInt)) (tmW (fun j => w3_ (2 * st x.toInt + j)) len_24.toInt len_17.toInt)))) ∨ (r_28.toInt = 0 ∧ ks i3_ = 42 ∧ ¬ (ks (i3_ + 1) = 1 ∧ vs (i3_ + 1) ≠ 0 ∧ 2 * (len_24.toInt + (vs (i3_ + 1) - 1) * (len_24.toInt - len_17.toInt)) ≤ (n_5 : Int)))) ∧ (FX S (fun a9 => a9 = r_5) [13, 14] f_21 f_28) ∧ (r_28.toInt = 0 ∨ r_28.toInt = 1) := hw
            have hP : va_P D vwCl (va_pl L f_28) H := hP
            have hD : va_D A (va_pl L f_28) := hD
            have hF := FR_tr hF hF_28 (by decide)
            have hFX := FX_tr hFX hfx_28 (fun a9 h9 => Or.inl ⟨x.toInt.toNat, Nat.le_refl _, by omega, h9.trans hh_5⟩) (by decide)
            refine a_if_ne (u := r_28.toInt) (tgt := 73) hx hb dX4_readSequence_68 (by decide) (rfl) (fun c_29 => ?_) (fun c_29 => ?_)
            · obtain ⟨z_30, q_30, e_30⟩ := i_inc (a := ii.toInt) (1) (rfl) (by decide) (by subst hj1; omega) (by subst hj1; omega)
              refine lv_iinc (v := z_30) (lv' := [(3, .int z_30), (4, .int len_17), (0, .ref (g 13)), (1, .int x), (2, .ref r_5)]) hx hb dX4_readSequence_73 hl (k := 4) rfl q_30 (by decide) rfl (fun ls hl => ?_)
              refine lv_goto (tgt := 29) hx hb dX4_readSequence_76 (by decide) ?_
              exact ih29 z_30 f_28 _ _ _ (by subst hj1; omega) hI hF (by first | assumption | omega | (subst hj1; omega)) (by
                rw [hl_26] at hp_28
                rw [hlf] at hp_28
                obtain ⟨-, h9⟩ := hp_28.resolve_right (fun q9 => by have := q9.1; omega)
                rcases h9 with ⟨h1, h2, h3⟩ | ⟨h1, h2, h3, h4, h5, h6⟩
                · exact ⟨i3_, top3_, top2, 1, 1, w3_, st3_, op3_, dg3_, Go_tr j1 j1_, h2, ⟨MSb_rf j5_.1 hfx_28 (by decide) (fun k9 h8 h7 q9 => (hRD.2.2.2.2.1 k9.toNat x.toInt.toNat (by subst hj1; omega) (by subst hj1; omega) (by subst hj1; omega)) (q9.trans hh_5)) (fun k9 v9 _ _ h9 => TN_fr hG hF_28 (by decide) k9 v9 h9), j5_.2.1, RWf_e h3 hh_5.symm⟩, j6_, j7_, fun j9 h8 h9 => by rw [j8_ j9 h8 h9]; exact j6 j9 h8 h9, fun q9 => h1 q9.2, Or.inr ⟨by omega, rfl, by omega, by omega⟩, by omega⟩
                · rw [show top3_ - st x.toInt - (top2 - st x.toInt) = top3_ - top2 by omega] at h5 h6
                  have h6 := RWf_e h6 hh_5.symm
                  obtain ⟨q1, q2, q3⟩ := L_times (E := E) (i := i3_) (one := top2) (isO := 1) (op1 := op3_) (dg1 := dg3_) (may := 1) j5_ (fun top9 w9 q1 q2 q3 => MSb_fx j5_.1 hfx_28 (by decide) (fun k9 h8 h7 q9 => (hRD.2.2.2.2.1 k9.toNat x.toInt.toNat (by subst hj1; omega) (by subst hj1; omega) (by subst hj1; omega)) (q9.trans hh_5)) (fun k9 v9 _ _ h9 => TN_fr hG hF_28 (by decide) k9 v9 h9) q1 q2 q3) rfl (j6_ _ (by subst hj1; omega) (Int.le_refl _)) h1 h2 h3 (by have := (hKO (i3_ + 1)).2.1 h2; omega) (by subst hj1; omega) (by subst hj1; omega) h6
                  have hm0 : 0 ≤ (vs (i3_ + 1) - 1) * (top3_ - top2) := Int.mul_nonneg (by have := (hKO (i3_ + 1)).2.1 h2; omega) (by subst hj1; omega)
                  exact ⟨i3_ + 2, _, top2, 0, 1, _, st3_, op3_, dg3_, Go_tr j1 (Go_tr j1_ (Go_1 q1)), h4, q2, j6_, j7_, fun j9 h8 h9 => (q3 j9 h8 h9).trans ((j8_ j9 h8 h9).trans (j6 j9 h8 h9)), fun q9 => absurd q9.1 (by decide), Or.inr ⟨by omega, rfl, by omega, by omega⟩, by omega⟩) (LvC_fr hLv2 hG hF_28 (by decide)) (EnvC_fx hEC2 hG hF_28 hfx_28 (by decide) (by decide) (fun k9 h9 q9 => hRD.2.2.2.1 x.toInt.toNat k9 (by subst hj1; omega) h9 (hh_5.symm.trans q9.symm)) (fun r9 h9 q9 => h9 (Or.inl ⟨x.toInt.toNat, by omega, q9.trans hh_5⟩))) (fun k9 v9 h7 h8 h9 => TN_fr hG hF_28 (by decide) k9 v9 (htn_21 k9 v9 h7 h8 (htl k9 v9 h7 h8 h9))) (by first | assumption | omega | (subst hj1; omega)) hP hD hS (lv_sub hl [2, 3, 4, 0] rfl)
            · refine lv_iconst (v := 0) hx hb dX4_readSequence_71 (by decide) ?_
              have hz_31 : (0 : Int32).toInt = 0 := by decide
              exact g_zret ((0 : Int32), f_28) hx hb hr hlocks hS (by first | exact Or.inl rfl | exact Or.inr rfl) rfl (⟨hI, hF, show Hd (((0 : Int32).toInt = 1 ∧ SeqR cI jn g lv S f_28 ks vs E i x.toInt top one w st op dg st1 op1 dg1) ∨ ((0 : Int32).toInt = 0 ∧ Fls ks vs E (i, x.toInt, top, one, 0, 0, w, st1, op1, dg1))) from (by
                rw [hl_26] at hp_28
                rw [hlf] at hp_28
                obtain ⟨-, h1, h2⟩ := hp_28.resolve_left (fun q9 => by have := q9.1; omega)
                refine Or.inr ⟨rfl, Fls_tr (Go_tr j1 j1_) (Fls_0 (F_times rfl h1 ?_))⟩
                rw [j6_ _ (by subst hj1; omega) (Int.le_refl _)]
                rw [show top3_ - st x.toInt - (top2 - st x.toInt) = top3_ - top2 by omega] at h2
                exact fun q9 => h2 ⟨q9.1, q9.2.1, by have := q9.2.2; omega⟩), show ∀ k9 v9 : Int, 0 ≤ k9 → k9 < x.toInt → TNf cI g f k9 v9 → TNf cI g f_28 k9 v9 from (fun k9 v9 h7 h8 h9 => TN_fr hG hF_28 (by decide) k9 v9 (htn_21 k9 v9 h7 h8 (htl k9 v9 h7 h8 h9))), show FX S (BXp g lv x.toInt) [13, 14, 34] f f_28 from (by first | assumption | omega | (subst hj1; omega)), show (0 : Int32).toInt = 0 ∨ (0 : Int32).toInt = 1 from (by first | assumption | omega | (subst hj1; omega))⟩) hP hD hQ (Nat.le_of_ble_eq_true rfl) (Nat.le_of_ble_eq_true rfl) dX4_readSequence_72
        · refine lv_aload_n hx hb dX4_readSequence_40 rfl (lv_at hl 0 rfl) ?_
          obtain ⟨fa_32, pl_32, fg_32⟩ := op_13 hI (gm_13 hG) (gs_13 hG)
          refine roP (va_runV (As := []) (rest := []) ⟨hx, hb, hml, hown, hts⟩ (t_X4_beginsOnem l D cI cR cM _ (ks := ks) (vs := vs) (i := i2)  hj hG hI  (by first | assumption | omega | (subst hj1; omega)) (j2) (by first | assumption | omega | (subst hj1; omega))) (cwV 0 hts gX4_readSequence_X4_beginsOne rfl rfl rfl (by decide +kernel) ⟨Nat.le_of_ble_eq_true rfl, Nat.le_of_ble_eq_true rfl⟩) (pre_T hK hP hD (gm_13 hG) fg_32 rfl) rfl rfl hl.1 rfl (lv_room (Nat.le_of_ble_eq_true rfl)) dX4_readSequence_41 ⟨Nat.le_of_ble_eq_true rfl, Nat.le_of_ble_eq_true rfl⟩) hS hA hP (fun r_33 H locs hw hP hS => ?_)
          obtain ⟨hp_33, h01_33⟩ : ((r_33.toInt = 1 ∧ (ks i2 = 1 ∨ ks i2 = 2 ∨ ks i2 = 91 ∨ ks i2 = 40 ∨ (7 ≤ ks i2 ∧ ks i2 ≤ 10))) ∨ (r_33.toInt = 0 ∧ ¬ (ks i2 = 1 ∨ ks i2 = 2 ∨ ks i2 = 91 ∨ ks i2 = 40 ∨ (7 ≤ ks i2 ∧ ks i2 ≤ 10)))) ∧ (r_33.toInt = 0 ∨ r_33.toInt = 1) := hw
          refine a_if_eq (u := r_33.toInt) (tgt := 79) hx hb dX4_readSequence_44 (by decide) (rfl) (fun c_34 => ?_) (fun c_34 => ?_)
          · refine lv_iconst (v := 1) hx hb dX4_readSequence_79 (by decide) ?_
            have hz_35 : (1 : Int32).toInt = 1 := by decide
            exact g_zret ((1 : Int32), f_13) hx hb hr hlocks hS (by first | exact Or.inl rfl | exact Or.inr rfl) rfl (⟨hI, hF, show Hd (((1 : Int32).toInt = 1 ∧ SeqR cI jn g lv S f_13 ks vs E i x.toInt top one w st op dg st1 op1 dg1) ∨ ((1 : Int32).toInt = 0 ∧ Fls ks vs E (i, x.toInt, top, one, 0, 0, w, st1, op1, dg1))) from (by
              obtain ⟨e1, e2, e3, e4⟩ := j8.resolve_left (fun q9 => by have := q9.1; omega)
              rw [e2] at j1
              exact Or.inl ⟨rfl, ii.toInt, i2, top2, one2, may2, w2, st2, op2, dg2, ⟨j1, j2, j3, j4, j5, j6, j7, Or.inr ⟨e1, rfl, e3, e4⟩, j9⟩, e1, (hp_33.resolve_left (fun q9 => by have := q9.1; omega)).2⟩), show ∀ k9 v9 : Int, 0 ≤ k9 → k9 < x.toInt → TNf cI g f k9 v9 → TNf cI g f_13 k9 v9 from (htl), show FX S (BXp g lv x.toInt) [13, 14, 34] f f_13 from (by first | assumption | omega | (subst hj1; omega)), show (1 : Int32).toInt = 0 ∨ (1 : Int32).toInt = 1 from (by first | assumption | omega | (subst hj1; omega))⟩) hP hD hQ (Nat.le_of_ble_eq_true rfl) (Nat.le_of_ble_eq_true rfl) dX4_readSequence_80
          · refine lv_aload_n hx hb dX4_readSequence_47 rfl (lv_at hl 2 rfl) ?_
            have hRl := RWf_e j3.2.2 hh_5
            obtain ⟨len_36, fg_36, v1_36, v2_36, v3_36, mp_36, sp_36⟩ := op_0 hI m_5 s_5
            obtain ⟨w1_36, w2_36, w3_36, w4_36, w5_36⟩ := lenw hj v1_36 v2_36 v3_36
            obtain ⟨c_37, fg_37, iv0_37⟩ := op_1 hI mp_6 sp_6
            obtain ⟨hl_38, hc_38⟩ := RWf_at hRl s_5 fg_36 fg_37
            refine t_getN (D := D) (L := L) (f := f_13) (ci := 5) (v := .int len_36) (C := RX5) (T := TX5) (N := 4) (host := "JugglingHall") hx hb hts (by decide +kernel) hown hK.1 hP m_5 fg_36 rfl 3 (by decide) (hK.nw (.fieldLinkNest RX4 62 "JugglingHall$Row" "length" "I" "JugglingHall") (by decide +kernel) rfl) (fun _ h9 => h9) rfl dX4_readSequence_48 ?_
            refine lv_istore (lv' := [(4, .int len_36), (0, .ref (g 13)), (1, .int x), (2, .ref r_5), (3, .int ii)]) hx hb dX4_readSequence_51 hl (by decide) rfl (fun ls hl => ?_)
            refine lv_aload_n hx hb dX4_readSequence_53 rfl (lv_at hl 1 rfl) ?_
            refine lv_iload_n hx hb dX4_readSequence_54 rfl (lv_at hl 2 rfl) ?_
            refine call_p (va_runV (As := [.int x]) (rest := []) ⟨hx, hb, hml, hown, hts⟩ (t_X4_readOnem_4 l D cI cR cM _ (i := i2) (top := top2) (one := one2) (may := may2) (isO := isO2) (w := w2) (st := st) (op := op) (dg := dg) (st1 := st2) (op1 := op2) (dg1 := dg2) (lv := lv) (gr := gr) (E := E) (F := F) (ks := ks) (vs := vs)  hj hG hI  (by first | assumption | omega | (subst hj1; omega)) (j2) (by first | assumption | omega | (subst hj1; omega)) (by first | assumption | omega | (subst hj1; omega)) (hLvl) (hECl) (by first | assumption | omega | (subst hj1; omega)) (by first | assumption | omega | (subst hj1; omega)) (by first | assumption | omega | (subst hj1; omega)) (j3) (j4) (j5) (j7) (Or.inr (hp_33.resolve_right (fun q9 => by have := q9.1; omega)).2)) (cwV 1 hts gX4_readSequence_X4_readOne rfl rfl rfl (by decide +kernel) ⟨Nat.le_of_ble_eq_true rfl, Nat.le_of_ble_eq_true rfl⟩) (pre_T hK hP hD (gm_13 hG) fg_32 rfl) rfl rfl hl.1 rfl (lv_room (Nat.le_of_ble_eq_true rfl)) dX4_readSequence_55 ⟨Nat.le_of_ble_eq_true rfl, Nat.le_of_ble_eq_true rfl⟩) hD hS hA (fun u_39 H locs hw hP hD hS => ?_)
            obtain ⟨r_39, f_39⟩ := u_39
            obtain ⟨hI, hF_39, hp_39, htn_39, hfx_39, h01_39⟩ : IN jn cI cR cM g L S f_39 ∧ FR S [0, 1, 13, 14, 34] f_13 f_39 ∧ (Hd ((r_39.toInt = 1 ∧ OneR cI jn g lv S f_39 ks vs E i2 x.toInt top2 one2 may2 isO2 w2 st op dg st2 op2 dg2) ∨ (r_39.toInt = 0 ∧ Fls ks vs E (i2, x.toInt, top2, one2, may2, isO2, w2, st2, op2, dg2)))) ∧ (∀ k9 v9 : Int, 0 ≤ k9 → k9 < x.toInt → TNf cI g f_13 k9 v9 → TNf cI g f_39 k9 v9) ∧ (FX S (BXp g lv x.toInt) [13, 14, 34] f_13 f_39) ∧ (r_39.toInt = 0 ∨ r_39.toInt = 1) := hw
            have hP : va_P D vwCl (va_pl L f_39) H := hP
            have hD : va_D A (va_pl L f_39) := hD
            have hF := FR_tr hF hF_39 (by decide)
            have hFX := FX_tr hFX hfx_39 (fun _ h9 => h9) (by decide)
            refine a_if_eq (u := r_39.toInt) (tgt := 71) hx hb dX4_readSequence_58 (by decide) (rfl) (fun c_40 => ?_) (fun c_40 => ?_)
            · refine lv_iconst (v := 0) hx hb dX4_readSequence_71 (by decide) ?_
              have hz_41 : (0 : Int32).toInt = 0 := by decide
              exact g_zret ((0 : Int32), f_39) hx hb hr hlocks hS (by first | exact Or.inl rfl | exact Or.inr rfl) rfl (⟨hI, hF, show Hd (((0 : Int32).toInt = 1 ∧ SeqR cI jn g lv S f_39 ks vs E i x.toInt top one w st op dg st1 op1 dg1) ∨ ((0 : Int32).toInt = 0 ∧ Fls ks vs E (i, x.toInt, top, one, 0, 0, w, st1, op1, dg1))) from (Or.inr ⟨rfl, Fls_tr j1 (hp_39.resolve_left (fun q9 => by have := q9.1; omega)).2⟩), show ∀ k9 v9 : Int, 0 ≤ k9 → k9 < x.toInt → TNf cI g f k9 v9 → TNf cI g f_39 k9 v9 from (fun k9 v9 h7 h8 h9 => htn_39 k9 v9 h7 h8 (htl k9 v9 h7 h8 h9)), show FX S (BXp g lv x.toInt) [13, 14, 34] f f_39 from (by first | assumption | omega | (subst hj1; omega)), show (0 : Int32).toInt = 0 ∨ (0 : Int32).toInt = 1 from (by first | assumption | omega | (subst hj1; omega))⟩) hP hD hQ (Nat.le_of_ble_eq_true rfl) (Nat.le_of_ble_eq_true rfl) dX4_readSequence_72
            · obtain ⟨-, i3_, top3_, w3_, st3_, op3_, dg3_, j1_, j2_, j3_, j4_, j5_, j6_, j7_, j8_⟩ := hp_39.resolve_right (fun q9 => by have := q9.1; omega)
              have hLv2 := LvC_fr hLvl hG hF_39 (by decide)
              have hEC2 := EnvC_fx hECl hG hF_39 hfx_39 (by decide) (by decide) (nb_gr hRD) nb_nr
              have htl2 := j5_.1.2.2.2.1
              refine lv_aload_n hx hb dX4_readSequence_61 rfl (lv_at hl 1 rfl) ?_
              refine lv_aload_n hx hb dX4_readSequence_62 rfl (lv_at hl 3 rfl) ?_
              refine lv_iload hx hb dX4_readSequence_63 (lv_at hl 0 rfl) ?_
              have hRo := RWf_e j5_.2.2 hh_5
              have hlf : len_36.toInt = top2 - st x.toInt := hl_38
              obtain ⟨len_42, fg_42, v1_42, v2_42, v3_42, mp_42, sp_42⟩ := op_0 hI m_5 s_5
              obtain ⟨w1_42, w2_42, w3_42, w4_42, w5_42⟩ := lenw hj v1_42 v2_42 v3_42
              obtain ⟨c_43, fg_43, iv0_43⟩ := op_1 hI mp_6 sp_6
              obtain ⟨hl_44, hc_44⟩ := RWf_at hRo s_5 fg_42 fg_43
              obtain ⟨fa_45, pl_45, fg_45⟩ := op_13 hI (gm_13 hG) (gs_13 hG)
              refine call_p (va_runV (As := [.ref r_5, .int len_36]) (rest := []) ⟨hx, hb, hml, hown, hts⟩ (t_X4_readTimesm l D cI cR cM _ (ks := ks) (vs := vs) (i := i3_) (w := (fun j => w3_ (2 * st x.toInt + j)))  hj hG hI m_5 s_5 fg_42 fg_43 (by first | assumption | omega | (subst hj1; omega)) (j4_) (by first | assumption | omega | (subst hj1; omega)) (by subst hj1; omega) (by rw [hl_44]; exact hc_44)) (cwV 2 hts gX4_readSequence_X4_readTimes rfl rfl rfl (by decide +kernel) ⟨Nat.le_of_ble_eq_true rfl, Nat.le_of_ble_eq_true rfl⟩) (pre_T hK hP hD (gm_13 hG) fg_45 rfl) rfl rfl hl.1 rfl (lv_room (Nat.le_of_ble_eq_true rfl)) dX4_readSequence_65 ⟨Nat.le_of_ble_eq_true rfl, Nat.le_of_ble_eq_true rfl⟩) hD hS hA (fun u_46 H locs hw hP hD hS => ?_)
              obtain ⟨r_46, f_46⟩ := u_46
              obtain ⟨hI, hF_46, hp_46, hfx_46, h01_46⟩ : IN jn cI cR cM g L S f_46 ∧ FR S [0, 1, 13, 14] f_39 f_46 ∧ ((r_46.toInt = 1 ∧ ((ks i3_ ≠ 42 ∧ TKm cI g ks vs f_46 i3_ ∧ RWf cI jn S f_46 r_5 len_42.toInt (fun j => w3_ (2 * st x.toInt + j))) ∨ (ks i3_ = 42 ∧ ks (i3_ + 1) = 1 ∧ vs (i3_ + 1) ≠ 0 ∧ TKm cI g ks vs f_46 (i3_ + 1 + 1) ∧ 2 * (len_42.toInt + (vs (i3_ + 1) - 1) * (len_42.toInt - len_36.toInt)) ≤ (n_5 : Int) ∧ RWf cI jn S f_46 r_5 (len_42.toInt + (vs (i3_ + 1) - 1) * (len_42.toInt - len_36.toInt)) (tmW (fun j => w3_ (2 * st x.toInt + j)) len_42.toInt len_36.toInt)))) ∨ (r_46.toInt = 0 ∧ ks i3_ = 42 ∧ ¬ (ks (i3_ + 1) = 1 ∧ vs (i3_ + 1) ≠ 0 ∧ 2 * (len_42.toInt + (vs (i3_ + 1) - 1) * (len_42.toInt - len_36.toInt)) ≤ (n_5 : Int)))) ∧ (FX S (fun a9 => a9 = r_5) [13, 14] f_39 f_46) ∧ (r_46.toInt = 0 ∨ r_46.toInt = 1) := hw
              have hP : va_P D vwCl (va_pl L f_46) H := hP
              have hD : va_D A (va_pl L f_46) := hD
              have hF := FR_tr hF hF_46 (by decide)
              have hFX := FX_tr hFX hfx_46 (fun a9 h9 => Or.inl ⟨x.toInt.toNat, Nat.le_refl _, by omega, h9.trans hh_5⟩) (by decide)
              refine a_if_ne (u := r_46.toInt) (tgt := 73) hx hb dX4_readSequence_68 (by decide) (rfl) (fun c_47 => ?_) (fun c_47 => ?_)
              · obtain ⟨z_48, q_48, e_48⟩ := i_inc (a := ii.toInt) (1) (rfl) (by decide) (by subst hj1; omega) (by subst hj1; omega)
                refine lv_iinc (v := z_48) (lv' := [(3, .int z_48), (4, .int len_36), (0, .ref (g 13)), (1, .int x), (2, .ref r_5)]) hx hb dX4_readSequence_73 hl (k := 4) rfl q_48 (by decide) rfl (fun ls hl => ?_)
                refine lv_goto (tgt := 29) hx hb dX4_readSequence_76 (by decide) ?_
                exact ih29 z_48 f_46 _ _ _ (by subst hj1; omega) hI hF (by first | assumption | omega | (subst hj1; omega)) (by
                  rw [hl_44] at hp_46
                  rw [hlf] at hp_46
                  obtain ⟨-, h9⟩ := hp_46.resolve_right (fun q9 => by have := q9.1; omega)
                  rcases h9 with ⟨h1, h2, h3⟩ | ⟨h1, h2, h3, h4, h5, h6⟩
                  · exact ⟨i3_, top3_, top2, 1, 1, w3_, st3_, op3_, dg3_, Go_tr j1 j1_, h2, ⟨MSb_rf j5_.1 hfx_46 (by decide) (fun k9 h8 h7 q9 => (hRD.2.2.2.2.1 k9.toNat x.toInt.toNat (by subst hj1; omega) (by subst hj1; omega) (by subst hj1; omega)) (q9.trans hh_5)) (fun k9 v9 _ _ h9 => TN_fr hG hF_46 (by decide) k9 v9 h9), j5_.2.1, RWf_e h3 hh_5.symm⟩, j6_, j7_, fun j9 h8 h9 => by rw [j8_ j9 h8 h9]; exact j6 j9 h8 h9, fun q9 => h1 q9.2, Or.inr ⟨by omega, rfl, by omega, by omega⟩, by omega⟩
                  · rw [show top3_ - st x.toInt - (top2 - st x.toInt) = top3_ - top2 by omega] at h5 h6
                    have h6 := RWf_e h6 hh_5.symm
                    obtain ⟨q1, q2, q3⟩ := L_times (E := E) (i := i3_) (one := top2) (isO := 1) (op1 := op3_) (dg1 := dg3_) (may := 1) j5_ (fun top9 w9 q1 q2 q3 => MSb_fx j5_.1 hfx_46 (by decide) (fun k9 h8 h7 q9 => (hRD.2.2.2.2.1 k9.toNat x.toInt.toNat (by subst hj1; omega) (by subst hj1; omega) (by subst hj1; omega)) (q9.trans hh_5)) (fun k9 v9 _ _ h9 => TN_fr hG hF_46 (by decide) k9 v9 h9) q1 q2 q3) rfl (j6_ _ (by subst hj1; omega) (Int.le_refl _)) h1 h2 h3 (by have := (hKO (i3_ + 1)).2.1 h2; omega) (by subst hj1; omega) (by subst hj1; omega) h6
                    have hm0 : 0 ≤ (vs (i3_ + 1) - 1) * (top3_ - top2) := Int.mul_nonneg (by have := (hKO (i3_ + 1)).2.1 h2; omega) (by subst hj1; omega)
                    exact ⟨i3_ + 2, _, top2, 0, 1, _, st3_, op3_, dg3_, Go_tr j1 (Go_tr j1_ (Go_1 q1)), h4, q2, j6_, j7_, fun j9 h8 h9 => (q3 j9 h8 h9).trans ((j8_ j9 h8 h9).trans (j6 j9 h8 h9)), fun q9 => absurd q9.1 (by decide), Or.inr ⟨by omega, rfl, by omega, by omega⟩, by omega⟩) (LvC_fr hLv2 hG hF_46 (by decide)) (EnvC_fx hEC2 hG hF_46 hfx_46 (by decide) (by decide) (fun k9 h9 q9 => hRD.2.2.2.1 x.toInt.toNat k9 (by subst hj1; omega) h9 (hh_5.symm.trans q9.symm)) (fun r9 h9 q9 => h9 (Or.inl ⟨x.toInt.toNat, by omega, q9.trans hh_5⟩))) (fun k9 v9 h7 h8 h9 => TN_fr hG hF_46 (by decide) k9 v9 (htn_39 k9 v9 h7 h8 (htl k9 v9 h7 h8 h9))) (by first | assumption | omega | (subst hj1; omega)) hP hD hS (lv_sub hl [2, 3, 4, 0] rfl)
              · refine lv_iconst (v := 0) hx hb dX4_readSequence_71 (by decide) ?_
                have hz_49 : (0 : Int32).toInt = 0 := by decide
                exact g_zret ((0 : Int32), f_46) hx hb hr hlocks hS (by first | exact Or.inl rfl | exact Or.inr rfl) rfl (⟨hI, hF, show Hd (((0 : Int32).toInt = 1 ∧ SeqR cI jn g lv S f_46 ks vs E i x.toInt top one w st op dg st1 op1 dg1) ∨ ((0 : Int32).toInt = 0 ∧ Fls ks vs E (i, x.toInt, top, one, 0, 0, w, st1, op1, dg1))) from (by
                  rw [hl_44] at hp_46
                  rw [hlf] at hp_46
                  obtain ⟨-, h1, h2⟩ := hp_46.resolve_left (fun q9 => by have := q9.1; omega)
                  refine Or.inr ⟨rfl, Fls_tr (Go_tr j1 j1_) (Fls_0 (F_times rfl h1 ?_))⟩
                  rw [j6_ _ (by subst hj1; omega) (Int.le_refl _)]
                  rw [show top3_ - st x.toInt - (top2 - st x.toInt) = top3_ - top2 by omega] at h2
                  exact fun q9 => h2 ⟨q9.1, q9.2.1, by have := q9.2.2; omega⟩), show ∀ k9 v9 : Int, 0 ≤ k9 → k9 < x.toInt → TNf cI g f k9 v9 → TNf cI g f_46 k9 v9 from (fun k9 v9 h7 h8 h9 => TN_fr hG hF_46 (by decide) k9 v9 (htn_39 k9 v9 h7 h8 (htl k9 v9 h7 h8 h9))), show FX S (BXp g lv x.toInt) [13, 14, 34] f f_46 from (by first | assumption | omega | (subst hj1; omega)), show (0 : Int32).toInt = 0 ∨ (0 : Int32).toInt = 1 from (by first | assumption | omega | (subst hj1; omega))⟩) hP hD hQ (Nat.le_of_ble_eq_true rfl) (Nat.le_of_ble_eq_true rfl) dX4_readSequence_72
  have hz_50 : (0 : Int32).toInt = 0 := by decide
  exact loop29 ((400 - (0 : Int32).toInt).toNat + 1) (0 : Int32) f_8 _ _ _ (by subst hj1; omega) hI hF (by first | assumption | omega | (subst hj1; omega)) (⟨i, top, one, 0, 0, w, st1, op1, dg1, Go_rf, hC1, hM1, hst, hop, fun _ _ _ => rfl, fun q9 => absurd q9.1 (by decide), Or.inl ⟨by omega, rfl, rfl, rfl, rfl⟩, by omega⟩) (hLv1) (hEC1) (htl1) (by first | assumption | omega | (subst hj1; omega)) hP hD hS (lv_sub hl [2, 3, 1, 0] rfl)
set_option maxRecDepth 100000 in
set_option maxHeartbeats 4000000 in
theorem t_X4_readOnem_5 (l : Launch) (D : va_G) (cI cR cM : ClassId) (sz : Nat) {jn : Nat} {g : Nat → Nat} {L : List Nat} {S : Sg} {f : Nat → va_E} {x : Int32} {ks vs : Nat → Int} {i : Nat} {lv gr : Nat → Nat} {E : Env1} {F : Int → Int} {top one may isO : Int} {w st op dg st1 op1 dg1 : Int → Int} (hj : 1 ≤ jn ∧ jn ≤ 3) (hG : SG g L S) (hI : IN jn cI cR cM g L S f) (hj1 : jn = 1) (hC : TKm cI g ks vs f i) (hKO : KO ks vs) (hRD : RDC g lv gr S) (hLv : LvC cR g lv f) (hEC : EnvC cI cR jn g lv gr S f E F) (hEO : EOk E) (hx0 : 0 ≤ x.toInt ∧ x.toInt ≤ 5) (hd : 1 ≤ x.toInt) (hMS : MSt cI jn g lv S f x.toInt top w st op dg) (hst : ∀ k9 : Int, 0 ≤ k9 → k9 ≤ x.toInt → st1 k9 = st k9) (hop : ∀ k9 : Int, 0 ≤ k9 → k9 < x.toInt → op1 k9 = op k9 ∧ dg1 k9 = dg k9) (hm9 : ¬ (may = 1 ∧ ks i = 42)) (hbg : (isO = 0 ∧ may = 0) ∨ (ks i = 1 ∨ ks i = 2 ∨ ks i = 91 ∨ ks i = 40 ∨ (7 ≤ ks i ∧ ks i ≤ 10))) : Met l yX4_readOne wsX4_readOne ({ frames := 11, cells := 0, slots := 0, locals := 295 }) (P0 D cI cR cM [.ref (g 13), .int x] sz (va_pl L f)) (QG (S := Int32 × (Nat → va_E)) (fun u => some (.int u.1)) (fun u => va_pl L u.2) (fun u => IN jn cI cR cM g L S u.2 ∧ FR S [0, 1, 13, 14, 34] f u.2 ∧ (Hd ((u.1.toInt = 1 ∧ OneR cI jn g lv S u.2 ks vs E i x.toInt top one may isO w st op dg st1 op1 dg1) ∨ (u.1.toInt = 0 ∧ Fls ks vs E (i, x.toInt, top, one, may, isO, w, st1, op1, dg1)))) ∧ (∀ k9 v9 : Int, 0 ≤ k9 → k9 < x.toInt → TNf cI g f k9 v9 → TNf cI g u.2 k9 v9) ∧ (FX S (BXp g lv x.toInt) [13, 14, 34] f u.2) ∧ (u.1.toInt = 0 ∨ u.1.toInt = 1)) D (va_A (va_pl L f) sz)) 0 0 (va_A (va_pl L f) sz) := by
  refine go (cc := cX4_readOne) (maxL := 3) (ret := (some .boolean)) (by decide +kernel) rfl (Nat.le_of_ble_eq_true rfl) ?_
  intro p e s m below meth c ls args Q hQ hsz hx hb hr hml hts hown hlocks hnm hP hK hD hl
  subst hsz
  have hD := hD.self (sz := s.heap.size)
  generalize hAe : va_A (va_pl L f) s.heap.size = A at hD hQ
  have hA : ∀ q, s.heap.size ≤ q → A q := fun q h => by rw [← hAe]; exact Or.inr h
  have hS : va_S A s.heap s.heap [] := va_S.rf
  have hFX : FX S (BXp g lv x.toInt) [13, 14, 34] f f := FX_rf
  have hF : FR S [0, 1, 13, 14, 34] f f := FR_rf
  have hl : lv_has ls 3 [(0, .ref (g 13)), (1, .int x)] := hl
  refine lv_aload_n hx hb dX4_readOne_0 rfl (lv_at hl 0 rfl) ?_
  obtain ⟨fa_1, pl_1, fg_1⟩ := op_13 hI (gm_13 hG) (gs_13 hG)
  refine roP (va_runV (As := []) (rest := []) ⟨hx, hb, hml, hown, hts⟩ (t_X4_beginsOnem l D cI cR cM _ (ks := ks) (vs := vs) (i := i)  hj hG hI  (by first | assumption | omega | (subst hj1; omega)) (hC) (by first | assumption | omega | (subst hj1; omega))) (cwV 0 hts gX4_readOne_X4_beginsOne rfl rfl rfl (by decide +kernel) ⟨Nat.le_of_ble_eq_true rfl, Nat.le_of_ble_eq_true rfl⟩) (pre_T hK hP hD (gm_13 hG) fg_1 rfl) rfl rfl hl.1 rfl (lv_room (Nat.le_of_ble_eq_true rfl)) dX4_readOne_1 ⟨Nat.le_of_ble_eq_true rfl, Nat.le_of_ble_eq_true rfl⟩) hS hA hP (fun r_2 H locs hw hP hS => ?_)
  obtain ⟨hp_2, h01_2⟩ : ((r_2.toInt = 1 ∧ (ks i = 1 ∨ ks i = 2 ∨ ks i = 91 ∨ ks i = 40 ∨ (7 ≤ ks i ∧ ks i ≤ 10))) ∨ (r_2.toInt = 0 ∧ ¬ (ks i = 1 ∨ ks i = 2 ∨ ks i = 91 ∨ ks i = 40 ∨ (7 ≤ ks i ∧ ks i ≤ 10)))) ∧ (r_2.toInt = 0 ∨ r_2.toInt = 1) := hw
  refine a_if_ne (u := r_2.toInt) (tgt := 13) hx hb dX4_readOne_4 (by decide) (rfl) (fun c_3 => ?_) (fun c_3 => ?_)
  · refine lv_aload_n hx hb dX4_readOne_13 rfl (lv_at hl 0 rfl) ?_
    obtain ⟨cnt_4, nx_4, kd_4, vl_4, st_4, ls_4, fg_4, iv0_4, iv1_4, iv2_4⟩ := op_14 hI (gm_14 hG) (gs_14 hG)
    obtain ⟨kk_5, kv_5⟩ := TKm_k hC fg_4
    refine t_get (D := D) (L := L) (f := f) (ci := 4) (v := .ref (g 14)) (C := RX4) (T := TX4) (N := 11) hx hb hts (by decide +kernel) hown hK.1 hP (gm_13 hG) fg_1 rfl 1 (by decide) (hts (.fieldLink RX4 41 "JugglingHall$Reader" "tokens" "LJugglingHall$Tokens;") (by decide +kernel)) (fun _ h9 => h9) rfl dX4_readOne_14 ?_
    refine t_getN (D := D) (L := L) (f := f) (ci := 8) (v := .int kd_4) (C := RX8) (T := TX8) (N := 10) (host := "JugglingHall") hx hb hts (by decide +kernel) hown hK.1 hP (gm_14 hG) fg_4 rfl 6 (by decide) (hK.nw (.fieldLinkNest RX4 70 "JugglingHall$Tokens" "kind" "I" "JugglingHall") (by decide +kernel) rfl) (fun _ h9 => h9) rfl dX4_readOne_17 ?_
    refine lv_istore_n (lv' := [(2, .int kd_4), (0, .ref (g 13)), (1, .int x)]) hx hb dX4_readOne_20 rfl hl (by decide) rfl (fun ls hl => ?_)
    refine lv_iload_n hx hb dX4_readOne_21 rfl (lv_at hl 0 rfl) ?_
    have hu_6 : kd_4.toInt = kd_4.toInt := rfl
    rcases (show (kd_4.toInt = 2) ∨ (kd_4.toInt = 3) ∨ (kd_4.toInt = 60) ∨ (kd_4.toInt = 91) ∨ (kd_4.toInt ≠ 2 ∧ kd_4.toInt ≠ 3 ∧ kd_4.toInt ≠ 60 ∧ kd_4.toInt ≠ 91) by omega) with c_6 | c_6 | c_6 | c_6 | c_6
    · refine lv_lookup (off := 53) (tgt := 75) hx hb dX4_readOne_22 (by decide) (by rw [hu_6, c_6]; decide) (by decide) ?_
      have kb9 : ks i = 1 := cK_p (hKO i).1 (Or.inl ⟨by decide, by decide⟩) kk_5 (c := 2) (by subst hj1; omega) (by decide)
      refine lv_aload_n hx hb dX4_readOne_75 rfl (lv_at hl 1 rfl) ?_
      refine lv_aload_n hx hb dX4_readOne_76 rfl (lv_at hl 1 rfl) ?_
      refine t_get (D := D) (L := L) (f := f) (ci := 4) (v := .ref (g 22)) (C := RX4) (T := TX4) (N := 11) hx hb hts (by decide +kernel) hown hK.1 hP (gm_13 hG) fg_1 rfl 3 (by decide) (hts (.fieldLink RX4 13 "JugglingHall$Reader" "levels" "[LJugglingHall$Row;") (by decide +kernel)) (fun _ h9 => h9) rfl dX4_readOne_77 ?_
      refine lv_iload_n hx hb dX4_readOne_80 rfl (lv_at hl 2 rfl) ?_
      obtain ⟨c_7, fg_7, iv0_7⟩ := op_22 hI (gm_22 hG) (gs_22 hG)
      refine t_aald (L := L) (f := f) (y := c_7) (u := x.toInt) hx hb hK.1 hP (gm_22 hG) 1 fg_7 rfl dX4_readOne_81 (rfl) (by subst hj1; omega) (fun w_8 q_8 => ?_)
      obtain ⟨r_8, p_8, n_8, er_8, m_8, s_8⟩ := iv0_7 x.toInt (by subst hj1; omega) (by subst hj1; omega)
      have q_8 := q_8.trans er_8
      subst q_8
      refine W.eq (g2 := F0 m 82 ls [.ref r_8, .ref (g 13)]) rfl ?_
      have hh_8 : r_8 = lv x.toInt.toNat := LvC_at (l := x.toInt) hLv fg_7 (by subst hj1; omega) (by subst hj1; omega) (by rw [show x.toInt = x.toInt by omega]; exact er_8)
      have hR_8 := RWf_e hMS.2.2 hh_8
      obtain ⟨len_9, fg_9, v1_9, v2_9, v3_9, mp_9, sp_9⟩ := op_0 hI m_8 s_8
      obtain ⟨w1_9, w2_9, w3_9, w4_9, w5_9⟩ := lenw hj v1_9 v2_9 v3_9
      obtain ⟨c_10, fg_10, iv0_10⟩ := op_1 hI mp_9 sp_9
      obtain ⟨hl_11, hc_11⟩ := RWf_at hR_8 s_8 fg_9 fg_10
      have hN_8 := cap_of (S := S) (a := r_8) (k := 48) (by rw [hh_8]; exact (hRD.2.1 _ (by subst hj1; omega)).1) s_8
      refine call_p (va_runV (As := [.ref r_8]) (rest := []) ⟨hx, hb, hml, hown, hts⟩ (t_X4_readBeatm l D cI cR cM _ (ks := ks) (vs := vs) (i := i) (w := (fun j => w (2 * st x.toInt + j)))  hj hG hI m_8 s_8 fg_9 fg_10 (by first | assumption | omega | (subst hj1; omega)) (hC) (by first | assumption | omega | (subst hj1; omega)) (by rw [hh_8]; exact (hRD.2.1 _ (by subst hj1; omega)).2.1) (hRD.1.1) (by rw [hl_11]; exact hc_11)) (cwV 1 hts gX4_readOne_X4_readBeat rfl rfl rfl (by decide +kernel) ⟨Nat.le_of_ble_eq_true rfl, Nat.le_of_ble_eq_true rfl⟩) (pre_T hK hP hD (gm_13 hG) fg_1 rfl) rfl rfl hl.1 rfl (lv_room (Nat.le_of_ble_eq_true rfl)) dX4_readOne_82 ⟨Nat.le_of_ble_eq_true rfl, Nat.le_of_ble_eq_true rfl⟩) hD hS hA (fun u_12 H locs hw hP hD hS => ?_)
      obtain ⟨r_12, f_12⟩ := u_12
      obtain ⟨hI, hF_12, hp_12, hfx_12, h01_12⟩ : IN jn cI cR cM g L S f_12 ∧ FR S [0, 1, 13, 14] f f_12 ∧ ((r_12.toInt = 1 ∧ ∃ (a9 b9 : Int) (j9 : Nat), BtR ks vs i a9 b9 j9 ∧ TKm cI g ks vs f_12 j9 ∧ 2 * (len_9.toInt + 1) ≤ (n_8 : Int) ∧ RWf cI jn S f_12 r_8 (len_9.toInt + 1) (fupd (fupd (fun j => w (2 * st x.toInt + j)) (2 * len_9.toInt) a9) (2 * len_9.toInt + 1) b9)) ∨ (r_12.toInt = 0 ∧ (BtF ks vs i ∨ (n_8 : Int) < 2 * (len_9.toInt + 1)))) ∧ (FX S (fun a9 => a9 = r_8 ∨ a9 = g 24) [13, 14] f f_12) ∧ (r_12.toInt = 0 ∨ r_12.toInt = 1) := hw
      have hP : va_P D vwCl (va_pl L f_12) H := hP
      have hD : va_D A (va_pl L f_12) := hD
      have hF := FR_tr hF hF_12 (by decide)
      have hFX := FX_tr hFX hfx_12 (fun a9 h9 => h9.elim (fun h9 => Or.inl ⟨x.toInt.toNat, Nat.le_refl _, by omega, h9.trans hh_8⟩) (fun h9 => Or.inr (Or.inl h9))) (by decide)
      have fb_13 : f_12 (g 22) = .inl (cR, 6, .inr (.inr (.inr (.inr c_7)))) := FR_at hF_12 (gs_22 hG) (show (22 : Nat) ∉ ([0, 1, 13, 14] : List Nat) by decide) fg_7
      exact g_zret (r_12, f_12) hx hb hr hlocks hS (b01 (by subst hj1; omega)) rfl (⟨hI, hF, show Hd ((r_12.toInt = 1 ∧ OneR cI jn g lv S f_12 ks vs E i x.toInt top one may isO w st op dg st1 op1 dg1) ∨ (r_12.toInt = 0 ∧ Fls ks vs E (i, x.toInt, top, one, may, isO, w, st1, op1, dg1))) from (by
        rw [hl_11] at hp_12
        rcases hp_12 with ⟨h5, a9, b9, j9, h6, h7, h8, h9⟩ | ⟨h5, h6⟩
        · have h9 := RWf_e h9 hh_8.symm
          obtain ⟨q1, q2, q3⟩ := L_beat (E := E) (one := one) (isO := isO) (op1 := op1) (dg1 := dg1) hMS (fun top9 w9 q1 q2 q3 => MSb_fx hMS.1 hfx_12 (by decide) (fun k9 h8 h7 => (fun q9 => q9.elim (fun q9 => (hRD.2.2.2.2.1 k9.toNat x.toInt.toNat (by subst hj1; omega) (by subst hj1; omega) (by subst hj1; omega)) (q9.trans hh_8)) (fun q8 => (hRD.2.1 k9.toNat (by subst hj1; omega)).2.1 q8))) (fun k9 v9 _ _ h9 => TN_fr hG hF_12 (by decide) k9 v9 h9) q1 q2 q3) hm9 (hst _ (by subst hj1; omega) (Int.le_refl _)) h6 (Bt_vK hKO h6) (by subst hj1; omega) h9
          exact Or.inl ⟨h5, j9, _, _, st1, op1, dg1, Go_1 q1, Bt_lt h6, by omega, h7, q2, hst, hop, q3⟩
        · refine Or.inr ⟨h5, Fls_0 (F_beat hm9 (fun q9 => by omega) (by subst hj1; omega) (by subst hj1; omega) (fun _ => by unfold Bgn; omega) ?_)⟩
          rw [hst _ (by subst hj1; omega) (Int.le_refl _)]
          exact h6.imp id (fun q9 => by omega)), show ∀ k9 v9 : Int, 0 ≤ k9 → k9 < x.toInt → TNf cI g f k9 v9 → TNf cI g f_12 k9 v9 from (fun k9 v9 _ _ h9 => TN_fr hG hF_12 (by decide) k9 v9 h9), show FX S (BXp g lv x.toInt) [13, 14, 34] f f_12 from (by first | assumption | omega | (subst hj1; omega)), show r_12.toInt = 0 ∨ r_12.toInt = 1 from (by first | assumption | omega | (subst hj1; omega))⟩) hP hD hQ (Nat.le_of_ble_eq_true rfl) (Nat.le_of_ble_eq_true rfl) dX4_readOne_85
    · refine lv_lookup (off := 42) (tgt := 64) hx hb dX4_readOne_22 (by decide) (by rw [hu_6, c_6]; decide) (by decide) ?_
      have kb9 : ks i = 2 := cK_p (hKO i).1 (Or.inl ⟨by decide, by decide⟩) kk_5 (c := 3) (by subst hj1; omega) (by decide)
      refine lv_aload_n hx hb dX4_readOne_64 rfl (lv_at hl 1 rfl) ?_
      refine lv_aload_n hx hb dX4_readOne_65 rfl (lv_at hl 1 rfl) ?_
      refine t_get (D := D) (L := L) (f := f) (ci := 4) (v := .ref (g 22)) (C := RX4) (T := TX4) (N := 11) hx hb hts (by decide +kernel) hown hK.1 hP (gm_13 hG) fg_1 rfl 3 (by decide) (hts (.fieldLink RX4 13 "JugglingHall$Reader" "levels" "[LJugglingHall$Row;") (by decide +kernel)) (fun _ h9 => h9) rfl dX4_readOne_66 ?_
      refine lv_iload_n hx hb dX4_readOne_69 rfl (lv_at hl 2 rfl) ?_
      obtain ⟨c_14, fg_14, iv0_14⟩ := op_22 hI (gm_22 hG) (gs_22 hG)
      refine t_aald (L := L) (f := f) (y := c_14) (u := x.toInt) hx hb hK.1 hP (gm_22 hG) 1 fg_14 rfl dX4_readOne_70 (rfl) (by subst hj1; omega) (fun w_15 q_15 => ?_)
      obtain ⟨r_15, p_15, n_15, er_15, m_15, s_15⟩ := iv0_14 x.toInt (by subst hj1; omega) (by subst hj1; omega)
      have q_15 := q_15.trans er_15
      subst q_15
      refine W.eq (g2 := F0 m 71 ls [.ref r_15, .ref (g 13)]) rfl ?_
      have hh_15 : r_15 = lv x.toInt.toNat := LvC_at (l := x.toInt) hLv fg_14 (by subst hj1; omega) (by subst hj1; omega) (by rw [show x.toInt = x.toInt by omega]; exact er_15)
      have hR_15 := RWf_e hMS.2.2 hh_15
      obtain ⟨len_16, fg_16, v1_16, v2_16, v3_16, mp_16, sp_16⟩ := op_0 hI m_15 s_15
      obtain ⟨w1_16, w2_16, w3_16, w4_16, w5_16⟩ := lenw hj v1_16 v2_16 v3_16
      obtain ⟨c_17, fg_17, iv0_17⟩ := op_1 hI mp_16 sp_16
      obtain ⟨hl_18, hc_18⟩ := RWf_at hR_15 s_15 fg_16 fg_17
      have hN_15 := cap_of (S := S) (a := r_15) (k := 48) (by rw [hh_15]; exact (hRD.2.1 _ (by subst hj1; omega)).1) s_15
      refine call_p (va_runV (As := [.ref r_15]) (rest := []) ⟨hx, hb, hml, hown, hts⟩ (t_X4_readLetterm l D cI cR cM _ (ks := ks) (vs := vs) (i := i) (lv := lv) (gr := gr) (E := E) (F := F) (w := (fun j => w (2 * st x.toInt + j)))  hj hG hI m_15 s_15 fg_16 fg_17 (by first | assumption | omega | (subst hj1; omega)) (hC) (by first | assumption | omega | (subst hj1; omega)) (kb9) (hEC) (by rw [hl_18]; exact hc_18)) (cwV 1 hts gX4_readOne_X4_readLetter rfl rfl rfl (by decide +kernel) ⟨Nat.le_of_ble_eq_true rfl, Nat.le_of_ble_eq_true rfl⟩) (pre_T hK hP hD (gm_13 hG) fg_1 rfl) rfl rfl hl.1 rfl (lv_room (Nat.le_of_ble_eq_true rfl)) dX4_readOne_71 ⟨Nat.le_of_ble_eq_true rfl, Nat.le_of_ble_eq_true rfl⟩) hD hS hA (fun u_19 H locs hw hP hD hS => ?_)
      obtain ⟨r_19, f_19⟩ := u_19
      obtain ⟨hI, hF_19, hp_19, hfx_19, h01_19⟩ : IN jn cI cR cM g L S f_19 ∧ FR S [0, 1, 13, 14] f f_19 ∧ ((r_19.toInt = 1 ∧ 0 < (E (vs i)).1 ∧ TKm cI g ks vs f_19 (i + 1) ∧ 2 * (len_16.toInt + (E (vs i)).1) ≤ (n_15 : Int) ∧ RWf cI jn S f_19 r_15 (len_16.toInt + (E (vs i)).1) (fun j => if j < 2 * len_16.toInt then (fun j => w (2 * st x.toInt + j)) j else (E (vs i)).2 (j - 2 * len_16.toInt))) ∨ (r_19.toInt = 0 ∧ ((E (vs i)).1 ≤ 0 ∨ (n_15 : Int) < 2 * (len_16.toInt + (E (vs i)).1)))) ∧ (FX S (fun a9 => a9 = r_15) [13, 14] f f_19) ∧ (r_19.toInt = 0 ∨ r_19.toInt = 1) := hw
      have hP : va_P D vwCl (va_pl L f_19) H := hP
      have hD : va_D A (va_pl L f_19) := hD
      have hF := FR_tr hF hF_19 (by decide)
      have hFX := FX_tr hFX hfx_19 (fun a9 h9 => Or.inl ⟨x.toInt.toNat, Nat.le_refl _, by omega, h9.trans hh_15⟩) (by decide)
      have fb_20 : f_19 (g 22) = .inl (cR, 6, .inr (.inr (.inr (.inr c_14)))) := FR_at hF_19 (gs_22 hG) (show (22 : Nat) ∉ ([0, 1, 13, 14] : List Nat) by decide) fg_14
      exact g_zret (r_19, f_19) hx hb hr hlocks hS (b01 (by subst hj1; omega)) rfl (⟨hI, hF, show Hd ((r_19.toInt = 1 ∧ OneR cI jn g lv S f_19 ks vs E i x.toInt top one may isO w st op dg st1 op1 dg1) ∨ (r_19.toInt = 0 ∧ Fls ks vs E (i, x.toInt, top, one, may, isO, w, st1, op1, dg1))) from (by
        rw [hl_18] at hp_19
        rcases hp_19 with ⟨h5, h6, h7, h8, h9⟩ | ⟨h5, h6⟩
        · have h9 := RWf_e h9 hh_15.symm
          obtain ⟨q1, q2, q3⟩ := L_letter (E := E) (one := one) (isO := isO) (op1 := op1) (dg1 := dg1) hMS (fun top9 w9 q1 q2 q3 => MSb_fx hMS.1 hfx_19 (by decide) (fun k9 h8 h7 => (fun q9 => (hRD.2.2.2.2.1 k9.toNat x.toInt.toNat (by subst hj1; omega) (by subst hj1; omega) (by subst hj1; omega)) (q9.trans hh_15))) (fun k9 v9 _ _ h9 => TN_fr hG hF_19 (by decide) k9 v9 h9) q1 q2 q3) hm9 (hst _ (by subst hj1; omega) (Int.le_refl _)) kb9 h6 (hEO _ (by have := (hKO i).2.2 kb9; omega) (by have := (hKO i).2.2 kb9; omega)).2.2 (by subst hj1; omega) h9
          exact Or.inl ⟨h5, i + 1, _, _, st1, op1, dg1, Go_1 q1, by omega, by omega, h7, q2, hst, hop, q3⟩
        · exact Or.inr ⟨h5, Fls_0 (F_letter kb9 (by rw [hst _ (by subst hj1; omega) (Int.le_refl _)]; omega))⟩), show ∀ k9 v9 : Int, 0 ≤ k9 → k9 < x.toInt → TNf cI g f k9 v9 → TNf cI g f_19 k9 v9 from (fun k9 v9 _ _ h9 => TN_fr hG hF_19 (by decide) k9 v9 h9), show FX S (BXp g lv x.toInt) [13, 14, 34] f f_19 from (by first | assumption | omega | (subst hj1; omega)), show r_19.toInt = 0 ∨ r_19.toInt = 1 from (by first | assumption | omega | (subst hj1; omega))⟩) hP hD hQ (Nat.le_of_ble_eq_true rfl) (Nat.le_of_ble_eq_true rfl) dX4_readOne_74
    · refine lv_lookup (off := 53) (tgt := 75) hx hb dX4_readOne_22 (by decide) (by rw [hu_6, c_6]; decide) (by decide) ?_
      have kb9 : ks i = 60 := cK_p (hKO i).1 (Or.inr ⟨by decide, by decide⟩) kk_5 (c := 60) (by subst hj1; omega) (by decide)
      refine lv_aload_n hx hb dX4_readOne_75 rfl (lv_at hl 1 rfl) ?_
      refine lv_aload_n hx hb dX4_readOne_76 rfl (lv_at hl 1 rfl) ?_
      refine t_get (D := D) (L := L) (f := f) (ci := 4) (v := .ref (g 22)) (C := RX4) (T := TX4) (N := 11) hx hb hts (by decide +kernel) hown hK.1 hP (gm_13 hG) fg_1 rfl 3 (by decide) (hts (.fieldLink RX4 13 "JugglingHall$Reader" "levels" "[LJugglingHall$Row;") (by decide +kernel)) (fun _ h9 => h9) rfl dX4_readOne_77 ?_
      refine lv_iload_n hx hb dX4_readOne_80 rfl (lv_at hl 2 rfl) ?_
      obtain ⟨c_21, fg_21, iv0_21⟩ := op_22 hI (gm_22 hG) (gs_22 hG)
      refine t_aald (L := L) (f := f) (y := c_21) (u := x.toInt) hx hb hK.1 hP (gm_22 hG) 1 fg_21 rfl dX4_readOne_81 (rfl) (by subst hj1; omega) (fun w_22 q_22 => ?_)
      obtain ⟨r_22, p_22, n_22, er_22, m_22, s_22⟩ := iv0_21 x.toInt (by subst hj1; omega) (by subst hj1; omega)
      have q_22 := q_22.trans er_22
      subst q_22
      refine W.eq (g2 := F0 m 82 ls [.ref r_22, .ref (g 13)]) rfl ?_
      have hh_22 : r_22 = lv x.toInt.toNat := LvC_at (l := x.toInt) hLv fg_21 (by subst hj1; omega) (by subst hj1; omega) (by rw [show x.toInt = x.toInt by omega]; exact er_22)
      have hR_22 := RWf_e hMS.2.2 hh_22
      obtain ⟨len_23, fg_23, v1_23, v2_23, v3_23, mp_23, sp_23⟩ := op_0 hI m_22 s_22
      obtain ⟨w1_23, w2_23, w3_23, w4_23, w5_23⟩ := lenw hj v1_23 v2_23 v3_23
      obtain ⟨c_24, fg_24, iv0_24⟩ := op_1 hI mp_23 sp_23
      obtain ⟨hl_25, hc_25⟩ := RWf_at hR_22 s_22 fg_23 fg_24
      have hN_22 := cap_of (S := S) (a := r_22) (k := 48) (by rw [hh_22]; exact (hRD.2.1 _ (by subst hj1; omega)).1) s_22
      refine call_p (va_runV (As := [.ref r_22]) (rest := []) ⟨hx, hb, hml, hown, hts⟩ (t_X4_readBeatm l D cI cR cM _ (ks := ks) (vs := vs) (i := i) (w := (fun j => w (2 * st x.toInt + j)))  hj hG hI m_22 s_22 fg_23 fg_24 (by first | assumption | omega | (subst hj1; omega)) (hC) (by first | assumption | omega | (subst hj1; omega)) (by rw [hh_22]; exact (hRD.2.1 _ (by subst hj1; omega)).2.1) (hRD.1.1) (by rw [hl_25]; exact hc_25)) (cwV 1 hts gX4_readOne_X4_readBeat rfl rfl rfl (by decide +kernel) ⟨Nat.le_of_ble_eq_true rfl, Nat.le_of_ble_eq_true rfl⟩) (pre_T hK hP hD (gm_13 hG) fg_1 rfl) rfl rfl hl.1 rfl (lv_room (Nat.le_of_ble_eq_true rfl)) dX4_readOne_82 ⟨Nat.le_of_ble_eq_true rfl, Nat.le_of_ble_eq_true rfl⟩) hD hS hA (fun u_26 H locs hw hP hD hS => ?_)
      obtain ⟨r_26, f_26⟩ := u_26
      obtain ⟨hI, hF_26, hp_26, hfx_26, h01_26⟩ : IN jn cI cR cM g L S f_26 ∧ FR S [0, 1, 13, 14] f f_26 ∧ ((r_26.toInt = 1 ∧ ∃ (a9 b9 : Int) (j9 : Nat), BtR ks vs i a9 b9 j9 ∧ TKm cI g ks vs f_26 j9 ∧ 2 * (len_23.toInt + 1) ≤ (n_22 : Int) ∧ RWf cI jn S f_26 r_22 (len_23.toInt + 1) (fupd (fupd (fun j => w (2 * st x.toInt + j)) (2 * len_23.toInt) a9) (2 * len_23.toInt + 1) b9)) ∨ (r_26.toInt = 0 ∧ (BtF ks vs i ∨ (n_22 : Int) < 2 * (len_23.toInt + 1)))) ∧ (FX S (fun a9 => a9 = r_22 ∨ a9 = g 24) [13, 14] f f_26) ∧ (r_26.toInt = 0 ∨ r_26.toInt = 1) := hw
      have hP : va_P D vwCl (va_pl L f_26) H := hP
      have hD : va_D A (va_pl L f_26) := hD
      have hF := FR_tr hF hF_26 (by decide)
      have hFX := FX_tr hFX hfx_26 (fun a9 h9 => h9.elim (fun h9 => Or.inl ⟨x.toInt.toNat, Nat.le_refl _, by omega, h9.trans hh_22⟩) (fun h9 => Or.inr (Or.inl h9))) (by decide)
      have fb_27 : f_26 (g 22) = .inl (cR, 6, .inr (.inr (.inr (.inr c_21)))) := FR_at hF_26 (gs_22 hG) (show (22 : Nat) ∉ ([0, 1, 13, 14] : List Nat) by decide) fg_21
      exact g_zret (r_26, f_26) hx hb hr hlocks hS (b01 (by subst hj1; omega)) rfl (⟨hI, hF, show Hd ((r_26.toInt = 1 ∧ OneR cI jn g lv S f_26 ks vs E i x.toInt top one may isO w st op dg st1 op1 dg1) ∨ (r_26.toInt = 0 ∧ Fls ks vs E (i, x.toInt, top, one, may, isO, w, st1, op1, dg1))) from (by exfalso; omega), show ∀ k9 v9 : Int, 0 ≤ k9 → k9 < x.toInt → TNf cI g f k9 v9 → TNf cI g f_26 k9 v9 from (fun k9 v9 _ _ h9 => TN_fr hG hF_26 (by decide) k9 v9 h9), show FX S (BXp g lv x.toInt) [13, 14, 34] f f_26 from (by first | assumption | omega | (subst hj1; omega)), show r_26.toInt = 0 ∨ r_26.toInt = 1 from (by first | assumption | omega | (subst hj1; omega))⟩) hP hD hQ (Nat.le_of_ble_eq_true rfl) (Nat.le_of_ble_eq_true rfl) dX4_readOne_85
    · refine lv_lookup (off := 53) (tgt := 75) hx hb dX4_readOne_22 (by decide) (by rw [hu_6, c_6]; decide) (by decide) ?_
      have kb9 : ks i = 91 := cK_p (hKO i).1 (Or.inr ⟨by decide, by decide⟩) kk_5 (c := 91) (by subst hj1; omega) (by decide)
      refine lv_aload_n hx hb dX4_readOne_75 rfl (lv_at hl 1 rfl) ?_
      refine lv_aload_n hx hb dX4_readOne_76 rfl (lv_at hl 1 rfl) ?_
      refine t_get (D := D) (L := L) (f := f) (ci := 4) (v := .ref (g 22)) (C := RX4) (T := TX4) (N := 11) hx hb hts (by decide +kernel) hown hK.1 hP (gm_13 hG) fg_1 rfl 3 (by decide) (hts (.fieldLink RX4 13 "JugglingHall$Reader" "levels" "[LJugglingHall$Row;") (by decide +kernel)) (fun _ h9 => h9) rfl dX4_readOne_77 ?_
      refine lv_iload_n hx hb dX4_readOne_80 rfl (lv_at hl 2 rfl) ?_
      obtain ⟨c_28, fg_28, iv0_28⟩ := op_22 hI (gm_22 hG) (gs_22 hG)
      refine t_aald (L := L) (f := f) (y := c_28) (u := x.toInt) hx hb hK.1 hP (gm_22 hG) 1 fg_28 rfl dX4_readOne_81 (rfl) (by subst hj1; omega) (fun w_29 q_29 => ?_)
      obtain ⟨r_29, p_29, n_29, er_29, m_29, s_29⟩ := iv0_28 x.toInt (by subst hj1; omega) (by subst hj1; omega)
      have q_29 := q_29.trans er_29
      subst q_29
      refine W.eq (g2 := F0 m 82 ls [.ref r_29, .ref (g 13)]) rfl ?_
      have hh_29 : r_29 = lv x.toInt.toNat := LvC_at (l := x.toInt) hLv fg_28 (by subst hj1; omega) (by subst hj1; omega) (by rw [show x.toInt = x.toInt by omega]; exact er_29)
      have hR_29 := RWf_e hMS.2.2 hh_29
      obtain ⟨len_30, fg_30, v1_30, v2_30, v3_30, mp_30, sp_30⟩ := op_0 hI m_29 s_29
      obtain ⟨w1_30, w2_30, w3_30, w4_30, w5_30⟩ := lenw hj v1_30 v2_30 v3_30
      obtain ⟨c_31, fg_31, iv0_31⟩ := op_1 hI mp_30 sp_30
      obtain ⟨hl_32, hc_32⟩ := RWf_at hR_29 s_29 fg_30 fg_31
      have hN_29 := cap_of (S := S) (a := r_29) (k := 48) (by rw [hh_29]; exact (hRD.2.1 _ (by subst hj1; omega)).1) s_29
      refine call_p (va_runV (As := [.ref r_29]) (rest := []) ⟨hx, hb, hml, hown, hts⟩ (t_X4_readBeatm l D cI cR cM _ (ks := ks) (vs := vs) (i := i) (w := (fun j => w (2 * st x.toInt + j)))  hj hG hI m_29 s_29 fg_30 fg_31 (by first | assumption | omega | (subst hj1; omega)) (hC) (by first | assumption | omega | (subst hj1; omega)) (by rw [hh_29]; exact (hRD.2.1 _ (by subst hj1; omega)).2.1) (hRD.1.1) (by rw [hl_32]; exact hc_32)) (cwV 1 hts gX4_readOne_X4_readBeat rfl rfl rfl (by decide +kernel) ⟨Nat.le_of_ble_eq_true rfl, Nat.le_of_ble_eq_true rfl⟩) (pre_T hK hP hD (gm_13 hG) fg_1 rfl) rfl rfl hl.1 rfl (lv_room (Nat.le_of_ble_eq_true rfl)) dX4_readOne_82 ⟨Nat.le_of_ble_eq_true rfl, Nat.le_of_ble_eq_true rfl⟩) hD hS hA (fun u_33 H locs hw hP hD hS => ?_)
      obtain ⟨r_33, f_33⟩ := u_33
      obtain ⟨hI, hF_33, hp_33, hfx_33, h01_33⟩ : IN jn cI cR cM g L S f_33 ∧ FR S [0, 1, 13, 14] f f_33 ∧ ((r_33.toInt = 1 ∧ ∃ (a9 b9 : Int) (j9 : Nat), BtR ks vs i a9 b9 j9 ∧ TKm cI g ks vs f_33 j9 ∧ 2 * (len_30.toInt + 1) ≤ (n_29 : Int) ∧ RWf cI jn S f_33 r_29 (len_30.toInt + 1) (fupd (fupd (fun j => w (2 * st x.toInt + j)) (2 * len_30.toInt) a9) (2 * len_30.toInt + 1) b9)) ∨ (r_33.toInt = 0 ∧ (BtF ks vs i ∨ (n_29 : Int) < 2 * (len_30.toInt + 1)))) ∧ (FX S (fun a9 => a9 = r_29 ∨ a9 = g 24) [13, 14] f f_33) ∧ (r_33.toInt = 0 ∨ r_33.toInt = 1) := hw
      have hP : va_P D vwCl (va_pl L f_33) H := hP
      have hD : va_D A (va_pl L f_33) := hD
      have hF := FR_tr hF hF_33 (by decide)
      have hFX := FX_tr hFX hfx_33 (fun a9 h9 => h9.elim (fun h9 => Or.inl ⟨x.toInt.toNat, Nat.le_refl _, by omega, h9.trans hh_29⟩) (fun h9 => Or.inr (Or.inl h9))) (by decide)
      have fb_34 : f_33 (g 22) = .inl (cR, 6, .inr (.inr (.inr (.inr c_28)))) := FR_at hF_33 (gs_22 hG) (show (22 : Nat) ∉ ([0, 1, 13, 14] : List Nat) by decide) fg_28
      exact g_zret (r_33, f_33) hx hb hr hlocks hS (b01 (by subst hj1; omega)) rfl (⟨hI, hF, show Hd ((r_33.toInt = 1 ∧ OneR cI jn g lv S f_33 ks vs E i x.toInt top one may isO w st op dg st1 op1 dg1) ∨ (r_33.toInt = 0 ∧ Fls ks vs E (i, x.toInt, top, one, may, isO, w, st1, op1, dg1))) from (by
        rw [hl_32] at hp_33
        rcases hp_33 with ⟨h5, a9, b9, j9, h6, h7, h8, h9⟩ | ⟨h5, h6⟩
        · have h9 := RWf_e h9 hh_29.symm
          obtain ⟨q1, q2, q3⟩ := L_beat (E := E) (one := one) (isO := isO) (op1 := op1) (dg1 := dg1) hMS (fun top9 w9 q1 q2 q3 => MSb_fx hMS.1 hfx_33 (by decide) (fun k9 h8 h7 => (fun q9 => q9.elim (fun q9 => (hRD.2.2.2.2.1 k9.toNat x.toInt.toNat (by subst hj1; omega) (by subst hj1; omega) (by subst hj1; omega)) (q9.trans hh_29)) (fun q8 => (hRD.2.1 k9.toNat (by subst hj1; omega)).2.1 q8))) (fun k9 v9 _ _ h9 => TN_fr hG hF_33 (by decide) k9 v9 h9) q1 q2 q3) hm9 (hst _ (by subst hj1; omega) (Int.le_refl _)) h6 (Bt_vK hKO h6) (by subst hj1; omega) h9
          exact Or.inl ⟨h5, j9, _, _, st1, op1, dg1, Go_1 q1, Bt_lt h6, by omega, h7, q2, hst, hop, q3⟩
        · refine Or.inr ⟨h5, Fls_0 (F_beat hm9 (fun q9 => by omega) (by subst hj1; omega) (by subst hj1; omega) (fun _ => by unfold Bgn; omega) ?_)⟩
          rw [hst _ (by subst hj1; omega) (Int.le_refl _)]
          exact h6.imp id (fun q9 => by omega)), show ∀ k9 v9 : Int, 0 ≤ k9 → k9 < x.toInt → TNf cI g f k9 v9 → TNf cI g f_33 k9 v9 from (fun k9 v9 _ _ h9 => TN_fr hG hF_33 (by decide) k9 v9 h9), show FX S (BXp g lv x.toInt) [13, 14, 34] f f_33 from (by first | assumption | omega | (subst hj1; omega)), show r_33.toInt = 0 ∨ r_33.toInt = 1 from (by first | assumption | omega | (subst hj1; omega))⟩) hP hD hQ (Nat.le_of_ble_eq_true rfl) (Nat.le_of_ble_eq_true rfl) dX4_readOne_85
    · refine lv_lookup (off := 64) (tgt := 86) hx hb dX4_readOne_22 (by decide) (by rw [hu_6]; exact (show Op.lookupswitch.offset [(2, 53), (3, 42), (60, 53), (91, 53)] (64) kd_4.toInt = (64) from lkc (by subst hj1; omega) (lkc (by subst hj1; omega) (lkc (by subst hj1; omega) (lkc (by subst hj1; omega) (lkn _ _)))))) (by decide) ?_
      have hkg : ks i = 40 ∨ (7 ≤ ks i ∧ ks i ≤ 10) := by have h9 := cK_f (hKO i).1; omega
      refine lv_aload_n hx hb dX4_readOne_86 rfl (lv_at hl 1 rfl) ?_
      refine lv_iload_n hx hb dX4_readOne_87 rfl (lv_at hl 0 rfl) ?_
      refine lv_iload_n hx hb dX4_readOne_88 rfl (lv_at hl 2 rfl) ?_
      refine call_p (va_runV (As := [.int kd_4, .int x]) (rest := []) ⟨hx, hb, hml, hown, hts⟩ (t_X4_openGroupm l D cI cR cM _ (ks := ks) (vs := vs) (i := i)  hj hG hI  (by first | assumption | omega | (subst hj1; omega)) (hC) (by first | assumption | omega | (subst hj1; omega)) (kk_5) (hkg) (by subst hj1; omega)) (cwV 2 hts gX4_readOne_X4_openGroup rfl rfl rfl (by decide +kernel) ⟨Nat.le_of_ble_eq_true rfl, Nat.le_of_ble_eq_true rfl⟩) (pre_T hK hP hD (gm_13 hG) fg_1 rfl) rfl rfl hl.1 rfl (lv_room (Nat.le_of_ble_eq_true rfl)) dX4_readOne_89 ⟨Nat.le_of_ble_eq_true rfl, Nat.le_of_ble_eq_true rfl⟩) hD hS hA (fun u_35 H locs hw hP hD hS => ?_)
      obtain ⟨r_35, f_35⟩ := u_35
      obtain ⟨hI, hF_35, hp_35, ht_35, hfx_35, h01_35⟩ : IN jn cI cR cM g L S f_35 ∧ FR S [13, 14, 34] f f_35 ∧ ((r_35.toInt = 1 ∧ x.toInt < 5 ∧ ((ks i = 40 ∧ TKm cI g ks vs f_35 (i + 1)) ∨ ((7 ≤ ks i ∧ ks i ≤ 9) ∧ ks (i + 1) = 40 ∧ TKm cI g ks vs f_35 (i + 2)) ∨ (ks i = 10 ∧ ks (i + 1) = 1 ∧ ks (i + 2) = 40 ∧ TKm cI g ks vs f_35 (i + 3) ∧ TNf cI g f_35 x.toInt (vs (i + 1))))) ∨ (r_35.toInt = 0 ∧ ¬ (x.toInt < 5 ∧ (ks i = 40 ∨ ((7 ≤ ks i ∧ ks i ≤ 9) ∧ ks (i + 1) = 40) ∨ (ks i = 10 ∧ ks (i + 1) = 1 ∧ ks (i + 2) = 40))))) ∧ (∀ k9 v9 : Int, 0 ≤ k9 → k9 ≠ x.toInt → TNf cI g f k9 v9 → TNf cI g f_35 k9 v9) ∧ (FX S (fun _ => False) [13, 14, 34] f f_35) ∧ (r_35.toInt = 0 ∨ r_35.toInt = 1) := hw
      have hP : va_P D vwCl (va_pl L f_35) H := hP
      have hD : va_D A (va_pl L f_35) := hD
      have hF := FR_tr hF hF_35 (by decide)
      have hFX := FX_tr hFX hfx_35 (fun _ h9 => h9.elim) (by decide)
      refine a_if_eq (u := r_35.toInt) (tgt := 127) hx hb dX4_readOne_92 (by decide) (rfl) (fun c_36 => ?_) (fun c_36 => ?_)
      · refine lv_iconst (v := 0) hx hb dX4_readOne_127 (by decide) ?_
        have hz_37 : (0 : Int32).toInt = 0 := by decide
        exact g_zret ((0 : Int32), f_35) hx hb hr hlocks hS (by first | exact Or.inl rfl | exact Or.inr rfl) rfl (⟨hI, hF, show Hd (((0 : Int32).toInt = 1 ∧ OneR cI jn g lv S f_35 ks vs E i x.toInt top one may isO w st op dg st1 op1 dg1) ∨ ((0 : Int32).toInt = 0 ∧ Fls ks vs E (i, x.toInt, top, one, may, isO, w, st1, op1, dg1))) from (Or.inr ⟨rfl, Fls_0 (F_opens (by subst hj1; omega) (hp_35.resolve_left (fun q9 => by have := q9.1; omega)).2)⟩), show ∀ k9 v9 : Int, 0 ≤ k9 → k9 < x.toInt → TNf cI g f k9 v9 → TNf cI g f_35 k9 v9 from (fun k9 v9 h7 h8 h9 => (ht_35 k9 v9 h7 (by subst hj1; omega) h9)), show FX S (BXp g lv x.toInt) [13, 14, 34] f f_35 from (by first | assumption | omega | (subst hj1; omega)), show (0 : Int32).toInt = 0 ∨ (0 : Int32).toInt = 1 from (by first | assumption | omega | (subst hj1; omega))⟩) hP hD hQ (Nat.le_of_ble_eq_true rfl) (Nat.le_of_ble_eq_true rfl) dX4_readOne_128
      · obtain ⟨hz1, hz2⟩ := hp_35.resolve_right (fun q9 => by have := q9.1; omega)
        have hMS1 := MSt_fx hMS hfx_35 (by decide) (fun _ _ _ h9 => h9) (fun k9 v9 h7 h8 h9 => ht_35 k9 v9 h7 (by subst hj1; omega) h9)
        have hLv1 := LvC_fr hLv hG hF_35 (by decide)
        have hEC1 := EnvC_fx hEC hG hF_35 hfx_35 (by decide) (by decide) (fun _ _ h9 => h9) (fun _ _ h9 => h9)
        obtain ⟨i1, K1, D1, hs1, hc1_, hi1, hK1, hT1⟩ := L_opens (E := E) (top := top) (one := one) (isO := isO) (w := w) (st := st1) (op := op1) (dg := dg1) hm9 hz2
        have hMo := L_open (K := K1) (D := D1) hMS1 (by subst hj1; omega) hT1
        refine lv_aload_n hx hb dX4_readOne_95 rfl (lv_at hl 1 rfl) ?_
        refine lv_iload_n hx hb dX4_readOne_96 rfl (lv_at hl 2 rfl) ?_
        refine lv_iconst (v := 1) hx hb dX4_readOne_97 (by decide) ?_
        refine a_iadd (u := x.toInt) (v := 1) hx hb dX4_readOne_98 (rfl) (by decide) (by subst hj1; omega) (fun z_38 e_38 => ?_)
        obtain ⟨fa_39, pl_39, fg_39⟩ := op_13 hI (gm_13 hG) (gs_13 hG)
        refine call_p (va_runV (As := [.int z_38]) (rest := []) ⟨hx, hb, hml, hown, hts⟩ (t_X4_readSequencem_4 l D cI cR cM _ (i := i1) (top := top) (one := one) (w := w) (st := (fupd st (x.toInt + 1) top)) (op := (fupd op x.toInt K1)) (dg := (fupd dg x.toInt D1)) (st1 := (fupd st1 (x.toInt + 1) top)) (op1 := (fupd op1 x.toInt K1)) (dg1 := (fupd dg1 x.toInt D1)) (lv := lv) (gr := gr) (E := E) (F := F) (ks := ks) (vs := vs)  hj hG hI  (by first | assumption | omega | (subst hj1; omega)) (hc1_) (by first | assumption | omega | (subst hj1; omega)) (hRD) (hLv1) (hEC1) (hEO) (by subst hj1; omega) (by subst hj1; omega) (by rw [show z_38.toInt = x.toInt + 1 by omega]; exact hMo) (by rw [show z_38.toInt = x.toInt + 1 by omega]; exact fu_s) (fun k9 h8 h9 => by
          by_cases q9 : k9 = x.toInt + 1
          · rw [q9, fu_s, fu_s]
          · rw [fu_n q9, fu_n q9]; exact hst k9 h8 (by subst hj1; omega)) (fun k9 h8 h9 => by
          by_cases q9 : k9 = x.toInt
          · rw [q9, fu_s, fu_s, fu_s, fu_s]; exact ⟨rfl, rfl⟩
          · rw [fu_n q9, fu_n q9, fu_n q9, fu_n q9]; exact hop k9 h8 (by subst hj1; omega))) (cwV 1 hts gX4_readOne_X4_readSequence rfl rfl rfl (by decide +kernel) ⟨Nat.le_of_ble_eq_true rfl, Nat.le_of_ble_eq_true rfl⟩) (pre_T hK hP hD (gm_13 hG) fg_39 rfl) rfl rfl hl.1 rfl (lv_room (Nat.le_of_ble_eq_true rfl)) dX4_readOne_99 ⟨Nat.le_of_ble_eq_true rfl, Nat.le_of_ble_eq_true rfl⟩) hD hS hA (fun u_40 H locs hw hP hD hS => ?_)
        obtain ⟨r_40, f_40⟩ := u_40
        obtain ⟨hI, hF_40, hp_40, htn_40, hfx_40, h01_40⟩ : IN jn cI cR cM g L S f_40 ∧ FR S [0, 1, 13, 14, 34] f_35 f_40 ∧ (Hd ((r_40.toInt = 1 ∧ SeqR cI jn g lv S f_40 ks vs E i1 z_38.toInt top one w (fupd st (x.toInt + 1) top) (fupd op x.toInt K1) (fupd dg x.toInt D1) (fupd st1 (x.toInt + 1) top) (fupd op1 x.toInt K1) (fupd dg1 x.toInt D1)) ∨ (r_40.toInt = 0 ∧ Fls ks vs E (i1, z_38.toInt, top, one, 0, 0, w, (fupd st1 (x.toInt + 1) top), (fupd op1 x.toInt K1), (fupd dg1 x.toInt D1))))) ∧ (∀ k9 v9 : Int, 0 ≤ k9 → k9 < z_38.toInt → TNf cI g f_35 k9 v9 → TNf cI g f_40 k9 v9) ∧ (FX S (BXp g lv z_38.toInt) [13, 14, 34] f_35 f_40) ∧ (r_40.toInt = 0 ∨ r_40.toInt = 1) := hw
        have hP : va_P D vwCl (va_pl L f_40) H := hP
        have hD : va_D A (va_pl L f_40) := hD
        have hF := FR_tr hF hF_40 (by decide)
        have hFX := FX_tr hFX hfx_40 (fun a9 h9 => h9.imp (fun ⟨k9, h8, h7, h6⟩ => ⟨k9, by omega, h7, h6⟩) id) (by decide)
        have hpz_40 := hp_40
        rw [show z_38.toInt = x.toInt + 1 by omega] at hpz_40
        refine a_if_eq (u := r_40.toInt) (tgt := 127) hx hb dX4_readOne_102 (by decide) (rfl) (fun c_41 => ?_) (fun c_41 => ?_)
        · refine lv_iconst (v := 0) hx hb dX4_readOne_127 (by decide) ?_
          have hz_42 : (0 : Int32).toInt = 0 := by decide
          exact g_zret ((0 : Int32), f_40) hx hb hr hlocks hS (by first | exact Or.inl rfl | exact Or.inr rfl) rfl (⟨hI, hF, show Hd (((0 : Int32).toInt = 1 ∧ OneR cI jn g lv S f_40 ks vs E i x.toInt top one may isO w st op dg st1 op1 dg1) ∨ ((0 : Int32).toInt = 0 ∧ Fls ks vs E (i, x.toInt, top, one, may, isO, w, st1, op1, dg1))) from (Or.inr ⟨rfl, Fls_tr (Go_1 hs1) (hpz_40.resolve_left (fun q9 => by have := q9.1; omega)).2⟩), show ∀ k9 v9 : Int, 0 ≤ k9 → k9 < x.toInt → TNf cI g f k9 v9 → TNf cI g f_40 k9 v9 from (fun k9 v9 h7 h8 h9 => (htn_40 k9 v9 h7 (by subst hj1; omega) (ht_35 k9 v9 h7 (by subst hj1; omega) h9))), show FX S (BXp g lv x.toInt) [13, 14, 34] f f_40 from (by first | assumption | omega | (subst hj1; omega)), show (0 : Int32).toInt = 0 ∨ (0 : Int32).toInt = 1 from (by first | assumption | omega | (subst hj1; omega))⟩) hP hD hQ (Nat.le_of_ble_eq_true rfl) (Nat.le_of_ble_eq_true rfl) dX4_readOne_128
        · obtain ⟨-, n_, i2_, top2_, one2_, may2_, w2_, st2_, op2_, dg2_, ⟨hq0, hq1, hq2, hqs, hqo, hqa, hqm, hqx, -⟩, hqp, hqn⟩ := hpz_40.resolve_right (fun q9 => by have := q9.1; omega)
          have hLv2 := LvC_fr hLv1 hG hF_40 (by decide)
          obtain ⟨-, -, hqi, hqt⟩ := hqx.resolve_left (fun q9 => by have := q9.1; omega)
          refine lv_aload_n hx hb dX4_readOne_105 rfl (lv_at hl 1 rfl) ?_
          refine lv_bipush (v := 41) hx hb dX4_readOne_106 (by decide) ?_
          have hz_43 : (41 : Int32).toInt = 41 := by decide
          obtain ⟨fa_44, pl_44, fg_44⟩ := op_13 hI (gm_13 hG) (gs_13 hG)
          refine call_p (va_runV (As := [.int 41]) (rest := []) ⟨hx, hb, hml, hown, hts⟩ (t_X4_expectm l D cI cR cM _ (ks := ks) (vs := vs) (i := i2_) (K9 := 41)  hj hG hI  (by first | assumption | omega | (subst hj1; omega)) (hq1) (by first | assumption | omega | (subst hj1; omega)) (by decide) (Or.inr ⟨by decide, by decide⟩)) (cwV 1 hts gX4_readOne_X4_expect rfl rfl rfl (by decide +kernel) ⟨Nat.le_of_ble_eq_true rfl, Nat.le_of_ble_eq_true rfl⟩) (pre_T hK hP hD (gm_13 hG) fg_44 rfl) rfl rfl hl.1 rfl (lv_room (Nat.le_of_ble_eq_true rfl)) dX4_readOne_108 ⟨Nat.le_of_ble_eq_true rfl, Nat.le_of_ble_eq_true rfl⟩) hD hS hA (fun u_45 H locs hw hP hD hS => ?_)
          obtain ⟨r_45, f_45⟩ := u_45
          obtain ⟨hI, hF_45, hp_45, hfx_45, h01_45⟩ : IN jn cI cR cM g L S f_45 ∧ FR S [13, 14] f_40 f_45 ∧ ((r_45.toInt = 1 ∧ ks i2_ = 41 ∧ TKm cI g ks vs f_45 (i2_ + 1)) ∨ (r_45.toInt = 0 ∧ ks i2_ ≠ 41)) ∧ (FX S (fun _ => False) [13, 14] f_40 f_45) ∧ (r_45.toInt = 0 ∨ r_45.toInt = 1) := hw
          have hP : va_P D vwCl (va_pl L f_45) H := hP
          have hD : va_D A (va_pl L f_45) := hD
          have hF := FR_tr hF hF_45 (by decide)
          have hFX := FX_tr hFX hfx_45 (fun _ h9 => h9.elim) (by decide)
          refine a_if_eq (u := r_45.toInt) (tgt := 127) hx hb dX4_readOne_111 (by decide) (rfl) (fun c_46 => ?_) (fun c_46 => ?_)
          · refine lv_iconst (v := 0) hx hb dX4_readOne_127 (by decide) ?_
            have hz_47 : (0 : Int32).toInt = 0 := by decide
            exact g_zret ((0 : Int32), f_45) hx hb hr hlocks hS (by first | exact Or.inl rfl | exact Or.inr rfl) rfl (⟨hI, hF, show Hd (((0 : Int32).toInt = 1 ∧ OneR cI jn g lv S f_45 ks vs E i x.toInt top one may isO w st op dg st1 op1 dg1) ∨ ((0 : Int32).toInt = 0 ∧ Fls ks vs E (i, x.toInt, top, one, may, isO, w, st1, op1, dg1))) from (Or.inr ⟨rfl, Fls_tr (Go_tr (Go_1 hs1) hq0) (L_open_F hqn hqm (hp_45.resolve_left (fun q9 => by have := q9.1; omega)).2 (by subst hj1; omega))⟩), show ∀ k9 v9 : Int, 0 ≤ k9 → k9 < x.toInt → TNf cI g f k9 v9 → TNf cI g f_45 k9 v9 from (fun k9 v9 h7 h8 h9 => (TN_fr hG hF_45 (by decide) k9 v9 (htn_40 k9 v9 h7 (by subst hj1; omega) (ht_35 k9 v9 h7 (by subst hj1; omega) h9)))), show FX S (BXp g lv x.toInt) [13, 14, 34] f f_45 from (by first | assumption | omega | (subst hj1; omega)), show (0 : Int32).toInt = 0 ∨ (0 : Int32).toInt = 1 from (by first | assumption | omega | (subst hj1; omega))⟩) hP hD hQ (Nat.le_of_ble_eq_true rfl) (Nat.le_of_ble_eq_true rfl) dX4_readOne_128
          · obtain ⟨-, hk41, hq5⟩ := hp_45.resolve_right (fun q9 => by have := q9.1; omega)
            have hLv3 := LvC_fr hLv2 hG hF_45 (by decide)
            have hMS3 := MSt_fx hq2 hfx_45 (by decide) (fun _ _ _ h9 => h9) (fun k9 v9 _ _ h9 => TN_fr hG hF_45 (by decide) k9 v9 h9)
            obtain ⟨hP1, hP2, hP3, hP4, hP5⟩ := L_pre hMS3 (by subst hj1; omega)
            have hst0 := (hMS.1.2.1 x.toInt (by subst hj1; omega) (Int.le_refl _)).1
            refine lv_aload_n hx hb dX4_readOne_114 rfl (lv_at hl 1 rfl) ?_
            refine lv_iload_n hx hb dX4_readOne_115 rfl (lv_at hl 0 rfl) ?_
            refine lv_iload_n hx hb dX4_readOne_116 rfl (lv_at hl 2 rfl) ?_
            obtain ⟨fa_48, pl_48, fg_48⟩ := op_13 hI (gm_13 hG) (gs_13 hG)
            refine call_p (va_runV (As := [.int kd_4, .int x]) (rest := []) ⟨hx, hb, hml, hown, hts⟩ (t_X4_joinGroupm l D cI cR cM _ (lv := lv) (gr := gr) (a8 := (ks i)) (d := D1) (n0 := (top - st x.toInt)) (m0 := (top2_ - top)) (wr := (fun j => w2_ (2 * st x.toInt + j))) (wi := (fun j => w2_ (2 * top + j)))  hj hG hI  (by first | assumption | omega | (subst hj1; omega)) (kk_5) (⟨(hKO i).1, hkg⟩) (by subst hj1; omega) (hRD) (hLv3) (hP1) (hP2) (by subst hj1; omega) (fun q9 => hP4 (by subst hj1; omega)) (srt_sh (by subst hj1; omega) (fun b9 h8 h9 => hP5 b9 h8 (by subst hj1; omega)))) (cwV 2 hts gX4_readOne_X4_joinGroup rfl rfl rfl (by decide +kernel) ⟨Nat.le_of_ble_eq_true rfl, Nat.le_of_ble_eq_true rfl⟩) (pre_T hK hP hD (gm_13 hG) fg_48 rfl) rfl rfl hl.1 rfl (lv_room (Nat.le_of_ble_eq_true rfl)) dX4_readOne_117 ⟨Nat.le_of_ble_eq_true rfl, Nat.le_of_ble_eq_true rfl⟩) hD hS hA (fun u_49 H locs hw hP hD hS => ?_)
            obtain ⟨r_49, f_49⟩ := u_49
            obtain ⟨hI, hF_49, hp_49, hfx_49, h01_49⟩ : IN jn cI cR cM g L S f_49 ∧ FR S [0, 1, 13] f_45 f_49 ∧ ((r_49.toInt = 1 ∧ (top - st x.toInt) + (top2_ - top) ≤ 24 ∧ ∃ v9 : Int → Int, ChI (ks i) D1 (fun j => w2_ (2 * top + j)) (top2_ - top) v9 ∧ RWf cI jn S f_49 (lv x.toInt.toNat) ((top - st x.toInt) + (top2_ - top)) (fun j => if j < 2 * (top - st x.toInt) then (fun j => w2_ (2 * st x.toInt + j)) j else v9 (j - 2 * (top - st x.toInt)))) ∨ (r_49.toInt = 0 ∧ (24 < (top - st x.toInt) + (top2_ - top) ∨ ChIF (ks i) (fun j => w2_ (2 * top + j)) (top2_ - top)))) ∧ (FX S (fun a9 => a9 = lv x.toInt.toNat ∨ a9 = g 25) [13] f_45 f_49) ∧ (r_49.toInt = 0 ∨ r_49.toInt = 1) := hw
            have hP : va_P D vwCl (va_pl L f_49) H := hP
            have hD : va_D A (va_pl L f_49) := hD
            have hF := FR_tr hF hF_49 (by decide)
            have hFX := FX_tr hFX hfx_49 (fun a9 h9 => h9.elim (fun q9 => Or.inl ⟨x.toInt.toNat, Nat.le_refl _, by omega, q9⟩) (fun q9 => Or.inr (Or.inr q9))) (by decide)
            refine a_if_eq (u := r_49.toInt) (tgt := 127) hx hb dX4_readOne_120 (by decide) (rfl) (fun c_50 => ?_) (fun c_50 => ?_)
            · refine lv_iconst (v := 0) hx hb dX4_readOne_127 (by decide) ?_
              have hz_51 : (0 : Int32).toInt = 0 := by decide
              exact g_zret ((0 : Int32), f_49) hx hb hr hlocks hS (by first | exact Or.inl rfl | exact Or.inr rfl) rfl (⟨hI, hF, show Hd (((0 : Int32).toInt = 1 ∧ OneR cI jn g lv S f_49 ks vs E i x.toInt top one may isO w st op dg st1 op1 dg1) ∨ ((0 : Int32).toInt = 0 ∧ Fls ks vs E (i, x.toInt, top, one, may, isO, w, st1, op1, dg1))) from (by
                have h8 := (hp_49.resolve_left (fun q9 => by have := q9.1; omega)).2
                refine Or.inr ⟨rfl, Fls_tr (Go_tr (Go_1 hs1) hq0) (Fls_0 (F_closes hk41 rfl (by subst hj1; omega) ?_))⟩
                have t1 : st2_ (x.toInt + 1 - 1) = st x.toInt := by rw [show x.toInt + 1 - 1 = x.toInt by omega, hqs _ (by subst hj1; omega) (by subst hj1; omega), fu_n (by subst hj1; omega)]
                have t2 : st2_ (x.toInt + 1) = top := by rw [hqs _ (by subst hj1; omega) (by subst hj1; omega), fu_s]
                have t3 : op2_ (x.toInt + 1 - 1) = K1 := by rw [show x.toInt + 1 - 1 = x.toInt by omega, (hqo _ (by subst hj1; omega) (by subst hj1; omega)).1, fu_s]
                rw [t1, t2, t3]
                exact h8.imp (fun q9 => by omega) (fun q9 => Ch_upF q9 hK1)), show ∀ k9 v9 : Int, 0 ≤ k9 → k9 < x.toInt → TNf cI g f k9 v9 → TNf cI g f_49 k9 v9 from (fun k9 v9 h7 h8 h9 => TN_fr hG hF_49 (by decide) k9 v9 (TN_fr hG hF_45 (by decide) k9 v9 (htn_40 k9 v9 h7 (by subst hj1; omega) (ht_35 k9 v9 h7 (by subst hj1; omega) h9)))), show FX S (BXp g lv x.toInt) [13, 14, 34] f f_49 from (by first | assumption | omega | (subst hj1; omega)), show (0 : Int32).toInt = 0 ∨ (0 : Int32).toInt = 1 from (by first | assumption | omega | (subst hj1; omega))⟩) hP hD hQ (Nat.le_of_ble_eq_true rfl) (Nat.le_of_ble_eq_true rfl) dX4_readOne_128
            · obtain ⟨-, hj5, v9_, hj6, hj7⟩ := hp_49.resolve_right (fun q9 => by have := q9.1; omega)
              obtain ⟨w3_, hc1, hc2, hc3⟩ := L_close (f := f) (ks := ks) (vs := vs) (E := E) (i := i2_) (one := one2_) (may := may2_) (a := ks i) (K := K1) (D := D1) (w := w) (st := st) (op := op) (dg := dg) (st2 := st2_) (op2 := op2_) (dg2 := dg2_) hP5 (fun top9 w9 q1 q2 q3 => MSb_fx hMS.1 hFX (by decide) (nb_lv hRD (by subst hj1; omega)) (fun k9 v9 h7 h8 h9 => TN_fr hG hF_49 (by decide) k9 v9 (TN_fr hG hF_45 (by decide) k9 v9 (htn_40 k9 v9 h7 (by subst hj1; omega) (ht_35 k9 v9 h7 (by subst hj1; omega) h9)))) q1 q2 q3) (fun j9 h8 h9 => hqa j9 h8 (by rw [fu_s]; exact h9)) hst0 (by subst hj1; omega) (by subst hj1; omega) hqt hk41 (by rw [hqs _ (by subst hj1; omega) (by subst hj1; omega), fu_n (by subst hj1; omega)]) (by rw [hqs _ (by subst hj1; omega) (by subst hj1; omega), fu_s]) (by rw [(hqo _ (by subst hj1; omega) (by subst hj1; omega)).1, fu_s]) (by rw [(hqo _ (by subst hj1; omega) (by subst hj1; omega)).2, fu_s]) hK1 (by subst hj1; omega) hj6 hj7
              refine lv_iconst (v := 1) hx hb dX4_readOne_123 (by decide) ?_
              refine lv_goto (tgt := 128) hx hb dX4_readOne_124 (by decide) ?_
              have hz_52 : (1 : Int32).toInt = 1 := by decide
              exact g_zret ((1 : Int32), f_49) hx hb hr hlocks hS (by first | exact Or.inl rfl | exact Or.inr rfl) rfl (⟨hI, hF, show Hd (((1 : Int32).toInt = 1 ∧ OneR cI jn g lv S f_49 ks vs E i x.toInt top one may isO w st op dg st1 op1 dg1) ∨ ((1 : Int32).toInt = 0 ∧ Fls ks vs E (i, x.toInt, top, one, may, isO, w, st1, op1, dg1))) from (Or.inl ⟨rfl, i2_ + 1, top2_, w3_, st2_, op2_, dg2_, Go_tr (Go_1 hs1) (Go_tr hq0 (Go_1 hc1)), by omega, by omega, TKm_fr hq5 hG hF_49 (by decide), hc2, fun k9 h8 h7 => by rw [hqs k9 h8 (by subst hj1; omega), fu_n (show k9 ≠ x.toInt + 1 by omega)], fun k9 h8 h7 => by rw [(hqo k9 h8 (by subst hj1; omega)).1, (hqo k9 h8 (by subst hj1; omega)).2, fu_n (show k9 ≠ x.toInt by omega), fu_n (show k9 ≠ x.toInt by omega)]; exact ⟨rfl, rfl⟩, hc3⟩), show ∀ k9 v9 : Int, 0 ≤ k9 → k9 < x.toInt → TNf cI g f k9 v9 → TNf cI g f_49 k9 v9 from (fun k9 v9 h7 h8 h9 => TN_fr hG hF_49 (by decide) k9 v9 (TN_fr hG hF_45 (by decide) k9 v9 (htn_40 k9 v9 h7 (by subst hj1; omega) (ht_35 k9 v9 h7 (by subst hj1; omega) h9)))), show FX S (BXp g lv x.toInt) [13, 14, 34] f f_49 from (by first | assumption | omega | (subst hj1; omega)), show (1 : Int32).toInt = 0 ∨ (1 : Int32).toInt = 1 from (by first | assumption | omega | (subst hj1; omega))⟩) hP hD hQ (Nat.le_of_ble_eq_true rfl) (Nat.le_of_ble_eq_true rfl) dX4_readOne_128
  · refine lv_aload_n hx hb dX4_readOne_7 rfl (lv_at hl 0 rfl) ?_
    refine lv_iconst (v := 1) hx hb dX4_readOne_8 (by decide) ?_
    have hz_53 : (1 : Int32).toInt = 1 := by decide
    refine call_p (va_runV (As := [.int 1]) (rest := []) ⟨hx, hb, hml, hown, hts⟩ (t_X4_fail l D cI cR cM _   hj hG hI  ) (cwV 1 hts gX4_readOne_X4_fail rfl rfl rfl (by decide +kernel) ⟨Nat.le_of_ble_eq_true rfl, Nat.le_of_ble_eq_true rfl⟩) (pre_T hK hP hD (gm_13 hG) fg_1 rfl) rfl rfl hl.1 rfl (lv_room (Nat.le_of_ble_eq_true rfl)) dX4_readOne_9 ⟨Nat.le_of_ble_eq_true rfl, Nat.le_of_ble_eq_true rfl⟩) hD hS hA (fun u_54 H locs hw hP hD hS => ?_)
    obtain ⟨r_54, f_54⟩ := u_54
    obtain ⟨hI, hF_54, h0_54, h01_54⟩ : IN jn cI cR cM g L S f_54 ∧ FR S [13] f f_54 ∧ (r_54.toInt = 0) ∧ (r_54.toInt = 0 ∨ r_54.toInt = 1) := hw
    have hP : va_P D vwCl (va_pl L f_54) H := hP
    have hD : va_D A (va_pl L f_54) := hD
    have hF := FR_tr hF hF_54 (by decide)
    have hFX := FX_trR hFX hF_54 (by decide) (by decide)
    exact g_zret (r_54, f_54) hx hb hr hlocks hS (b01 (by subst hj1; omega)) rfl (⟨hI, hF, show Hd ((r_54.toInt = 1 ∧ OneR cI jn g lv S f_54 ks vs E i x.toInt top one may isO w st op dg st1 op1 dg1) ∨ (r_54.toInt = 0 ∧ Fls ks vs E (i, x.toInt, top, one, may, isO, w, st1, op1, dg1))) from (Or.inr ⟨h0_54, by
      have h8 := (hp_2.resolve_left (fun q9 => by have := q9.1; omega)).2
      obtain ⟨e1, e2⟩ := hbg.resolve_right h8
      rw [e1, e2]
      exact L_none h8⟩), show ∀ k9 v9 : Int, 0 ≤ k9 → k9 < x.toInt → TNf cI g f k9 v9 → TNf cI g f_54 k9 v9 from (fun k9 v9 _ _ h9 => TN_fr hG hF_54 (by decide) k9 v9 h9), show FX S (BXp g lv x.toInt) [13, 14, 34] f f_54 from (by first | assumption | omega | (subst hj1; omega)), show r_54.toInt = 0 ∨ r_54.toInt = 1 from (by first | assumption | omega | (subst hj1; omega))⟩) hP hD hQ (Nat.le_of_ble_eq_true rfl) (Nat.le_of_ble_eq_true rfl) dX4_readOne_12
set_option maxRecDepth 100000 in
set_option maxHeartbeats 4000000 in
theorem t_X4_readSequencem_5 (l : Launch) (D : va_G) (cI cR cM : ClassId) (sz : Nat) {jn : Nat} {g : Nat → Nat} {L : List Nat} {S : Sg} {f : Nat → va_E} {x : Int32} {ks vs : Nat → Int} {i : Nat} {lv gr : Nat → Nat} {E : Env1} {F : Int → Int} {top one : Int} {w st op dg st1 op1 dg1 : Int → Int} (hj : 1 ≤ jn ∧ jn ≤ 3) (hG : SG g L S) (hI : IN jn cI cR cM g L S f) (hj1 : jn = 1) (hC : TKm cI g ks vs f i) (hKO : KO ks vs) (hRD : RDC g lv gr S) (hLv : LvC cR g lv f) (hEC : EnvC cI cR jn g lv gr S f E F) (hEO : EOk E) (hx0 : 0 ≤ x.toInt ∧ x.toInt ≤ 5) (hd : 1 ≤ x.toInt) (hMS : MSb cI jn g lv S f x.toInt top w st op dg) (htop : st x.toInt = top) (hst : ∀ k9 : Int, 0 ≤ k9 → k9 ≤ x.toInt → st1 k9 = st k9) (hop : ∀ k9 : Int, 0 ≤ k9 → k9 < x.toInt → op1 k9 = op k9 ∧ dg1 k9 = dg k9) : Met l yX4_readSequence wsX4_readSequence ({ frames := 12, cells := 0, slots := 0, locals := 317 }) (P0 D cI cR cM [.ref (g 13), .int x] sz (va_pl L f)) (QG (S := Int32 × (Nat → va_E)) (fun u => some (.int u.1)) (fun u => va_pl L u.2) (fun u => IN jn cI cR cM g L S u.2 ∧ FR S [0, 1, 13, 14, 34] f u.2 ∧ (Hd ((u.1.toInt = 1 ∧ SeqR cI jn g lv S u.2 ks vs E i x.toInt top one w st op dg st1 op1 dg1) ∨ (u.1.toInt = 0 ∧ Fls ks vs E (i, x.toInt, top, one, 0, 0, w, st1, op1, dg1)))) ∧ (∀ k9 v9 : Int, 0 ≤ k9 → k9 < x.toInt → TNf cI g f k9 v9 → TNf cI g u.2 k9 v9) ∧ (FX S (BXp g lv x.toInt) [13, 14, 34] f u.2) ∧ (u.1.toInt = 0 ∨ u.1.toInt = 1)) D (va_A (va_pl L f) sz)) 0 0 (va_A (va_pl L f) sz) := by
  refine go (cc := cX4_readSequence) (maxL := 5) (ret := (some .boolean)) (by decide +kernel) rfl (Nat.le_of_ble_eq_true rfl) ?_
  intro p e s m below meth c ls args Q hQ hsz hx hb hr hml hts hown hlocks hnm hP hK hD hl
  subst hsz
  have hD := hD.self (sz := s.heap.size)
  generalize hAe : va_A (va_pl L f) s.heap.size = A at hD hQ
  have hA : ∀ q, s.heap.size ≤ q → A q := fun q h => by rw [← hAe]; exact Or.inr h
  have hS : va_S A s.heap s.heap [] := va_S.rf
  have hFX : FX S (BXp g lv x.toInt) [13, 14, 34] f f := FX_rf
  have hF : FR S [0, 1, 13, 14, 34] f f := FR_rf
  have hl : lv_has ls 5 [(0, .ref (g 13)), (1, .int x)] := hl
  refine lv_iload_n hx hb dX4_readSequence_0 rfl (lv_at hl 1 rfl) ?_
  refine a_if_lt (u := x.toInt) (tgt := 9) hx hb dX4_readSequence_1 (by decide) (rfl) (fun c_1 => absurd c_1 (by subst hj1; omega)) (fun c_1 => ?_)
  refine lv_iload_n hx hb dX4_readSequence_4 rfl (lv_at hl 1 rfl) ?_
  refine lv_iconst (v := 5) hx hb dX4_readSequence_5 (by decide) ?_
  refine a_icmp_le (u := x.toInt) (v := 5) (tgt := 15) hx hb dX4_readSequence_6 (by decide) (rfl) (by decide) (fun c_2 => ?_) (fun c_2 => absurd c_2 (by subst hj1; omega))
  refine lv_aload_n hx hb dX4_readSequence_15 rfl (lv_at hl 0 rfl) ?_
  obtain ⟨fa_3, pl_3, fg_3⟩ := op_13 hI (gm_13 hG) (gs_13 hG)
  refine t_get (D := D) (L := L) (f := f) (ci := 4) (v := .ref (g 22)) (C := RX4) (T := TX4) (N := 11) hx hb hts (by decide +kernel) hown hK.1 hP (gm_13 hG) fg_3 rfl 3 (by decide) (hts (.fieldLink RX4 13 "JugglingHall$Reader" "levels" "[LJugglingHall$Row;") (by decide +kernel)) (fun _ h9 => h9) rfl dX4_readSequence_16 ?_
  refine lv_iload_n hx hb dX4_readSequence_19 rfl (lv_at hl 1 rfl) ?_
  obtain ⟨c_4, fg_4, iv0_4⟩ := op_22 hI (gm_22 hG) (gs_22 hG)
  refine t_aald (L := L) (f := f) (y := c_4) (u := x.toInt) hx hb hK.1 hP (gm_22 hG) 1 fg_4 rfl dX4_readSequence_20 (rfl) (by subst hj1; omega) (fun w_5 q_5 => ?_)
  obtain ⟨r_5, p_5, n_5, er_5, m_5, s_5⟩ := iv0_4 x.toInt (by subst hj1; omega) (by subst hj1; omega)
  have q_5 := q_5.trans er_5
  subst q_5
  refine W.eq (g2 := F0 m 21 ls [.ref r_5]) rfl ?_
  have hh_5 : r_5 = lv x.toInt.toNat := LvC_at (l := x.toInt) hLv fg_4 (by subst hj1; omega) (by subst hj1; omega) (by rw [show x.toInt = x.toInt by omega]; exact er_5)
  have hN_5 := cap_of (S := S) (a := r_5) (k := 48) (by rw [hh_5]; exact (hRD.2.1 _ (by subst hj1; omega)).1) s_5
  obtain ⟨len_6, fg_6, v1_6, v2_6, v3_6, mp_6, sp_6⟩ := op_0 hI m_5 s_5
  obtain ⟨w1_6, w2_6, w3_6, w4_6, w5_6⟩ := lenw hj v1_6 v2_6 v3_6
  obtain ⟨c_7, fg_7, iv0_7⟩ := op_1 hI mp_6 sp_6
  refine lv_astore_n (lv' := [(2, .ref r_5), (0, .ref (g 13)), (1, .int x)]) hx hb dX4_readSequence_21 rfl hl (by decide) rfl (fun ls hl => ?_)
  refine lv_aload_n hx hb dX4_readSequence_22 rfl (lv_at hl 0 rfl) ?_
  refine lv_iconst (v := 0) hx hb dX4_readSequence_23 (by decide) ?_
  have hz_9 : (0 : Int32).toInt = 0 := by decide
  refine t_putN (D := D) (L := L) (f := f) (ci := 5) (v := .int 0) (ty := .int) (C := RX5) (T := TX5) (N := 4) (host := "JugglingHall") hx hb hts (by decide +kernel) tyX5 tyX5_ok nmX5 hown hK.1 hP hD hS m_5 fg_6 rfl 3 (by decide) (hK.nw (.fieldLinkNest RX4 62 "JugglingHall$Row" "length" "I" "JugglingHall") (by decide +kernel) rfl) (fun _ h9 => h9) rfl (by decide +kernel) rfl rfl (Nat.le_of_ble_eq_true rfl) dX4_readSequence_24 (fun f_8 H locs e9_8 o_8 hP hD hS => ?_)
  have fa_8 : f_8 r_5 = .inr (5, [.int (nI jn), .int (nI (2 * jn)), .ref p_5, .int 0]) := e9_8
  have hI := IN_set (e := .inr (5, [.int (nI jn), .int (nI (2 * jn)), .ref p_5, .int 0])) hI s_5 (mk_0 (by first | assumption | omega | (subst hj1; omega)) (by rw [show (0 : Int32).toInt = 0 from rfl, Int.zero_mul]; omega) (by first | assumption | omega | (subst hj1; omega)) (by first | assumption | omega | (subst hj1; omega)) (by first | assumption | omega | (subst hj1; omega))) fa_8 o_8
  have hF := FR_set hF s_5 (show (0 : Nat) ∈ ([0, 1, 13, 14, 34] : List Nat) by decide) o_8
  have hFX := FX_set0 hFX s_5 (Or.inl ⟨x.toInt.toNat, Nat.le_refl _, by omega, hh_5⟩) o_8
  have fb_10 : f_8 (g 13) = .inr (4, [.int (nI jn), .ref (g 14), .ref (g 12), .ref (g 22), .ref (g 34), .ref (g 23), .ref (g 24), .ref (g 25), .ref (g 26), .int fa_3, .int pl_3]) := f_at o_8 (S_ne (gs_13 hG) s_5 (show (13 : Nat) ≠ 0 by decide)) fg_3
  have fb_11 : f_8 (g 22) = .inl (cR, 6, .inr (.inr (.inr (.inr c_4)))) := f_at o_8 (S_ne (gs_22 hG) s_5 (show (22 : Nat) ≠ 0 by decide)) fg_4
  have fb_12 : f_8 p_5 = .inl (cI, n_5, .inl c_7) := f_at o_8 (S_ne sp_6 s_5 (show (1 : Nat) ≠ 0 by decide)) fg_7
  have hC1 : TKm cI g ks vs f_8 i := TKm_o hC hG s_5 (show (0 : Nat) ∉ ([14, 31, 32] : List Nat) by decide) o_8
  have hLv1 := LvC_fr hLv hG hF (by decide)
  have hEC1 := EnvC_fx hEC hG hF hFX (by decide) (by decide) (nb_gr hRD) nb_nr
  have htl1 : ∀ k9 v9 : Int, 0 ≤ k9 → k9 < x.toInt → TNf cI g f k9 v9 → TNf cI g f_8 k9 v9 := fun k9 v9 _ _ h9 => TN_o hG s_5 (show (0 : Nat) ≠ 34 by decide) o_8 k9 v9 h9
  have hM1 : MSt cI jn g lv S f_8 x.toInt top w st op dg := ⟨MSb_fx hMS hFX (by decide) (nb_lv hRD (by subst hj1; omega)) htl1 (fun _ _ _ => rfl) (by subst hj1; omega) hMS.2.2.2.2, by omega, RWf_e (b := r_5) ⟨_, _, _, _, s_5, sp_6, fa_8, fb_12, by rw [show (0 : Int32).toInt = 0 from rfl]; omega, fun i9 h8 h9 => absurd h9 (by subst hj1; omega)⟩ hh_5.symm⟩
  refine lv_iconst (v := 0) hx hb dX4_readSequence_27 (by decide) ?_
  refine lv_istore_n (lv' := [(3, .int 0), (2, .ref r_5), (0, .ref (g 13)), (1, .int x)]) hx hb dX4_readSequence_28 rfl hl (by decide) rfl (fun ls hl => ?_)
  have loop29 : ∀ (ddloop29 : Nat) (ii : Int32) (f_13 : Nat → va_E) (H : Heap) (locs : List Loc) (ls : Array Slot), (400 - ii.toInt).toNat < ddloop29 → IN jn cI cR cM g L S f_13 → FR S [0, 1, 13, 14, 34] f f_13 → (0 ≤ ii.toInt ∧ ii.toInt ≤ 301) → (Hd (∃ (i2 : Nat) (top2 one2 may2 isO2 : Int) (w2 st2 op2 dg2 : Int → Int), SeqI cI jn g lv S f_13 ks vs E i x.toInt top one w st op dg st1 op1 dg1 ii.toInt i2 top2 one2 may2 isO2 w2 st2 op2 dg2)) → (LvC cR g lv f_13) → (EnvC cI cR jn g lv gr S f_13 E F) → (∀ k9 v9 : Int, 0 ≤ k9 → k9 < x.toInt → TNf cI g f k9 v9 → TNf cI g f_13 k9 v9) → (FX S (BXp g lv x.toInt) [13, 14, 34] f f_13) → va_P D vwCl (va_pl L f_13) H → va_D A (va_pl L f_13) → va_S A s.heap H locs → lv_has ls 5 [(0, .ref (g 13)), (1, .int x), (2, .ref r_5), (3, .int ii)] → W p l e ({ frames := 12, cells := 0, slots := 0, locals := 317 }) s m args below meth c H locs (0) (0) Q (F0 m 29 ls []) := by
    intro ddloop29
    induction ddloop29 with
    | zero =>
      intro ii f_13 H locs ls hdd
      exact absurd hdd (Nat.not_lt_zero _)
    | succ ddloop29 ih29 =>
      intro ii f_13 H locs ls hdd hI hF hi hSI hLvl hECl htl hFX hP hD hS hl
      obtain ⟨i2, top2, one2, may2, isO2, w2, st2, op2, dg2, j1, j2, j3, j4, j5, j6, j7, j8, j9⟩ := hSI
      have hst0 := (hMS.2.1 x.toInt (by subst hj1; omega) (Int.le_refl _)).1
      have htl0 := j3.1.2.2.2.1
      refine lv_iload_n hx hb dX4_readSequence_29 rfl (lv_at hl 3 rfl) ?_
      refine lv_sipush (v := 300) hx hb dX4_readSequence_30 (by decide) ?_
      refine a_icmp_gt (u := ii.toInt) (v := 300) (tgt := 79) hx hb dX4_readSequence_33 (by decide) (rfl) (by decide) (fun c_14 => ?_) (fun c_14 => ?_)
      · refine lv_iconst (v := 1) hx hb dX4_readSequence_79 (by decide) ?_
        have hz_15 : (1 : Int32).toInt = 1 := by decide
        exact g_zret ((1 : Int32), f_13) hx hb hr hlocks hS (by first | exact Or.inl rfl | exact Or.inr rfl) rfl (⟨hI, hF, show Hd (((1 : Int32).toInt = 1 ∧ SeqR cI jn g lv S f_13 ks vs E i x.toInt top one w st op dg st1 op1 dg1) ∨ ((1 : Int32).toInt = 0 ∧ Fls ks vs E (i, x.toInt, top, one, 0, 0, w, st1, op1, dg1))) from (by
          obtain ⟨e1, e2, e3, e4⟩ := j8.resolve_left (fun q9 => by have := q9.1; omega)
          rw [e2] at j1
          exact Or.inl ⟨rfl, ii.toInt, i2, top2, one2, may2, w2, st2, op2, dg2, ⟨j1, j2, j3, j4, j5, j6, j7, Or.inr ⟨e1, rfl, e3, e4⟩, j9⟩, e1, by have := TKm_end j2 (by subst hj1; omega); omega⟩), show ∀ k9 v9 : Int, 0 ≤ k9 → k9 < x.toInt → TNf cI g f k9 v9 → TNf cI g f_13 k9 v9 from (htl), show FX S (BXp g lv x.toInt) [13, 14, 34] f f_13 from (by first | assumption | omega | (subst hj1; omega)), show (1 : Int32).toInt = 0 ∨ (1 : Int32).toInt = 1 from (by first | assumption | omega | (subst hj1; omega))⟩) hP hD hQ (Nat.le_of_ble_eq_true rfl) (Nat.le_of_ble_eq_true rfl) dX4_readSequence_80
      · refine lv_iload_n hx hb dX4_readSequence_36 rfl (lv_at hl 3 rfl) ?_
        refine a_if_eq (u := ii.toInt) (tgt := 47) hx hb dX4_readSequence_37 (by decide) (rfl) (fun c_16 => ?_) (fun c_16 => ?_)
        · refine lv_aload_n hx hb dX4_readSequence_47 rfl (lv_at hl 2 rfl) ?_
          have hRl := RWf_e j3.2.2 hh_5
          obtain ⟨len_17, fg_17, v1_17, v2_17, v3_17, mp_17, sp_17⟩ := op_0 hI m_5 s_5
          obtain ⟨w1_17, w2_17, w3_17, w4_17, w5_17⟩ := lenw hj v1_17 v2_17 v3_17
          obtain ⟨c_18, fg_18, iv0_18⟩ := op_1 hI mp_6 sp_6
          obtain ⟨hl_19, hc_19⟩ := RWf_at hRl s_5 fg_17 fg_18
          refine t_getN (D := D) (L := L) (f := f_13) (ci := 5) (v := .int len_17) (C := RX5) (T := TX5) (N := 4) (host := "JugglingHall") hx hb hts (by decide +kernel) hown hK.1 hP m_5 fg_17 rfl 3 (by decide) (hK.nw (.fieldLinkNest RX4 62 "JugglingHall$Row" "length" "I" "JugglingHall") (by decide +kernel) rfl) (fun _ h9 => h9) rfl dX4_readSequence_48 ?_
          refine lv_istore (lv' := [(4, .int len_17), (0, .ref (g 13)), (1, .int x), (2, .ref r_5), (3, .int ii)]) hx hb dX4_readSequence_51 hl (by decide) rfl (fun ls hl => ?_)
          refine lv_aload_n hx hb dX4_readSequence_53 rfl (lv_at hl 1 rfl) ?_
          refine lv_iload_n hx hb dX4_readSequence_54 rfl (lv_at hl 2 rfl) ?_
          obtain ⟨fa_20, pl_20, fg_20⟩ := op_13 hI (gm_13 hG) (gs_13 hG)
          refine call_p (va_runV (As := [.int x]) (rest := []) ⟨hx, hb, hml, hown, hts⟩ (t_X4_readOnem_5 l D cI cR cM _ (i := i2) (top := top2) (one := one2) (may := may2) (isO := isO2) (w := w2) (st := st) (op := op) (dg := dg) (st1 := st2) (op1 := op2) (dg1 := dg2) (lv := lv) (gr := gr) (E := E) (F := F) (ks := ks) (vs := vs)  hj hG hI  (by first | assumption | omega | (subst hj1; omega)) (j2) (by first | assumption | omega | (subst hj1; omega)) (by first | assumption | omega | (subst hj1; omega)) (hLvl) (hECl) (by first | assumption | omega | (subst hj1; omega)) (by first | assumption | omega | (subst hj1; omega)) (by first | assumption | omega | (subst hj1; omega)) (j3) (j4) (j5) (j7) (Or.inl (j8.elim (fun q9 => ⟨q9.2.1, q9.2.2.1⟩) (fun q9 => by have := q9.1; omega)))) (cwV 1 hts gX4_readSequence_X4_readOne rfl rfl rfl (by decide +kernel) ⟨Nat.le_of_ble_eq_true rfl, Nat.le_of_ble_eq_true rfl⟩) (pre_T hK hP hD (gm_13 hG) fg_20 rfl) rfl rfl hl.1 rfl (lv_room (Nat.le_of_ble_eq_true rfl)) dX4_readSequence_55 ⟨Nat.le_of_ble_eq_true rfl, Nat.le_of_ble_eq_true rfl⟩) hD hS hA (fun u_21 H locs hw hP hD hS => ?_)
          obtain ⟨r_21, f_21⟩ := u_21
          obtain ⟨hI, hF_21, hp_21, htn_21, hfx_21, h01_21⟩ : IN jn cI cR cM g L S f_21 ∧ FR S [0, 1, 13, 14, 34] f_13 f_21 ∧ (Hd ((r_21.toInt = 1 ∧ OneR cI jn g lv S f_21 ks vs E i2 x.toInt top2 one2 may2 isO2 w2 st op dg st2 op2 dg2) ∨ (r_21.toInt = 0 ∧ Fls ks vs E (i2, x.toInt, top2, one2, may2, isO2, w2, st2, op2, dg2)))) ∧ (∀ k9 v9 : Int, 0 ≤ k9 → k9 < x.toInt → TNf cI g f_13 k9 v9 → TNf cI g f_21 k9 v9) ∧ (FX S (BXp g lv x.toInt) [13, 14, 34] f_13 f_21) ∧ (r_21.toInt = 0 ∨ r_21.toInt = 1) := hw
          have hP : va_P D vwCl (va_pl L f_21) H := hP
          have hD : va_D A (va_pl L f_21) := hD
          have hF := FR_tr hF hF_21 (by decide)
          have hFX := FX_tr hFX hfx_21 (fun _ h9 => h9) (by decide)
          refine a_if_eq (u := r_21.toInt) (tgt := 71) hx hb dX4_readSequence_58 (by decide) (rfl) (fun c_22 => ?_) (fun c_22 => ?_)
          · refine lv_iconst (v := 0) hx hb dX4_readSequence_71 (by decide) ?_
            have hz_23 : (0 : Int32).toInt = 0 := by decide
            exact g_zret ((0 : Int32), f_21) hx hb hr hlocks hS (by first | exact Or.inl rfl | exact Or.inr rfl) rfl (⟨hI, hF, show Hd (((0 : Int32).toInt = 1 ∧ SeqR cI jn g lv S f_21 ks vs E i x.toInt top one w st op dg st1 op1 dg1) ∨ ((0 : Int32).toInt = 0 ∧ Fls ks vs E (i, x.toInt, top, one, 0, 0, w, st1, op1, dg1))) from (Or.inr ⟨rfl, Fls_tr j1 (hp_21.resolve_left (fun q9 => by have := q9.1; omega)).2⟩), show ∀ k9 v9 : Int, 0 ≤ k9 → k9 < x.toInt → TNf cI g f k9 v9 → TNf cI g f_21 k9 v9 from (fun k9 v9 h7 h8 h9 => htn_21 k9 v9 h7 h8 (htl k9 v9 h7 h8 h9)), show FX S (BXp g lv x.toInt) [13, 14, 34] f f_21 from (by first | assumption | omega | (subst hj1; omega)), show (0 : Int32).toInt = 0 ∨ (0 : Int32).toInt = 1 from (by first | assumption | omega | (subst hj1; omega))⟩) hP hD hQ (Nat.le_of_ble_eq_true rfl) (Nat.le_of_ble_eq_true rfl) dX4_readSequence_72
          · obtain ⟨-, i3_, top3_, w3_, st3_, op3_, dg3_, j1_, j2_, j3_, j4_, j5_, j6_, j7_, j8_⟩ := hp_21.resolve_right (fun q9 => by have := q9.1; omega)
            have hLv2 := LvC_fr hLvl hG hF_21 (by decide)
            have hEC2 := EnvC_fx hECl hG hF_21 hfx_21 (by decide) (by decide) (nb_gr hRD) nb_nr
            have htl2 := j5_.1.2.2.2.1
            refine lv_aload_n hx hb dX4_readSequence_61 rfl (lv_at hl 1 rfl) ?_
            refine lv_aload_n hx hb dX4_readSequence_62 rfl (lv_at hl 3 rfl) ?_
            refine lv_iload hx hb dX4_readSequence_63 (lv_at hl 0 rfl) ?_
            have hRo := RWf_e j5_.2.2 hh_5
            have hlf : len_17.toInt = top2 - st x.toInt := hl_19
            obtain ⟨len_24, fg_24, v1_24, v2_24, v3_24, mp_24, sp_24⟩ := op_0 hI m_5 s_5
            obtain ⟨w1_24, w2_24, w3_24, w4_24, w5_24⟩ := lenw hj v1_24 v2_24 v3_24
            obtain ⟨c_25, fg_25, iv0_25⟩ := op_1 hI mp_6 sp_6
            obtain ⟨hl_26, hc_26⟩ := RWf_at hRo s_5 fg_24 fg_25
            obtain ⟨fa_27, pl_27, fg_27⟩ := op_13 hI (gm_13 hG) (gs_13 hG)
            refine call_p (va_runV (As := [.ref r_5, .int len_17]) (rest := []) ⟨hx, hb, hml, hown, hts⟩ (t_X4_readTimesm l D cI cR cM _ (ks := ks) (vs := vs) (i := i3_) (w := (fun j => w3_ (2 * st x.toInt + j)))  hj hG hI m_5 s_5 fg_24 fg_25 (by first | assumption | omega | (subst hj1; omega)) (j4_) (by first | assumption | omega | (subst hj1; omega)) (by subst hj1; omega) (by rw [hl_26]; exact hc_26)) (cwV 2 hts gX4_readSequence_X4_readTimes rfl rfl rfl (by decide +kernel) ⟨Nat.le_of_ble_eq_true rfl, Nat.le_of_ble_eq_true rfl⟩) (pre_T hK hP hD (gm_13 hG) fg_27 rfl) rfl rfl hl.1 rfl (lv_room (Nat.le_of_ble_eq_true rfl)) dX4_readSequence_65 ⟨Nat.le_of_ble_eq_true rfl, Nat.le_of_ble_eq_true rfl⟩) hD hS hA (fun u_28 H locs hw hP hD hS => ?_)
            obtain ⟨r_28, f_28⟩ := u_28
            obtain ⟨hI, hF_28, hp_28, hfx_28, h01_28⟩ : IN jn cI cR cM g L S f_28 ∧ FR S [0, 1, 13, 14] f_21 f_28 ∧ ((r_28.toInt = 1 ∧ ((ks i3_ ≠ 42 ∧ TKm cI g ks vs f_28 i3_ ∧ RWf cI jn S f_28 r_5 len_24.toInt (fun j => w3_ (2 * st x.toInt + j))) ∨ (ks i3_ = 42 ∧ ks (i3_ + 1) = 1 ∧ vs (i3_ + 1) ≠ 0 ∧ TKm cI g ks vs f_28 (i3_ + 1 + 1) ∧ 2 * (len_24.toInt + (vs (i3_ + 1) - 1) * (len_24.toInt - len_17.toInt)) ≤ (n_5 : Int) ∧ RWf cI jn S f_28 r_5 (len_24.toInt + (vs (i3_ + 1) - 1) * (len_24.toInt - len_17.toInt)) (tmW (fun j => w3_ (2 * st x.toInt + j)) len_24.toInt len_17.toInt)))) ∨ (r_28.toInt = 0 ∧ ks i3_ = 42 ∧ ¬ (ks (i3_ + 1) = 1 ∧ vs (i3_ + 1) ≠ 0 ∧ 2 * (len_24.toInt + (vs (i3_ + 1) - 1) * (len_24.toInt - len_17.toInt)) ≤ (n_5 : Int)))) ∧ (FX S (fun a9 => a9 = r_5) [13, 14] f_21 f_28) ∧ (r_28.toInt = 0 ∨ r_28.toInt = 1) := hw
            have hP : va_P D vwCl (va_pl L f_28) H := hP
            have hD : va_D A (va_pl L f_28) := hD
            have hF := FR_tr hF hF_28 (by decide)
            have hFX := FX_tr hFX hfx_28 (fun a9 h9 => Or.inl ⟨x.toInt.toNat, Nat.le_refl _, by omega, h9.trans hh_5⟩) (by decide)
            refine a_if_ne (u := r_28.toInt) (tgt := 73) hx hb dX4_readSequence_68 (by decide) (rfl) (fun c_29 => ?_) (fun c_29 => ?_)
            · obtain ⟨z_30, q_30, e_30⟩ := i_inc (a := ii.toInt) (1) (rfl) (by decide) (by subst hj1; omega) (by subst hj1; omega)
              refine lv_iinc (v := z_30) (lv' := [(3, .int z_30), (4, .int len_17), (0, .ref (g 13)), (1, .int x), (2, .ref r_5)]) hx hb dX4_readSequence_73 hl (k := 4) rfl q_30 (by decide) rfl (fun ls hl => ?_)
              refine lv_goto (tgt := 29) hx hb dX4_readSequence_76 (by decide) ?_
              exact ih29 z_30 f_28 _ _ _ (by subst hj1; omega) hI hF (by first | assumption | omega | (subst hj1; omega)) (by
                rw [hl_26] at hp_28
                rw [hlf] at hp_28
                obtain ⟨-, h9⟩ := hp_28.resolve_right (fun q9 => by have := q9.1; omega)
                rcases h9 with ⟨h1, h2, h3⟩ | ⟨h1, h2, h3, h4, h5, h6⟩
                · exact ⟨i3_, top3_, top2, 1, 1, w3_, st3_, op3_, dg3_, Go_tr j1 j1_, h2, ⟨MSb_rf j5_.1 hfx_28 (by decide) (fun k9 h8 h7 q9 => (hRD.2.2.2.2.1 k9.toNat x.toInt.toNat (by subst hj1; omega) (by subst hj1; omega) (by subst hj1; omega)) (q9.trans hh_5)) (fun k9 v9 _ _ h9 => TN_fr hG hF_28 (by decide) k9 v9 h9), j5_.2.1, RWf_e h3 hh_5.symm⟩, j6_, j7_, fun j9 h8 h9 => by rw [j8_ j9 h8 h9]; exact j6 j9 h8 h9, fun q9 => h1 q9.2, Or.inr ⟨by omega, rfl, by omega, by omega⟩, by omega⟩
                · rw [show top3_ - st x.toInt - (top2 - st x.toInt) = top3_ - top2 by omega] at h5 h6
                  have h6 := RWf_e h6 hh_5.symm
                  obtain ⟨q1, q2, q3⟩ := L_times (E := E) (i := i3_) (one := top2) (isO := 1) (op1 := op3_) (dg1 := dg3_) (may := 1) j5_ (fun top9 w9 q1 q2 q3 => MSb_fx j5_.1 hfx_28 (by decide) (fun k9 h8 h7 q9 => (hRD.2.2.2.2.1 k9.toNat x.toInt.toNat (by subst hj1; omega) (by subst hj1; omega) (by subst hj1; omega)) (q9.trans hh_5)) (fun k9 v9 _ _ h9 => TN_fr hG hF_28 (by decide) k9 v9 h9) q1 q2 q3) rfl (j6_ _ (by subst hj1; omega) (Int.le_refl _)) h1 h2 h3 (by have := (hKO (i3_ + 1)).2.1 h2; omega) (by subst hj1; omega) (by subst hj1; omega) h6
                  have hm0 : 0 ≤ (vs (i3_ + 1) - 1) * (top3_ - top2) := Int.mul_nonneg (by have := (hKO (i3_ + 1)).2.1 h2; omega) (by subst hj1; omega)
                  exact ⟨i3_ + 2, _, top2, 0, 1, _, st3_, op3_, dg3_, Go_tr j1 (Go_tr j1_ (Go_1 q1)), h4, q2, j6_, j7_, fun j9 h8 h9 => (q3 j9 h8 h9).trans ((j8_ j9 h8 h9).trans (j6 j9 h8 h9)), fun q9 => absurd q9.1 (by decide), Or.inr ⟨by omega, rfl, by omega, by omega⟩, by omega⟩) (LvC_fr hLv2 hG hF_28 (by decide)) (EnvC_fx hEC2 hG hF_28 hfx_28 (by decide) (by decide) (fun k9 h9 q9 => hRD.2.2.2.1 x.toInt.toNat k9 (by subst hj1; omega) h9 (hh_5.symm.trans q9.symm)) (fun r9 h9 q9 => h9 (Or.inl ⟨x.toInt.toNat, by omega, q9.trans hh_5⟩))) (fun k9 v9 h7 h8 h9 => TN_fr hG hF_28 (by decide) k9 v9 (htn_21 k9 v9 h7 h8 (htl k9 v9 h7 h8 h9))) (by first | assumption | omega | (subst hj1; omega)) hP hD hS (lv_sub hl [2, 3, 4, 0] rfl)
            · refine lv_iconst (v := 0) hx hb dX4_readSequence_71 (by decide) ?_
              have hz_31 : (0 : Int32).toInt = 0 := by decide
              exact g_zret ((0 : Int32), f_28) hx hb hr hlocks hS (by first | exact Or.inl rfl | exact Or.inr rfl) rfl (⟨hI, hF, show Hd (((0 : Int32).toInt = 1 ∧ SeqR cI jn g lv S f_28 ks vs E i x.toInt top one w st op dg st1 op1 dg1) ∨ ((0 : Int32).toInt = 0 ∧ Fls ks vs E (i, x.toInt, top, one, 0, 0, w, st1, op1, dg1))) from (by
                rw [hl_26] at hp_28
                rw [hlf] at hp_28
                obtain ⟨-, h1, h2⟩ := hp_28.resolve_left (fun q9 => by have := q9.1; omega)
                refine Or.inr ⟨rfl, Fls_tr (Go_tr j1 j1_) (Fls_0 (F_times rfl h1 ?_))⟩
                rw [j6_ _ (by subst hj1; omega) (Int.le_refl _)]
                rw [show top3_ - st x.toInt - (top2 - st x.toInt) = top3_ - top2 by omega] at h2
                exact fun q9 => h2 ⟨q9.1, q9.2.1, by have := q9.2.2; omega⟩), show ∀ k9 v9 : Int, 0 ≤ k9 → k9 < x.toInt → TNf cI g f k9 v9 → TNf cI g f_28 k9 v9 from (fun k9 v9 h7 h8 h9 => TN_fr hG hF_28 (by decide) k9 v9 (htn_21 k9 v9 h7 h8 (htl k9 v9 h7 h8 h9))), show FX S (BXp g lv x.toInt) [13, 14, 34] f f_28 from (by first | assumption | omega | (subst hj1; omega)), show (0 : Int32).toInt = 0 ∨ (0 : Int32).toInt = 1 from (by first | assumption | omega | (subst hj1; omega))⟩) hP hD hQ (Nat.le_of_ble_eq_true rfl) (Nat.le_of_ble_eq_true rfl) dX4_readSequence_72
        · refine lv_aload_n hx hb dX4_readSequence_40 rfl (lv_at hl 0 rfl) ?_
          obtain ⟨fa_32, pl_32, fg_32⟩ := op_13 hI (gm_13 hG) (gs_13 hG)
          refine roP (va_runV (As := []) (rest := []) ⟨hx, hb, hml, hown, hts⟩ (t_X4_beginsOnem l D cI cR cM _ (ks := ks) (vs := vs) (i := i2)  hj hG hI  (by first | assumption | omega | (subst hj1; omega)) (j2) (by first | assumption | omega | (subst hj1; omega))) (cwV 0 hts gX4_readSequence_X4_beginsOne rfl rfl rfl (by decide +kernel) ⟨Nat.le_of_ble_eq_true rfl, Nat.le_of_ble_eq_true rfl⟩) (pre_T hK hP hD (gm_13 hG) fg_32 rfl) rfl rfl hl.1 rfl (lv_room (Nat.le_of_ble_eq_true rfl)) dX4_readSequence_41 ⟨Nat.le_of_ble_eq_true rfl, Nat.le_of_ble_eq_true rfl⟩) hS hA hP (fun r_33 H locs hw hP hS => ?_)
          obtain ⟨hp_33, h01_33⟩ : ((r_33.toInt = 1 ∧ (ks i2 = 1 ∨ ks i2 = 2 ∨ ks i2 = 91 ∨ ks i2 = 40 ∨ (7 ≤ ks i2 ∧ ks i2 ≤ 10))) ∨ (r_33.toInt = 0 ∧ ¬ (ks i2 = 1 ∨ ks i2 = 2 ∨ ks i2 = 91 ∨ ks i2 = 40 ∨ (7 ≤ ks i2 ∧ ks i2 ≤ 10)))) ∧ (r_33.toInt = 0 ∨ r_33.toInt = 1) := hw
          refine a_if_eq (u := r_33.toInt) (tgt := 79) hx hb dX4_readSequence_44 (by decide) (rfl) (fun c_34 => ?_) (fun c_34 => ?_)
          · refine lv_iconst (v := 1) hx hb dX4_readSequence_79 (by decide) ?_
            have hz_35 : (1 : Int32).toInt = 1 := by decide
            exact g_zret ((1 : Int32), f_13) hx hb hr hlocks hS (by first | exact Or.inl rfl | exact Or.inr rfl) rfl (⟨hI, hF, show Hd (((1 : Int32).toInt = 1 ∧ SeqR cI jn g lv S f_13 ks vs E i x.toInt top one w st op dg st1 op1 dg1) ∨ ((1 : Int32).toInt = 0 ∧ Fls ks vs E (i, x.toInt, top, one, 0, 0, w, st1, op1, dg1))) from (by
              obtain ⟨e1, e2, e3, e4⟩ := j8.resolve_left (fun q9 => by have := q9.1; omega)
              rw [e2] at j1
              exact Or.inl ⟨rfl, ii.toInt, i2, top2, one2, may2, w2, st2, op2, dg2, ⟨j1, j2, j3, j4, j5, j6, j7, Or.inr ⟨e1, rfl, e3, e4⟩, j9⟩, e1, (hp_33.resolve_left (fun q9 => by have := q9.1; omega)).2⟩), show ∀ k9 v9 : Int, 0 ≤ k9 → k9 < x.toInt → TNf cI g f k9 v9 → TNf cI g f_13 k9 v9 from (htl), show FX S (BXp g lv x.toInt) [13, 14, 34] f f_13 from (by first | assumption | omega | (subst hj1; omega)), show (1 : Int32).toInt = 0 ∨ (1 : Int32).toInt = 1 from (by first | assumption | omega | (subst hj1; omega))⟩) hP hD hQ (Nat.le_of_ble_eq_true rfl) (Nat.le_of_ble_eq_true rfl) dX4_readSequence_80
          · refine lv_aload_n hx hb dX4_readSequence_47 rfl (lv_at hl 2 rfl) ?_
            have hRl := RWf_e j3.2.2 hh_5
            obtain ⟨len_36, fg_36, v1_36, v2_36, v3_36, mp_36, sp_36⟩ := op_0 hI m_5 s_5
            obtain ⟨w1_36, w2_36, w3_36, w4_36, w5_36⟩ := lenw hj v1_36 v2_36 v3_36
            obtain ⟨c_37, fg_37, iv0_37⟩ := op_1 hI mp_6 sp_6
            obtain ⟨hl_38, hc_38⟩ := RWf_at hRl s_5 fg_36 fg_37
            refine t_getN (D := D) (L := L) (f := f_13) (ci := 5) (v := .int len_36) (C := RX5) (T := TX5) (N := 4) (host := "JugglingHall") hx hb hts (by decide +kernel) hown hK.1 hP m_5 fg_36 rfl 3 (by decide) (hK.nw (.fieldLinkNest RX4 62 "JugglingHall$Row" "length" "I" "JugglingHall") (by decide +kernel) rfl) (fun _ h9 => h9) rfl dX4_readSequence_48 ?_
            refine lv_istore (lv' := [(4, .int len_36), (0, .ref (g 13)), (1, .int x), (2, .ref r_5), (3, .int ii)]) hx hb dX4_readSequence_51 hl (by decide) rfl (fun ls hl => ?_)
            refine lv_aload_n hx hb dX4_readSequence_53 rfl (lv_at hl 1 rfl) ?_
            refine lv_iload_n hx hb dX4_readSequence_54 rfl (lv_at hl 2 rfl) ?_
            refine call_p (va_runV (As := [.int x]) (rest := []) ⟨hx, hb, hml, hown, hts⟩ (t_X4_readOnem_5 l D cI cR cM _ (i := i2) (top := top2) (one := one2) (may := may2) (isO := isO2) (w := w2) (st := st) (op := op) (dg := dg) (st1 := st2) (op1 := op2) (dg1 := dg2) (lv := lv) (gr := gr) (E := E) (F := F) (ks := ks) (vs := vs)  hj hG hI  (by first | assumption | omega | (subst hj1; omega)) (j2) (by first | assumption | omega | (subst hj1; omega)) (by first | assumption | omega | (subst hj1; omega)) (hLvl) (hECl) (by first | assumption | omega | (subst hj1; omega)) (by first | assumption | omega | (subst hj1; omega)) (by first | assumption | omega | (subst hj1; omega)) (j3) (j4) (j5) (j7) (Or.inr (hp_33.resolve_right (fun q9 => by have := q9.1; omega)).2)) (cwV 1 hts gX4_readSequence_X4_readOne rfl rfl rfl (by decide +kernel) ⟨Nat.le_of_ble_eq_true rfl, Nat.le_of_ble_eq_true rfl⟩) (pre_T hK hP hD (gm_13 hG) fg_32 rfl) rfl rfl hl.1 rfl (lv_room (Nat.le_of_ble_eq_true rfl)) dX4_readSequence_55 ⟨Nat.le_of_ble_eq_true rfl, Nat.le_of_ble_eq_true rfl⟩) hD hS hA (fun u_39 H locs hw hP hD hS => ?_)
            obtain ⟨r_39, f_39⟩ := u_39
            obtain ⟨hI, hF_39, hp_39, htn_39, hfx_39, h01_39⟩ : IN jn cI cR cM g L S f_39 ∧ FR S [0, 1, 13, 14, 34] f_13 f_39 ∧ (Hd ((r_39.toInt = 1 ∧ OneR cI jn g lv S f_39 ks vs E i2 x.toInt top2 one2 may2 isO2 w2 st op dg st2 op2 dg2) ∨ (r_39.toInt = 0 ∧ Fls ks vs E (i2, x.toInt, top2, one2, may2, isO2, w2, st2, op2, dg2)))) ∧ (∀ k9 v9 : Int, 0 ≤ k9 → k9 < x.toInt → TNf cI g f_13 k9 v9 → TNf cI g f_39 k9 v9) ∧ (FX S (BXp g lv x.toInt) [13, 14, 34] f_13 f_39) ∧ (r_39.toInt = 0 ∨ r_39.toInt = 1) := hw
            have hP : va_P D vwCl (va_pl L f_39) H := hP
            have hD : va_D A (va_pl L f_39) := hD
            have hF := FR_tr hF hF_39 (by decide)
            have hFX := FX_tr hFX hfx_39 (fun _ h9 => h9) (by decide)
            refine a_if_eq (u := r_39.toInt) (tgt := 71) hx hb dX4_readSequence_58 (by decide) (rfl) (fun c_40 => ?_) (fun c_40 => ?_)
            · refine lv_iconst (v := 0) hx hb dX4_readSequence_71 (by decide) ?_
              have hz_41 : (0 : Int32).toInt = 0 := by decide
              exact g_zret ((0 : Int32), f_39) hx hb hr hlocks hS (by first | exact Or.inl rfl | exact Or.inr rfl) rfl (⟨hI, hF, show Hd (((0 : Int32).toInt = 1 ∧ SeqR cI jn g lv S f_39 ks vs E i x.toInt top one w st op dg st1 op1 dg1) ∨ ((0 : Int32).toInt = 0 ∧ Fls ks vs E (i, x.toInt, top, one, 0, 0, w, st1, op1, dg1))) from (Or.inr ⟨rfl, Fls_tr j1 (hp_39.resolve_left (fun q9 => by have := q9.1; omega)).2⟩), show ∀ k9 v9 : Int, 0 ≤ k9 → k9 < x.toInt → TNf cI g f k9 v9 → TNf cI g f_39 k9 v9 from (fun k9 v9 h7 h8 h9 => htn_39 k9 v9 h7 h8 (htl k9 v9 h7 h8 h9)), show FX S (BXp g lv x.toInt) [13, 14, 34] f f_39 from (by first | assumption | omega | (subst hj1; omega)), show (0 : Int32).toInt = 0 ∨ (0 : Int32).toInt = 1 from (by first | assumption | omega | (subst hj1; omega))⟩) hP hD hQ (Nat.le_of_ble_eq_true rfl) (Nat.le_of_ble_eq_true rfl) dX4_readSequence_72
            · obtain ⟨-, i3_, top3_, w3_, st3_, op3_, dg3_, j1_, j2_, j3_, j4_, j5_, j6_, j7_, j8_⟩ := hp_39.resolve_right (fun q9 => by have := q9.1; omega)
              have hLv2 := LvC_fr hLvl hG hF_39 (by decide)
              have hEC2 := EnvC_fx hECl hG hF_39 hfx_39 (by decide) (by decide) (nb_gr hRD) nb_nr
              have htl2 := j5_.1.2.2.2.1
              refine lv_aload_n hx hb dX4_readSequence_61 rfl (lv_at hl 1 rfl) ?_
              refine lv_aload_n hx hb dX4_readSequence_62 rfl (lv_at hl 3 rfl) ?_
              refine lv_iload hx hb dX4_readSequence_63 (lv_at hl 0 rfl) ?_
              have hRo := RWf_e j5_.2.2 hh_5
              have hlf : len_36.toInt = top2 - st x.toInt := hl_38
              obtain ⟨len_42, fg_42, v1_42, v2_42, v3_42, mp_42, sp_42⟩ := op_0 hI m_5 s_5
              obtain ⟨w1_42, w2_42, w3_42, w4_42, w5_42⟩ := lenw hj v1_42 v2_42 v3_42
              obtain ⟨c_43, fg_43, iv0_43⟩ := op_1 hI mp_6 sp_6
              obtain ⟨hl_44, hc_44⟩ := RWf_at hRo s_5 fg_42 fg_43
              obtain ⟨fa_45, pl_45, fg_45⟩ := op_13 hI (gm_13 hG) (gs_13 hG)
              refine call_p (va_runV (As := [.ref r_5, .int len_36]) (rest := []) ⟨hx, hb, hml, hown, hts⟩ (t_X4_readTimesm l D cI cR cM _ (ks := ks) (vs := vs) (i := i3_) (w := (fun j => w3_ (2 * st x.toInt + j)))  hj hG hI m_5 s_5 fg_42 fg_43 (by first | assumption | omega | (subst hj1; omega)) (j4_) (by first | assumption | omega | (subst hj1; omega)) (by subst hj1; omega) (by rw [hl_44]; exact hc_44)) (cwV 2 hts gX4_readSequence_X4_readTimes rfl rfl rfl (by decide +kernel) ⟨Nat.le_of_ble_eq_true rfl, Nat.le_of_ble_eq_true rfl⟩) (pre_T hK hP hD (gm_13 hG) fg_45 rfl) rfl rfl hl.1 rfl (lv_room (Nat.le_of_ble_eq_true rfl)) dX4_readSequence_65 ⟨Nat.le_of_ble_eq_true rfl, Nat.le_of_ble_eq_true rfl⟩) hD hS hA (fun u_46 H locs hw hP hD hS => ?_)
              obtain ⟨r_46, f_46⟩ := u_46
              obtain ⟨hI, hF_46, hp_46, hfx_46, h01_46⟩ : IN jn cI cR cM g L S f_46 ∧ FR S [0, 1, 13, 14] f_39 f_46 ∧ ((r_46.toInt = 1 ∧ ((ks i3_ ≠ 42 ∧ TKm cI g ks vs f_46 i3_ ∧ RWf cI jn S f_46 r_5 len_42.toInt (fun j => w3_ (2 * st x.toInt + j))) ∨ (ks i3_ = 42 ∧ ks (i3_ + 1) = 1 ∧ vs (i3_ + 1) ≠ 0 ∧ TKm cI g ks vs f_46 (i3_ + 1 + 1) ∧ 2 * (len_42.toInt + (vs (i3_ + 1) - 1) * (len_42.toInt - len_36.toInt)) ≤ (n_5 : Int) ∧ RWf cI jn S f_46 r_5 (len_42.toInt + (vs (i3_ + 1) - 1) * (len_42.toInt - len_36.toInt)) (tmW (fun j => w3_ (2 * st x.toInt + j)) len_42.toInt len_36.toInt)))) ∨ (r_46.toInt = 0 ∧ ks i3_ = 42 ∧ ¬ (ks (i3_ + 1) = 1 ∧ vs (i3_ + 1) ≠ 0 ∧ 2 * (len_42.toInt + (vs (i3_ + 1) - 1) * (len_42.toInt - len_36.toInt)) ≤ (n_5 : Int)))) ∧ (FX S (fun a9 => a9 = r_5) [13, 14] f_39 f_46) ∧ (r_46.toInt = 0 ∨ r_46.toInt = 1) := hw
              have hP : va_P D vwCl (va_pl L f_46) H := hP
              have hD : va_D A (va_pl L f_46) := hD
              have hF := FR_tr hF hF_46 (by decide)
              have hFX := FX_tr hFX hfx_46 (fun a9 h9 => Or.inl ⟨x.toInt.toNat, Nat.le_refl _, by omega, h9.trans hh_5⟩) (by decide)
              refine a_if_ne (u := r_46.toInt) (tgt := 73) hx hb dX4_readSequence_68 (by decide) (rfl) (fun c_47 => ?_) (fun c_47 => ?_)
              · obtain ⟨z_48, q_48, e_48⟩ := i_inc (a := ii.toInt) (1) (rfl) (by decide) (by subst hj1; omega) (by subst hj1; omega)
                refine lv_iinc (v := z_48) (lv' := [(3, .int z_48), (4, .int len_36), (0, .ref (g 13)), (1, .int x), (2, .ref r_5)]) hx hb dX4_readSequence_73 hl (k := 4) rfl q_48 (by decide) rfl (fun ls hl => ?_)
                refine lv_goto (tgt := 29) hx hb dX4_readSequence_76 (by decide) ?_
                exact ih29 z_48 f_46 _ _ _ (by subst hj1; omega) hI hF (by first | assumption | omega | (subst hj1; omega)) (by
                  rw [hl_44] at hp_46
                  rw [hlf] at hp_46
                  obtain ⟨-, h9⟩ := hp_46.resolve_right (fun q9 => by have := q9.1; omega)
                  rcases h9 with ⟨h1, h2, h3⟩ | ⟨h1, h2, h3, h4, h5, h6⟩
                  · exact ⟨i3_, top3_, top2, 1, 1, w3_, st3_, op3_, dg3_, Go_tr j1 j1_, h2, ⟨MSb_rf j5_.1 hfx_46 (by decide) (fun k9 h8 h7 q9 => (hRD.2.2.2.2.1 k9.toNat x.toInt.toNat (by subst hj1; omega) (by subst hj1; omega) (by subst hj1; omega)) (q9.trans hh_5)) (fun k9 v9 _ _ h9 => TN_fr hG hF_46 (by decide) k9 v9 h9), j5_.2.1, RWf_e h3 hh_5.symm⟩, j6_, j7_, fun j9 h8 h9 => by rw [j8_ j9 h8 h9]; exact j6 j9 h8 h9, fun q9 => h1 q9.2, Or.inr ⟨by omega, rfl, by omega, by omega⟩, by omega⟩
                  · rw [show top3_ - st x.toInt - (top2 - st x.toInt) = top3_ - top2 by omega] at h5 h6
                    have h6 := RWf_e h6 hh_5.symm
                    obtain ⟨q1, q2, q3⟩ := L_times (E := E) (i := i3_) (one := top2) (isO := 1) (op1 := op3_) (dg1 := dg3_) (may := 1) j5_ (fun top9 w9 q1 q2 q3 => MSb_fx j5_.1 hfx_46 (by decide) (fun k9 h8 h7 q9 => (hRD.2.2.2.2.1 k9.toNat x.toInt.toNat (by subst hj1; omega) (by subst hj1; omega) (by subst hj1; omega)) (q9.trans hh_5)) (fun k9 v9 _ _ h9 => TN_fr hG hF_46 (by decide) k9 v9 h9) q1 q2 q3) rfl (j6_ _ (by subst hj1; omega) (Int.le_refl _)) h1 h2 h3 (by have := (hKO (i3_ + 1)).2.1 h2; omega) (by subst hj1; omega) (by subst hj1; omega) h6
                    have hm0 : 0 ≤ (vs (i3_ + 1) - 1) * (top3_ - top2) := Int.mul_nonneg (by have := (hKO (i3_ + 1)).2.1 h2; omega) (by subst hj1; omega)
                    exact ⟨i3_ + 2, _, top2, 0, 1, _, st3_, op3_, dg3_, Go_tr j1 (Go_tr j1_ (Go_1 q1)), h4, q2, j6_, j7_, fun j9 h8 h9 => (q3 j9 h8 h9).trans ((j8_ j9 h8 h9).trans (j6 j9 h8 h9)), fun q9 => absurd q9.1 (by decide), Or.inr ⟨by omega, rfl, by omega, by omega⟩, by omega⟩) (LvC_fr hLv2 hG hF_46 (by decide)) (EnvC_fx hEC2 hG hF_46 hfx_46 (by decide) (by decide) (fun k9 h9 q9 => hRD.2.2.2.1 x.toInt.toNat k9 (by subst hj1; omega) h9 (hh_5.symm.trans q9.symm)) (fun r9 h9 q9 => h9 (Or.inl ⟨x.toInt.toNat, by omega, q9.trans hh_5⟩))) (fun k9 v9 h7 h8 h9 => TN_fr hG hF_46 (by decide) k9 v9 (htn_39 k9 v9 h7 h8 (htl k9 v9 h7 h8 h9))) (by first | assumption | omega | (subst hj1; omega)) hP hD hS (lv_sub hl [2, 3, 4, 0] rfl)
              · refine lv_iconst (v := 0) hx hb dX4_readSequence_71 (by decide) ?_
                have hz_49 : (0 : Int32).toInt = 0 := by decide
                exact g_zret ((0 : Int32), f_46) hx hb hr hlocks hS (by first | exact Or.inl rfl | exact Or.inr rfl) rfl (⟨hI, hF, show Hd (((0 : Int32).toInt = 1 ∧ SeqR cI jn g lv S f_46 ks vs E i x.toInt top one w st op dg st1 op1 dg1) ∨ ((0 : Int32).toInt = 0 ∧ Fls ks vs E (i, x.toInt, top, one, 0, 0, w, st1, op1, dg1))) from (by
                  rw [hl_44] at hp_46
                  rw [hlf] at hp_46
                  obtain ⟨-, h1, h2⟩ := hp_46.resolve_left (fun q9 => by have := q9.1; omega)
                  refine Or.inr ⟨rfl, Fls_tr (Go_tr j1 j1_) (Fls_0 (F_times rfl h1 ?_))⟩
                  rw [j6_ _ (by subst hj1; omega) (Int.le_refl _)]
                  rw [show top3_ - st x.toInt - (top2 - st x.toInt) = top3_ - top2 by omega] at h2
                  exact fun q9 => h2 ⟨q9.1, q9.2.1, by have := q9.2.2; omega⟩), show ∀ k9 v9 : Int, 0 ≤ k9 → k9 < x.toInt → TNf cI g f k9 v9 → TNf cI g f_46 k9 v9 from (fun k9 v9 h7 h8 h9 => TN_fr hG hF_46 (by decide) k9 v9 (htn_39 k9 v9 h7 h8 (htl k9 v9 h7 h8 h9))), show FX S (BXp g lv x.toInt) [13, 14, 34] f f_46 from (by first | assumption | omega | (subst hj1; omega)), show (0 : Int32).toInt = 0 ∨ (0 : Int32).toInt = 1 from (by first | assumption | omega | (subst hj1; omega))⟩) hP hD hQ (Nat.le_of_ble_eq_true rfl) (Nat.le_of_ble_eq_true rfl) dX4_readSequence_72
  have hz_50 : (0 : Int32).toInt = 0 := by decide
  exact loop29 ((400 - (0 : Int32).toInt).toNat + 1) (0 : Int32) f_8 _ _ _ (by subst hj1; omega) hI hF (by first | assumption | omega | (subst hj1; omega)) (⟨i, top, one, 0, 0, w, st1, op1, dg1, Go_rf, hC1, hM1, hst, hop, fun _ _ _ => rfl, fun q9 => absurd q9.1 (by decide), Or.inl ⟨by omega, rfl, rfl, rfl, rfl⟩, by omega⟩) (hLv1) (hEC1) (htl1) (by first | assumption | omega | (subst hj1; omega)) hP hD hS (lv_sub hl [2, 3, 1, 0] rfl)
set_option maxRecDepth 100000 in
set_option maxHeartbeats 4000000 in
theorem t_X4_readOnem_6 (l : Launch) (D : va_G) (cI cR cM : ClassId) (sz : Nat) {jn : Nat} {g : Nat → Nat} {L : List Nat} {S : Sg} {f : Nat → va_E} {x : Int32} {ks vs : Nat → Int} {i : Nat} {lv gr : Nat → Nat} {E : Env1} {F : Int → Int} {top one may isO : Int} {w st op dg st1 op1 dg1 : Int → Int} (hj : 1 ≤ jn ∧ jn ≤ 3) (hG : SG g L S) (hI : IN jn cI cR cM g L S f) (hj1 : jn = 1) (hC : TKm cI g ks vs f i) (hKO : KO ks vs) (hRD : RDC g lv gr S) (hLv : LvC cR g lv f) (hEC : EnvC cI cR jn g lv gr S f E F) (hEO : EOk E) (hx0 : 0 ≤ x.toInt ∧ x.toInt ≤ 5) (hd : 0 ≤ x.toInt) (hMS : MSt cI jn g lv S f x.toInt top w st op dg) (hst : ∀ k9 : Int, 0 ≤ k9 → k9 ≤ x.toInt → st1 k9 = st k9) (hop : ∀ k9 : Int, 0 ≤ k9 → k9 < x.toInt → op1 k9 = op k9 ∧ dg1 k9 = dg k9) (hm9 : ¬ (may = 1 ∧ ks i = 42)) (hbg : (isO = 0 ∧ may = 0) ∨ (ks i = 1 ∨ ks i = 2 ∨ ks i = 91 ∨ ks i = 40 ∨ (7 ≤ ks i ∧ ks i ≤ 10))) : Met l yX4_readOne wsX4_readOne ({ frames := 13, cells := 0, slots := 0, locals := 341 }) (P0 D cI cR cM [.ref (g 13), .int x] sz (va_pl L f)) (QG (S := Int32 × (Nat → va_E)) (fun u => some (.int u.1)) (fun u => va_pl L u.2) (fun u => IN jn cI cR cM g L S u.2 ∧ FR S [0, 1, 13, 14, 34] f u.2 ∧ (Hd ((u.1.toInt = 1 ∧ OneR cI jn g lv S u.2 ks vs E i x.toInt top one may isO w st op dg st1 op1 dg1) ∨ (u.1.toInt = 0 ∧ Fls ks vs E (i, x.toInt, top, one, may, isO, w, st1, op1, dg1)))) ∧ (∀ k9 v9 : Int, 0 ≤ k9 → k9 < x.toInt → TNf cI g f k9 v9 → TNf cI g u.2 k9 v9) ∧ (FX S (BXp g lv x.toInt) [13, 14, 34] f u.2) ∧ (u.1.toInt = 0 ∨ u.1.toInt = 1)) D (va_A (va_pl L f) sz)) 0 0 (va_A (va_pl L f) sz) := by
  refine go (cc := cX4_readOne) (maxL := 3) (ret := (some .boolean)) (by decide +kernel) rfl (Nat.le_of_ble_eq_true rfl) ?_
  intro p e s m below meth c ls args Q hQ hsz hx hb hr hml hts hown hlocks hnm hP hK hD hl
  subst hsz
  have hD := hD.self (sz := s.heap.size)
  generalize hAe : va_A (va_pl L f) s.heap.size = A at hD hQ
  have hA : ∀ q, s.heap.size ≤ q → A q := fun q h => by rw [← hAe]; exact Or.inr h
  have hS : va_S A s.heap s.heap [] := va_S.rf
  have hFX : FX S (BXp g lv x.toInt) [13, 14, 34] f f := FX_rf
  have hF : FR S [0, 1, 13, 14, 34] f f := FR_rf
  have hl : lv_has ls 3 [(0, .ref (g 13)), (1, .int x)] := hl
  refine lv_aload_n hx hb dX4_readOne_0 rfl (lv_at hl 0 rfl) ?_
  obtain ⟨fa_1, pl_1, fg_1⟩ := op_13 hI (gm_13 hG) (gs_13 hG)
  refine roP (va_runV (As := []) (rest := []) ⟨hx, hb, hml, hown, hts⟩ (t_X4_beginsOnem l D cI cR cM _ (ks := ks) (vs := vs) (i := i)  hj hG hI  (by first | assumption | omega | (subst hj1; omega)) (hC) (by first | assumption | omega | (subst hj1; omega))) (cwV 0 hts gX4_readOne_X4_beginsOne rfl rfl rfl (by decide +kernel) ⟨Nat.le_of_ble_eq_true rfl, Nat.le_of_ble_eq_true rfl⟩) (pre_T hK hP hD (gm_13 hG) fg_1 rfl) rfl rfl hl.1 rfl (lv_room (Nat.le_of_ble_eq_true rfl)) dX4_readOne_1 ⟨Nat.le_of_ble_eq_true rfl, Nat.le_of_ble_eq_true rfl⟩) hS hA hP (fun r_2 H locs hw hP hS => ?_)
  obtain ⟨hp_2, h01_2⟩ : ((r_2.toInt = 1 ∧ (ks i = 1 ∨ ks i = 2 ∨ ks i = 91 ∨ ks i = 40 ∨ (7 ≤ ks i ∧ ks i ≤ 10))) ∨ (r_2.toInt = 0 ∧ ¬ (ks i = 1 ∨ ks i = 2 ∨ ks i = 91 ∨ ks i = 40 ∨ (7 ≤ ks i ∧ ks i ≤ 10)))) ∧ (r_2.toInt = 0 ∨ r_2.toInt = 1) := hw
  refine a_if_ne (u := r_2.toInt) (tgt := 13) hx hb dX4_readOne_4 (by decide) (rfl) (fun c_3 => ?_) (fun c_3 => ?_)
  · refine lv_aload_n hx hb dX4_readOne_13 rfl (lv_at hl 0 rfl) ?_
    obtain ⟨cnt_4, nx_4, kd_4, vl_4, st_4, ls_4, fg_4, iv0_4, iv1_4, iv2_4⟩ := op_14 hI (gm_14 hG) (gs_14 hG)
    obtain ⟨kk_5, kv_5⟩ := TKm_k hC fg_4
    refine t_get (D := D) (L := L) (f := f) (ci := 4) (v := .ref (g 14)) (C := RX4) (T := TX4) (N := 11) hx hb hts (by decide +kernel) hown hK.1 hP (gm_13 hG) fg_1 rfl 1 (by decide) (hts (.fieldLink RX4 41 "JugglingHall$Reader" "tokens" "LJugglingHall$Tokens;") (by decide +kernel)) (fun _ h9 => h9) rfl dX4_readOne_14 ?_
    refine t_getN (D := D) (L := L) (f := f) (ci := 8) (v := .int kd_4) (C := RX8) (T := TX8) (N := 10) (host := "JugglingHall") hx hb hts (by decide +kernel) hown hK.1 hP (gm_14 hG) fg_4 rfl 6 (by decide) (hK.nw (.fieldLinkNest RX4 70 "JugglingHall$Tokens" "kind" "I" "JugglingHall") (by decide +kernel) rfl) (fun _ h9 => h9) rfl dX4_readOne_17 ?_
    refine lv_istore_n (lv' := [(2, .int kd_4), (0, .ref (g 13)), (1, .int x)]) hx hb dX4_readOne_20 rfl hl (by decide) rfl (fun ls hl => ?_)
    refine lv_iload_n hx hb dX4_readOne_21 rfl (lv_at hl 0 rfl) ?_
    have hu_6 : kd_4.toInt = kd_4.toInt := rfl
    rcases (show (kd_4.toInt = 2) ∨ (kd_4.toInt = 3) ∨ (kd_4.toInt = 60) ∨ (kd_4.toInt = 91) ∨ (kd_4.toInt ≠ 2 ∧ kd_4.toInt ≠ 3 ∧ kd_4.toInt ≠ 60 ∧ kd_4.toInt ≠ 91) by omega) with c_6 | c_6 | c_6 | c_6 | c_6
    · refine lv_lookup (off := 53) (tgt := 75) hx hb dX4_readOne_22 (by decide) (by rw [hu_6, c_6]; decide) (by decide) ?_
      have kb9 : ks i = 1 := cK_p (hKO i).1 (Or.inl ⟨by decide, by decide⟩) kk_5 (c := 2) (by subst hj1; omega) (by decide)
      refine lv_aload_n hx hb dX4_readOne_75 rfl (lv_at hl 1 rfl) ?_
      refine lv_aload_n hx hb dX4_readOne_76 rfl (lv_at hl 1 rfl) ?_
      refine t_get (D := D) (L := L) (f := f) (ci := 4) (v := .ref (g 22)) (C := RX4) (T := TX4) (N := 11) hx hb hts (by decide +kernel) hown hK.1 hP (gm_13 hG) fg_1 rfl 3 (by decide) (hts (.fieldLink RX4 13 "JugglingHall$Reader" "levels" "[LJugglingHall$Row;") (by decide +kernel)) (fun _ h9 => h9) rfl dX4_readOne_77 ?_
      refine lv_iload_n hx hb dX4_readOne_80 rfl (lv_at hl 2 rfl) ?_
      obtain ⟨c_7, fg_7, iv0_7⟩ := op_22 hI (gm_22 hG) (gs_22 hG)
      refine t_aald (L := L) (f := f) (y := c_7) (u := x.toInt) hx hb hK.1 hP (gm_22 hG) 1 fg_7 rfl dX4_readOne_81 (rfl) (by subst hj1; omega) (fun w_8 q_8 => ?_)
      obtain ⟨r_8, p_8, n_8, er_8, m_8, s_8⟩ := iv0_7 x.toInt (by subst hj1; omega) (by subst hj1; omega)
      have q_8 := q_8.trans er_8
      subst q_8
      refine W.eq (g2 := F0 m 82 ls [.ref r_8, .ref (g 13)]) rfl ?_
      have hh_8 : r_8 = lv x.toInt.toNat := LvC_at (l := x.toInt) hLv fg_7 (by subst hj1; omega) (by subst hj1; omega) (by rw [show x.toInt = x.toInt by omega]; exact er_8)
      have hR_8 := RWf_e hMS.2.2 hh_8
      obtain ⟨len_9, fg_9, v1_9, v2_9, v3_9, mp_9, sp_9⟩ := op_0 hI m_8 s_8
      obtain ⟨w1_9, w2_9, w3_9, w4_9, w5_9⟩ := lenw hj v1_9 v2_9 v3_9
      obtain ⟨c_10, fg_10, iv0_10⟩ := op_1 hI mp_9 sp_9
      obtain ⟨hl_11, hc_11⟩ := RWf_at hR_8 s_8 fg_9 fg_10
      have hN_8 := cap_of (S := S) (a := r_8) (k := 48) (by rw [hh_8]; exact (hRD.2.1 _ (by subst hj1; omega)).1) s_8
      refine call_p (va_runV (As := [.ref r_8]) (rest := []) ⟨hx, hb, hml, hown, hts⟩ (t_X4_readBeatm l D cI cR cM _ (ks := ks) (vs := vs) (i := i) (w := (fun j => w (2 * st x.toInt + j)))  hj hG hI m_8 s_8 fg_9 fg_10 (by first | assumption | omega | (subst hj1; omega)) (hC) (by first | assumption | omega | (subst hj1; omega)) (by rw [hh_8]; exact (hRD.2.1 _ (by subst hj1; omega)).2.1) (hRD.1.1) (by rw [hl_11]; exact hc_11)) (cwV 1 hts gX4_readOne_X4_readBeat rfl rfl rfl (by decide +kernel) ⟨Nat.le_of_ble_eq_true rfl, Nat.le_of_ble_eq_true rfl⟩) (pre_T hK hP hD (gm_13 hG) fg_1 rfl) rfl rfl hl.1 rfl (lv_room (Nat.le_of_ble_eq_true rfl)) dX4_readOne_82 ⟨Nat.le_of_ble_eq_true rfl, Nat.le_of_ble_eq_true rfl⟩) hD hS hA (fun u_12 H locs hw hP hD hS => ?_)
      obtain ⟨r_12, f_12⟩ := u_12
      obtain ⟨hI, hF_12, hp_12, hfx_12, h01_12⟩ : IN jn cI cR cM g L S f_12 ∧ FR S [0, 1, 13, 14] f f_12 ∧ ((r_12.toInt = 1 ∧ ∃ (a9 b9 : Int) (j9 : Nat), BtR ks vs i a9 b9 j9 ∧ TKm cI g ks vs f_12 j9 ∧ 2 * (len_9.toInt + 1) ≤ (n_8 : Int) ∧ RWf cI jn S f_12 r_8 (len_9.toInt + 1) (fupd (fupd (fun j => w (2 * st x.toInt + j)) (2 * len_9.toInt) a9) (2 * len_9.toInt + 1) b9)) ∨ (r_12.toInt = 0 ∧ (BtF ks vs i ∨ (n_8 : Int) < 2 * (len_9.toInt + 1)))) ∧ (FX S (fun a9 => a9 = r_8 ∨ a9 = g 24) [13, 14] f f_12) ∧ (r_12.toInt = 0 ∨ r_12.toInt = 1) := hw
      have hP : va_P D vwCl (va_pl L f_12) H := hP
      have hD : va_D A (va_pl L f_12) := hD
      have hF := FR_tr hF hF_12 (by decide)
      have hFX := FX_tr hFX hfx_12 (fun a9 h9 => h9.elim (fun h9 => Or.inl ⟨x.toInt.toNat, Nat.le_refl _, by omega, h9.trans hh_8⟩) (fun h9 => Or.inr (Or.inl h9))) (by decide)
      have fb_13 : f_12 (g 22) = .inl (cR, 6, .inr (.inr (.inr (.inr c_7)))) := FR_at hF_12 (gs_22 hG) (show (22 : Nat) ∉ ([0, 1, 13, 14] : List Nat) by decide) fg_7
      exact g_zret (r_12, f_12) hx hb hr hlocks hS (b01 (by subst hj1; omega)) rfl (⟨hI, hF, show Hd ((r_12.toInt = 1 ∧ OneR cI jn g lv S f_12 ks vs E i x.toInt top one may isO w st op dg st1 op1 dg1) ∨ (r_12.toInt = 0 ∧ Fls ks vs E (i, x.toInt, top, one, may, isO, w, st1, op1, dg1))) from (by
        rw [hl_11] at hp_12
        rcases hp_12 with ⟨h5, a9, b9, j9, h6, h7, h8, h9⟩ | ⟨h5, h6⟩
        · have h9 := RWf_e h9 hh_8.symm
          obtain ⟨q1, q2, q3⟩ := L_beat (E := E) (one := one) (isO := isO) (op1 := op1) (dg1 := dg1) hMS (fun top9 w9 q1 q2 q3 => MSb_fx hMS.1 hfx_12 (by decide) (fun k9 h8 h7 => (fun q9 => q9.elim (fun q9 => (hRD.2.2.2.2.1 k9.toNat x.toInt.toNat (by subst hj1; omega) (by subst hj1; omega) (by subst hj1; omega)) (q9.trans hh_8)) (fun q8 => (hRD.2.1 k9.toNat (by subst hj1; omega)).2.1 q8))) (fun k9 v9 _ _ h9 => TN_fr hG hF_12 (by decide) k9 v9 h9) q1 q2 q3) hm9 (hst _ (by subst hj1; omega) (Int.le_refl _)) h6 (Bt_vK hKO h6) (by subst hj1; omega) h9
          exact Or.inl ⟨h5, j9, _, _, st1, op1, dg1, Go_1 q1, Bt_lt h6, by omega, h7, q2, hst, hop, q3⟩
        · refine Or.inr ⟨h5, Fls_0 (F_beat hm9 (fun q9 => by omega) (by subst hj1; omega) (by subst hj1; omega) (fun _ => by unfold Bgn; omega) ?_)⟩
          rw [hst _ (by subst hj1; omega) (Int.le_refl _)]
          exact h6.imp id (fun q9 => by omega)), show ∀ k9 v9 : Int, 0 ≤ k9 → k9 < x.toInt → TNf cI g f k9 v9 → TNf cI g f_12 k9 v9 from (fun k9 v9 _ _ h9 => TN_fr hG hF_12 (by decide) k9 v9 h9), show FX S (BXp g lv x.toInt) [13, 14, 34] f f_12 from (by first | assumption | omega | (subst hj1; omega)), show r_12.toInt = 0 ∨ r_12.toInt = 1 from (by first | assumption | omega | (subst hj1; omega))⟩) hP hD hQ (Nat.le_of_ble_eq_true rfl) (Nat.le_of_ble_eq_true rfl) dX4_readOne_85
    · refine lv_lookup (off := 42) (tgt := 64) hx hb dX4_readOne_22 (by decide) (by rw [hu_6, c_6]; decide) (by decide) ?_
      have kb9 : ks i = 2 := cK_p (hKO i).1 (Or.inl ⟨by decide, by decide⟩) kk_5 (c := 3) (by subst hj1; omega) (by decide)
      refine lv_aload_n hx hb dX4_readOne_64 rfl (lv_at hl 1 rfl) ?_
      refine lv_aload_n hx hb dX4_readOne_65 rfl (lv_at hl 1 rfl) ?_
      refine t_get (D := D) (L := L) (f := f) (ci := 4) (v := .ref (g 22)) (C := RX4) (T := TX4) (N := 11) hx hb hts (by decide +kernel) hown hK.1 hP (gm_13 hG) fg_1 rfl 3 (by decide) (hts (.fieldLink RX4 13 "JugglingHall$Reader" "levels" "[LJugglingHall$Row;") (by decide +kernel)) (fun _ h9 => h9) rfl dX4_readOne_66 ?_
      refine lv_iload_n hx hb dX4_readOne_69 rfl (lv_at hl 2 rfl) ?_
      obtain ⟨c_14, fg_14, iv0_14⟩ := op_22 hI (gm_22 hG) (gs_22 hG)
      refine t_aald (L := L) (f := f) (y := c_14) (u := x.toInt) hx hb hK.1 hP (gm_22 hG) 1 fg_14 rfl dX4_readOne_70 (rfl) (by subst hj1; omega) (fun w_15 q_15 => ?_)
      obtain ⟨r_15, p_15, n_15, er_15, m_15, s_15⟩ := iv0_14 x.toInt (by subst hj1; omega) (by subst hj1; omega)
      have q_15 := q_15.trans er_15
      subst q_15
      refine W.eq (g2 := F0 m 71 ls [.ref r_15, .ref (g 13)]) rfl ?_
      have hh_15 : r_15 = lv x.toInt.toNat := LvC_at (l := x.toInt) hLv fg_14 (by subst hj1; omega) (by subst hj1; omega) (by rw [show x.toInt = x.toInt by omega]; exact er_15)
      have hR_15 := RWf_e hMS.2.2 hh_15
      obtain ⟨len_16, fg_16, v1_16, v2_16, v3_16, mp_16, sp_16⟩ := op_0 hI m_15 s_15
      obtain ⟨w1_16, w2_16, w3_16, w4_16, w5_16⟩ := lenw hj v1_16 v2_16 v3_16
      obtain ⟨c_17, fg_17, iv0_17⟩ := op_1 hI mp_16 sp_16
      obtain ⟨hl_18, hc_18⟩ := RWf_at hR_15 s_15 fg_16 fg_17
      have hN_15 := cap_of (S := S) (a := r_15) (k := 48) (by rw [hh_15]; exact (hRD.2.1 _ (by subst hj1; omega)).1) s_15
      refine call_p (va_runV (As := [.ref r_15]) (rest := []) ⟨hx, hb, hml, hown, hts⟩ (t_X4_readLetterm l D cI cR cM _ (ks := ks) (vs := vs) (i := i) (lv := lv) (gr := gr) (E := E) (F := F) (w := (fun j => w (2 * st x.toInt + j)))  hj hG hI m_15 s_15 fg_16 fg_17 (by first | assumption | omega | (subst hj1; omega)) (hC) (by first | assumption | omega | (subst hj1; omega)) (kb9) (hEC) (by rw [hl_18]; exact hc_18)) (cwV 1 hts gX4_readOne_X4_readLetter rfl rfl rfl (by decide +kernel) ⟨Nat.le_of_ble_eq_true rfl, Nat.le_of_ble_eq_true rfl⟩) (pre_T hK hP hD (gm_13 hG) fg_1 rfl) rfl rfl hl.1 rfl (lv_room (Nat.le_of_ble_eq_true rfl)) dX4_readOne_71 ⟨Nat.le_of_ble_eq_true rfl, Nat.le_of_ble_eq_true rfl⟩) hD hS hA (fun u_19 H locs hw hP hD hS => ?_)
      obtain ⟨r_19, f_19⟩ := u_19
      obtain ⟨hI, hF_19, hp_19, hfx_19, h01_19⟩ : IN jn cI cR cM g L S f_19 ∧ FR S [0, 1, 13, 14] f f_19 ∧ ((r_19.toInt = 1 ∧ 0 < (E (vs i)).1 ∧ TKm cI g ks vs f_19 (i + 1) ∧ 2 * (len_16.toInt + (E (vs i)).1) ≤ (n_15 : Int) ∧ RWf cI jn S f_19 r_15 (len_16.toInt + (E (vs i)).1) (fun j => if j < 2 * len_16.toInt then (fun j => w (2 * st x.toInt + j)) j else (E (vs i)).2 (j - 2 * len_16.toInt))) ∨ (r_19.toInt = 0 ∧ ((E (vs i)).1 ≤ 0 ∨ (n_15 : Int) < 2 * (len_16.toInt + (E (vs i)).1)))) ∧ (FX S (fun a9 => a9 = r_15) [13, 14] f f_19) ∧ (r_19.toInt = 0 ∨ r_19.toInt = 1) := hw
      have hP : va_P D vwCl (va_pl L f_19) H := hP
      have hD : va_D A (va_pl L f_19) := hD
      have hF := FR_tr hF hF_19 (by decide)
      have hFX := FX_tr hFX hfx_19 (fun a9 h9 => Or.inl ⟨x.toInt.toNat, Nat.le_refl _, by omega, h9.trans hh_15⟩) (by decide)
      have fb_20 : f_19 (g 22) = .inl (cR, 6, .inr (.inr (.inr (.inr c_14)))) := FR_at hF_19 (gs_22 hG) (show (22 : Nat) ∉ ([0, 1, 13, 14] : List Nat) by decide) fg_14
      exact g_zret (r_19, f_19) hx hb hr hlocks hS (b01 (by subst hj1; omega)) rfl (⟨hI, hF, show Hd ((r_19.toInt = 1 ∧ OneR cI jn g lv S f_19 ks vs E i x.toInt top one may isO w st op dg st1 op1 dg1) ∨ (r_19.toInt = 0 ∧ Fls ks vs E (i, x.toInt, top, one, may, isO, w, st1, op1, dg1))) from (by
        rw [hl_18] at hp_19
        rcases hp_19 with ⟨h5, h6, h7, h8, h9⟩ | ⟨h5, h6⟩
        · have h9 := RWf_e h9 hh_15.symm
          obtain ⟨q1, q2, q3⟩ := L_letter (E := E) (one := one) (isO := isO) (op1 := op1) (dg1 := dg1) hMS (fun top9 w9 q1 q2 q3 => MSb_fx hMS.1 hfx_19 (by decide) (fun k9 h8 h7 => (fun q9 => (hRD.2.2.2.2.1 k9.toNat x.toInt.toNat (by subst hj1; omega) (by subst hj1; omega) (by subst hj1; omega)) (q9.trans hh_15))) (fun k9 v9 _ _ h9 => TN_fr hG hF_19 (by decide) k9 v9 h9) q1 q2 q3) hm9 (hst _ (by subst hj1; omega) (Int.le_refl _)) kb9 h6 (hEO _ (by have := (hKO i).2.2 kb9; omega) (by have := (hKO i).2.2 kb9; omega)).2.2 (by subst hj1; omega) h9
          exact Or.inl ⟨h5, i + 1, _, _, st1, op1, dg1, Go_1 q1, by omega, by omega, h7, q2, hst, hop, q3⟩
        · exact Or.inr ⟨h5, Fls_0 (F_letter kb9 (by rw [hst _ (by subst hj1; omega) (Int.le_refl _)]; omega))⟩), show ∀ k9 v9 : Int, 0 ≤ k9 → k9 < x.toInt → TNf cI g f k9 v9 → TNf cI g f_19 k9 v9 from (fun k9 v9 _ _ h9 => TN_fr hG hF_19 (by decide) k9 v9 h9), show FX S (BXp g lv x.toInt) [13, 14, 34] f f_19 from (by first | assumption | omega | (subst hj1; omega)), show r_19.toInt = 0 ∨ r_19.toInt = 1 from (by first | assumption | omega | (subst hj1; omega))⟩) hP hD hQ (Nat.le_of_ble_eq_true rfl) (Nat.le_of_ble_eq_true rfl) dX4_readOne_74
    · refine lv_lookup (off := 53) (tgt := 75) hx hb dX4_readOne_22 (by decide) (by rw [hu_6, c_6]; decide) (by decide) ?_
      have kb9 : ks i = 60 := cK_p (hKO i).1 (Or.inr ⟨by decide, by decide⟩) kk_5 (c := 60) (by subst hj1; omega) (by decide)
      refine lv_aload_n hx hb dX4_readOne_75 rfl (lv_at hl 1 rfl) ?_
      refine lv_aload_n hx hb dX4_readOne_76 rfl (lv_at hl 1 rfl) ?_
      refine t_get (D := D) (L := L) (f := f) (ci := 4) (v := .ref (g 22)) (C := RX4) (T := TX4) (N := 11) hx hb hts (by decide +kernel) hown hK.1 hP (gm_13 hG) fg_1 rfl 3 (by decide) (hts (.fieldLink RX4 13 "JugglingHall$Reader" "levels" "[LJugglingHall$Row;") (by decide +kernel)) (fun _ h9 => h9) rfl dX4_readOne_77 ?_
      refine lv_iload_n hx hb dX4_readOne_80 rfl (lv_at hl 2 rfl) ?_
      obtain ⟨c_21, fg_21, iv0_21⟩ := op_22 hI (gm_22 hG) (gs_22 hG)
      refine t_aald (L := L) (f := f) (y := c_21) (u := x.toInt) hx hb hK.1 hP (gm_22 hG) 1 fg_21 rfl dX4_readOne_81 (rfl) (by subst hj1; omega) (fun w_22 q_22 => ?_)
      obtain ⟨r_22, p_22, n_22, er_22, m_22, s_22⟩ := iv0_21 x.toInt (by subst hj1; omega) (by subst hj1; omega)
      have q_22 := q_22.trans er_22
      subst q_22
      refine W.eq (g2 := F0 m 82 ls [.ref r_22, .ref (g 13)]) rfl ?_
      have hh_22 : r_22 = lv x.toInt.toNat := LvC_at (l := x.toInt) hLv fg_21 (by subst hj1; omega) (by subst hj1; omega) (by rw [show x.toInt = x.toInt by omega]; exact er_22)
      have hR_22 := RWf_e hMS.2.2 hh_22
      obtain ⟨len_23, fg_23, v1_23, v2_23, v3_23, mp_23, sp_23⟩ := op_0 hI m_22 s_22
      obtain ⟨w1_23, w2_23, w3_23, w4_23, w5_23⟩ := lenw hj v1_23 v2_23 v3_23
      obtain ⟨c_24, fg_24, iv0_24⟩ := op_1 hI mp_23 sp_23
      obtain ⟨hl_25, hc_25⟩ := RWf_at hR_22 s_22 fg_23 fg_24
      have hN_22 := cap_of (S := S) (a := r_22) (k := 48) (by rw [hh_22]; exact (hRD.2.1 _ (by subst hj1; omega)).1) s_22
      refine call_p (va_runV (As := [.ref r_22]) (rest := []) ⟨hx, hb, hml, hown, hts⟩ (t_X4_readBeatm l D cI cR cM _ (ks := ks) (vs := vs) (i := i) (w := (fun j => w (2 * st x.toInt + j)))  hj hG hI m_22 s_22 fg_23 fg_24 (by first | assumption | omega | (subst hj1; omega)) (hC) (by first | assumption | omega | (subst hj1; omega)) (by rw [hh_22]; exact (hRD.2.1 _ (by subst hj1; omega)).2.1) (hRD.1.1) (by rw [hl_25]; exact hc_25)) (cwV 1 hts gX4_readOne_X4_readBeat rfl rfl rfl (by decide +kernel) ⟨Nat.le_of_ble_eq_true rfl, Nat.le_of_ble_eq_true rfl⟩) (pre_T hK hP hD (gm_13 hG) fg_1 rfl) rfl rfl hl.1 rfl (lv_room (Nat.le_of_ble_eq_true rfl)) dX4_readOne_82 ⟨Nat.le_of_ble_eq_true rfl, Nat.le_of_ble_eq_true rfl⟩) hD hS hA (fun u_26 H locs hw hP hD hS => ?_)
      obtain ⟨r_26, f_26⟩ := u_26
      obtain ⟨hI, hF_26, hp_26, hfx_26, h01_26⟩ : IN jn cI cR cM g L S f_26 ∧ FR S [0, 1, 13, 14] f f_26 ∧ ((r_26.toInt = 1 ∧ ∃ (a9 b9 : Int) (j9 : Nat), BtR ks vs i a9 b9 j9 ∧ TKm cI g ks vs f_26 j9 ∧ 2 * (len_23.toInt + 1) ≤ (n_22 : Int) ∧ RWf cI jn S f_26 r_22 (len_23.toInt + 1) (fupd (fupd (fun j => w (2 * st x.toInt + j)) (2 * len_23.toInt) a9) (2 * len_23.toInt + 1) b9)) ∨ (r_26.toInt = 0 ∧ (BtF ks vs i ∨ (n_22 : Int) < 2 * (len_23.toInt + 1)))) ∧ (FX S (fun a9 => a9 = r_22 ∨ a9 = g 24) [13, 14] f f_26) ∧ (r_26.toInt = 0 ∨ r_26.toInt = 1) := hw
      have hP : va_P D vwCl (va_pl L f_26) H := hP
      have hD : va_D A (va_pl L f_26) := hD
      have hF := FR_tr hF hF_26 (by decide)
      have hFX := FX_tr hFX hfx_26 (fun a9 h9 => h9.elim (fun h9 => Or.inl ⟨x.toInt.toNat, Nat.le_refl _, by omega, h9.trans hh_22⟩) (fun h9 => Or.inr (Or.inl h9))) (by decide)
      have fb_27 : f_26 (g 22) = .inl (cR, 6, .inr (.inr (.inr (.inr c_21)))) := FR_at hF_26 (gs_22 hG) (show (22 : Nat) ∉ ([0, 1, 13, 14] : List Nat) by decide) fg_21
      exact g_zret (r_26, f_26) hx hb hr hlocks hS (b01 (by subst hj1; omega)) rfl (⟨hI, hF, show Hd ((r_26.toInt = 1 ∧ OneR cI jn g lv S f_26 ks vs E i x.toInt top one may isO w st op dg st1 op1 dg1) ∨ (r_26.toInt = 0 ∧ Fls ks vs E (i, x.toInt, top, one, may, isO, w, st1, op1, dg1))) from (by exfalso; omega), show ∀ k9 v9 : Int, 0 ≤ k9 → k9 < x.toInt → TNf cI g f k9 v9 → TNf cI g f_26 k9 v9 from (fun k9 v9 _ _ h9 => TN_fr hG hF_26 (by decide) k9 v9 h9), show FX S (BXp g lv x.toInt) [13, 14, 34] f f_26 from (by first | assumption | omega | (subst hj1; omega)), show r_26.toInt = 0 ∨ r_26.toInt = 1 from (by first | assumption | omega | (subst hj1; omega))⟩) hP hD hQ (Nat.le_of_ble_eq_true rfl) (Nat.le_of_ble_eq_true rfl) dX4_readOne_85
    · refine lv_lookup (off := 53) (tgt := 75) hx hb dX4_readOne_22 (by decide) (by rw [hu_6, c_6]; decide) (by decide) ?_
      have kb9 : ks i = 91 := cK_p (hKO i).1 (Or.inr ⟨by decide, by decide⟩) kk_5 (c := 91) (by subst hj1; omega) (by decide)
      refine lv_aload_n hx hb dX4_readOne_75 rfl (lv_at hl 1 rfl) ?_
      refine lv_aload_n hx hb dX4_readOne_76 rfl (lv_at hl 1 rfl) ?_
      refine t_get (D := D) (L := L) (f := f) (ci := 4) (v := .ref (g 22)) (C := RX4) (T := TX4) (N := 11) hx hb hts (by decide +kernel) hown hK.1 hP (gm_13 hG) fg_1 rfl 3 (by decide) (hts (.fieldLink RX4 13 "JugglingHall$Reader" "levels" "[LJugglingHall$Row;") (by decide +kernel)) (fun _ h9 => h9) rfl dX4_readOne_77 ?_
      refine lv_iload_n hx hb dX4_readOne_80 rfl (lv_at hl 2 rfl) ?_
      obtain ⟨c_28, fg_28, iv0_28⟩ := op_22 hI (gm_22 hG) (gs_22 hG)
      refine t_aald (L := L) (f := f) (y := c_28) (u := x.toInt) hx hb hK.1 hP (gm_22 hG) 1 fg_28 rfl dX4_readOne_81 (rfl) (by subst hj1; omega) (fun w_29 q_29 => ?_)
      obtain ⟨r_29, p_29, n_29, er_29, m_29, s_29⟩ := iv0_28 x.toInt (by subst hj1; omega) (by subst hj1; omega)
      have q_29 := q_29.trans er_29
      subst q_29
      refine W.eq (g2 := F0 m 82 ls [.ref r_29, .ref (g 13)]) rfl ?_
      have hh_29 : r_29 = lv x.toInt.toNat := LvC_at (l := x.toInt) hLv fg_28 (by subst hj1; omega) (by subst hj1; omega) (by rw [show x.toInt = x.toInt by omega]; exact er_29)
      have hR_29 := RWf_e hMS.2.2 hh_29
      obtain ⟨len_30, fg_30, v1_30, v2_30, v3_30, mp_30, sp_30⟩ := op_0 hI m_29 s_29
      obtain ⟨w1_30, w2_30, w3_30, w4_30, w5_30⟩ := lenw hj v1_30 v2_30 v3_30
      obtain ⟨c_31, fg_31, iv0_31⟩ := op_1 hI mp_30 sp_30
      obtain ⟨hl_32, hc_32⟩ := RWf_at hR_29 s_29 fg_30 fg_31
      have hN_29 := cap_of (S := S) (a := r_29) (k := 48) (by rw [hh_29]; exact (hRD.2.1 _ (by subst hj1; omega)).1) s_29
      refine call_p (va_runV (As := [.ref r_29]) (rest := []) ⟨hx, hb, hml, hown, hts⟩ (t_X4_readBeatm l D cI cR cM _ (ks := ks) (vs := vs) (i := i) (w := (fun j => w (2 * st x.toInt + j)))  hj hG hI m_29 s_29 fg_30 fg_31 (by first | assumption | omega | (subst hj1; omega)) (hC) (by first | assumption | omega | (subst hj1; omega)) (by rw [hh_29]; exact (hRD.2.1 _ (by subst hj1; omega)).2.1) (hRD.1.1) (by rw [hl_32]; exact hc_32)) (cwV 1 hts gX4_readOne_X4_readBeat rfl rfl rfl (by decide +kernel) ⟨Nat.le_of_ble_eq_true rfl, Nat.le_of_ble_eq_true rfl⟩) (pre_T hK hP hD (gm_13 hG) fg_1 rfl) rfl rfl hl.1 rfl (lv_room (Nat.le_of_ble_eq_true rfl)) dX4_readOne_82 ⟨Nat.le_of_ble_eq_true rfl, Nat.le_of_ble_eq_true rfl⟩) hD hS hA (fun u_33 H locs hw hP hD hS => ?_)
      obtain ⟨r_33, f_33⟩ := u_33
      obtain ⟨hI, hF_33, hp_33, hfx_33, h01_33⟩ : IN jn cI cR cM g L S f_33 ∧ FR S [0, 1, 13, 14] f f_33 ∧ ((r_33.toInt = 1 ∧ ∃ (a9 b9 : Int) (j9 : Nat), BtR ks vs i a9 b9 j9 ∧ TKm cI g ks vs f_33 j9 ∧ 2 * (len_30.toInt + 1) ≤ (n_29 : Int) ∧ RWf cI jn S f_33 r_29 (len_30.toInt + 1) (fupd (fupd (fun j => w (2 * st x.toInt + j)) (2 * len_30.toInt) a9) (2 * len_30.toInt + 1) b9)) ∨ (r_33.toInt = 0 ∧ (BtF ks vs i ∨ (n_29 : Int) < 2 * (len_30.toInt + 1)))) ∧ (FX S (fun a9 => a9 = r_29 ∨ a9 = g 24) [13, 14] f f_33) ∧ (r_33.toInt = 0 ∨ r_33.toInt = 1) := hw
      have hP : va_P D vwCl (va_pl L f_33) H := hP
      have hD : va_D A (va_pl L f_33) := hD
      have hF := FR_tr hF hF_33 (by decide)
      have hFX := FX_tr hFX hfx_33 (fun a9 h9 => h9.elim (fun h9 => Or.inl ⟨x.toInt.toNat, Nat.le_refl _, by omega, h9.trans hh_29⟩) (fun h9 => Or.inr (Or.inl h9))) (by decide)
      have fb_34 : f_33 (g 22) = .inl (cR, 6, .inr (.inr (.inr (.inr c_28)))) := FR_at hF_33 (gs_22 hG) (show (22 : Nat) ∉ ([0, 1, 13, 14] : List Nat) by decide) fg_28
      exact g_zret (r_33, f_33) hx hb hr hlocks hS (b01 (by subst hj1; omega)) rfl (⟨hI, hF, show Hd ((r_33.toInt = 1 ∧ OneR cI jn g lv S f_33 ks vs E i x.toInt top one may isO w st op dg st1 op1 dg1) ∨ (r_33.toInt = 0 ∧ Fls ks vs E (i, x.toInt, top, one, may, isO, w, st1, op1, dg1))) from (by
        rw [hl_32] at hp_33
        rcases hp_33 with ⟨h5, a9, b9, j9, h6, h7, h8, h9⟩ | ⟨h5, h6⟩
        · have h9 := RWf_e h9 hh_29.symm
          obtain ⟨q1, q2, q3⟩ := L_beat (E := E) (one := one) (isO := isO) (op1 := op1) (dg1 := dg1) hMS (fun top9 w9 q1 q2 q3 => MSb_fx hMS.1 hfx_33 (by decide) (fun k9 h8 h7 => (fun q9 => q9.elim (fun q9 => (hRD.2.2.2.2.1 k9.toNat x.toInt.toNat (by subst hj1; omega) (by subst hj1; omega) (by subst hj1; omega)) (q9.trans hh_29)) (fun q8 => (hRD.2.1 k9.toNat (by subst hj1; omega)).2.1 q8))) (fun k9 v9 _ _ h9 => TN_fr hG hF_33 (by decide) k9 v9 h9) q1 q2 q3) hm9 (hst _ (by subst hj1; omega) (Int.le_refl _)) h6 (Bt_vK hKO h6) (by subst hj1; omega) h9
          exact Or.inl ⟨h5, j9, _, _, st1, op1, dg1, Go_1 q1, Bt_lt h6, by omega, h7, q2, hst, hop, q3⟩
        · refine Or.inr ⟨h5, Fls_0 (F_beat hm9 (fun q9 => by omega) (by subst hj1; omega) (by subst hj1; omega) (fun _ => by unfold Bgn; omega) ?_)⟩
          rw [hst _ (by subst hj1; omega) (Int.le_refl _)]
          exact h6.imp id (fun q9 => by omega)), show ∀ k9 v9 : Int, 0 ≤ k9 → k9 < x.toInt → TNf cI g f k9 v9 → TNf cI g f_33 k9 v9 from (fun k9 v9 _ _ h9 => TN_fr hG hF_33 (by decide) k9 v9 h9), show FX S (BXp g lv x.toInt) [13, 14, 34] f f_33 from (by first | assumption | omega | (subst hj1; omega)), show r_33.toInt = 0 ∨ r_33.toInt = 1 from (by first | assumption | omega | (subst hj1; omega))⟩) hP hD hQ (Nat.le_of_ble_eq_true rfl) (Nat.le_of_ble_eq_true rfl) dX4_readOne_85
    · refine lv_lookup (off := 64) (tgt := 86) hx hb dX4_readOne_22 (by decide) (by rw [hu_6]; exact (show Op.lookupswitch.offset [(2, 53), (3, 42), (60, 53), (91, 53)] (64) kd_4.toInt = (64) from lkc (by subst hj1; omega) (lkc (by subst hj1; omega) (lkc (by subst hj1; omega) (lkc (by subst hj1; omega) (lkn _ _)))))) (by decide) ?_
      have hkg : ks i = 40 ∨ (7 ≤ ks i ∧ ks i ≤ 10) := by have h9 := cK_f (hKO i).1; omega
      refine lv_aload_n hx hb dX4_readOne_86 rfl (lv_at hl 1 rfl) ?_
      refine lv_iload_n hx hb dX4_readOne_87 rfl (lv_at hl 0 rfl) ?_
      refine lv_iload_n hx hb dX4_readOne_88 rfl (lv_at hl 2 rfl) ?_
      refine call_p (va_runV (As := [.int kd_4, .int x]) (rest := []) ⟨hx, hb, hml, hown, hts⟩ (t_X4_openGroupm l D cI cR cM _ (ks := ks) (vs := vs) (i := i)  hj hG hI  (by first | assumption | omega | (subst hj1; omega)) (hC) (by first | assumption | omega | (subst hj1; omega)) (kk_5) (hkg) (by subst hj1; omega)) (cwV 2 hts gX4_readOne_X4_openGroup rfl rfl rfl (by decide +kernel) ⟨Nat.le_of_ble_eq_true rfl, Nat.le_of_ble_eq_true rfl⟩) (pre_T hK hP hD (gm_13 hG) fg_1 rfl) rfl rfl hl.1 rfl (lv_room (Nat.le_of_ble_eq_true rfl)) dX4_readOne_89 ⟨Nat.le_of_ble_eq_true rfl, Nat.le_of_ble_eq_true rfl⟩) hD hS hA (fun u_35 H locs hw hP hD hS => ?_)
      obtain ⟨r_35, f_35⟩ := u_35
      obtain ⟨hI, hF_35, hp_35, ht_35, hfx_35, h01_35⟩ : IN jn cI cR cM g L S f_35 ∧ FR S [13, 14, 34] f f_35 ∧ ((r_35.toInt = 1 ∧ x.toInt < 5 ∧ ((ks i = 40 ∧ TKm cI g ks vs f_35 (i + 1)) ∨ ((7 ≤ ks i ∧ ks i ≤ 9) ∧ ks (i + 1) = 40 ∧ TKm cI g ks vs f_35 (i + 2)) ∨ (ks i = 10 ∧ ks (i + 1) = 1 ∧ ks (i + 2) = 40 ∧ TKm cI g ks vs f_35 (i + 3) ∧ TNf cI g f_35 x.toInt (vs (i + 1))))) ∨ (r_35.toInt = 0 ∧ ¬ (x.toInt < 5 ∧ (ks i = 40 ∨ ((7 ≤ ks i ∧ ks i ≤ 9) ∧ ks (i + 1) = 40) ∨ (ks i = 10 ∧ ks (i + 1) = 1 ∧ ks (i + 2) = 40))))) ∧ (∀ k9 v9 : Int, 0 ≤ k9 → k9 ≠ x.toInt → TNf cI g f k9 v9 → TNf cI g f_35 k9 v9) ∧ (FX S (fun _ => False) [13, 14, 34] f f_35) ∧ (r_35.toInt = 0 ∨ r_35.toInt = 1) := hw
      have hP : va_P D vwCl (va_pl L f_35) H := hP
      have hD : va_D A (va_pl L f_35) := hD
      have hF := FR_tr hF hF_35 (by decide)
      have hFX := FX_tr hFX hfx_35 (fun _ h9 => h9.elim) (by decide)
      refine a_if_eq (u := r_35.toInt) (tgt := 127) hx hb dX4_readOne_92 (by decide) (rfl) (fun c_36 => ?_) (fun c_36 => ?_)
      · refine lv_iconst (v := 0) hx hb dX4_readOne_127 (by decide) ?_
        have hz_37 : (0 : Int32).toInt = 0 := by decide
        exact g_zret ((0 : Int32), f_35) hx hb hr hlocks hS (by first | exact Or.inl rfl | exact Or.inr rfl) rfl (⟨hI, hF, show Hd (((0 : Int32).toInt = 1 ∧ OneR cI jn g lv S f_35 ks vs E i x.toInt top one may isO w st op dg st1 op1 dg1) ∨ ((0 : Int32).toInt = 0 ∧ Fls ks vs E (i, x.toInt, top, one, may, isO, w, st1, op1, dg1))) from (Or.inr ⟨rfl, Fls_0 (F_opens (by subst hj1; omega) (hp_35.resolve_left (fun q9 => by have := q9.1; omega)).2)⟩), show ∀ k9 v9 : Int, 0 ≤ k9 → k9 < x.toInt → TNf cI g f k9 v9 → TNf cI g f_35 k9 v9 from (fun k9 v9 h7 h8 h9 => (ht_35 k9 v9 h7 (by subst hj1; omega) h9)), show FX S (BXp g lv x.toInt) [13, 14, 34] f f_35 from (by first | assumption | omega | (subst hj1; omega)), show (0 : Int32).toInt = 0 ∨ (0 : Int32).toInt = 1 from (by first | assumption | omega | (subst hj1; omega))⟩) hP hD hQ (Nat.le_of_ble_eq_true rfl) (Nat.le_of_ble_eq_true rfl) dX4_readOne_128
      · obtain ⟨hz1, hz2⟩ := hp_35.resolve_right (fun q9 => by have := q9.1; omega)
        have hMS1 := MSt_fx hMS hfx_35 (by decide) (fun _ _ _ h9 => h9) (fun k9 v9 h7 h8 h9 => ht_35 k9 v9 h7 (by subst hj1; omega) h9)
        have hLv1 := LvC_fr hLv hG hF_35 (by decide)
        have hEC1 := EnvC_fx hEC hG hF_35 hfx_35 (by decide) (by decide) (fun _ _ h9 => h9) (fun _ _ h9 => h9)
        obtain ⟨i1, K1, D1, hs1, hc1_, hi1, hK1, hT1⟩ := L_opens (E := E) (top := top) (one := one) (isO := isO) (w := w) (st := st1) (op := op1) (dg := dg1) hm9 hz2
        have hMo := L_open (K := K1) (D := D1) hMS1 (by subst hj1; omega) hT1
        refine lv_aload_n hx hb dX4_readOne_95 rfl (lv_at hl 1 rfl) ?_
        refine lv_iload_n hx hb dX4_readOne_96 rfl (lv_at hl 2 rfl) ?_
        refine lv_iconst (v := 1) hx hb dX4_readOne_97 (by decide) ?_
        refine a_iadd (u := x.toInt) (v := 1) hx hb dX4_readOne_98 (rfl) (by decide) (by subst hj1; omega) (fun z_38 e_38 => ?_)
        obtain ⟨fa_39, pl_39, fg_39⟩ := op_13 hI (gm_13 hG) (gs_13 hG)
        refine call_p (va_runV (As := [.int z_38]) (rest := []) ⟨hx, hb, hml, hown, hts⟩ (t_X4_readSequencem_5 l D cI cR cM _ (i := i1) (top := top) (one := one) (w := w) (st := (fupd st (x.toInt + 1) top)) (op := (fupd op x.toInt K1)) (dg := (fupd dg x.toInt D1)) (st1 := (fupd st1 (x.toInt + 1) top)) (op1 := (fupd op1 x.toInt K1)) (dg1 := (fupd dg1 x.toInt D1)) (lv := lv) (gr := gr) (E := E) (F := F) (ks := ks) (vs := vs)  hj hG hI  (by first | assumption | omega | (subst hj1; omega)) (hc1_) (by first | assumption | omega | (subst hj1; omega)) (hRD) (hLv1) (hEC1) (hEO) (by subst hj1; omega) (by subst hj1; omega) (by rw [show z_38.toInt = x.toInt + 1 by omega]; exact hMo) (by rw [show z_38.toInt = x.toInt + 1 by omega]; exact fu_s) (fun k9 h8 h9 => by
          by_cases q9 : k9 = x.toInt + 1
          · rw [q9, fu_s, fu_s]
          · rw [fu_n q9, fu_n q9]; exact hst k9 h8 (by subst hj1; omega)) (fun k9 h8 h9 => by
          by_cases q9 : k9 = x.toInt
          · rw [q9, fu_s, fu_s, fu_s, fu_s]; exact ⟨rfl, rfl⟩
          · rw [fu_n q9, fu_n q9, fu_n q9, fu_n q9]; exact hop k9 h8 (by subst hj1; omega))) (cwV 1 hts gX4_readOne_X4_readSequence rfl rfl rfl (by decide +kernel) ⟨Nat.le_of_ble_eq_true rfl, Nat.le_of_ble_eq_true rfl⟩) (pre_T hK hP hD (gm_13 hG) fg_39 rfl) rfl rfl hl.1 rfl (lv_room (Nat.le_of_ble_eq_true rfl)) dX4_readOne_99 ⟨Nat.le_of_ble_eq_true rfl, Nat.le_of_ble_eq_true rfl⟩) hD hS hA (fun u_40 H locs hw hP hD hS => ?_)
        obtain ⟨r_40, f_40⟩ := u_40
        obtain ⟨hI, hF_40, hp_40, htn_40, hfx_40, h01_40⟩ : IN jn cI cR cM g L S f_40 ∧ FR S [0, 1, 13, 14, 34] f_35 f_40 ∧ (Hd ((r_40.toInt = 1 ∧ SeqR cI jn g lv S f_40 ks vs E i1 z_38.toInt top one w (fupd st (x.toInt + 1) top) (fupd op x.toInt K1) (fupd dg x.toInt D1) (fupd st1 (x.toInt + 1) top) (fupd op1 x.toInt K1) (fupd dg1 x.toInt D1)) ∨ (r_40.toInt = 0 ∧ Fls ks vs E (i1, z_38.toInt, top, one, 0, 0, w, (fupd st1 (x.toInt + 1) top), (fupd op1 x.toInt K1), (fupd dg1 x.toInt D1))))) ∧ (∀ k9 v9 : Int, 0 ≤ k9 → k9 < z_38.toInt → TNf cI g f_35 k9 v9 → TNf cI g f_40 k9 v9) ∧ (FX S (BXp g lv z_38.toInt) [13, 14, 34] f_35 f_40) ∧ (r_40.toInt = 0 ∨ r_40.toInt = 1) := hw
        have hP : va_P D vwCl (va_pl L f_40) H := hP
        have hD : va_D A (va_pl L f_40) := hD
        have hF := FR_tr hF hF_40 (by decide)
        have hFX := FX_tr hFX hfx_40 (fun a9 h9 => h9.imp (fun ⟨k9, h8, h7, h6⟩ => ⟨k9, by omega, h7, h6⟩) id) (by decide)
        have hpz_40 := hp_40
        rw [show z_38.toInt = x.toInt + 1 by omega] at hpz_40
        refine a_if_eq (u := r_40.toInt) (tgt := 127) hx hb dX4_readOne_102 (by decide) (rfl) (fun c_41 => ?_) (fun c_41 => ?_)
        · refine lv_iconst (v := 0) hx hb dX4_readOne_127 (by decide) ?_
          have hz_42 : (0 : Int32).toInt = 0 := by decide
          exact g_zret ((0 : Int32), f_40) hx hb hr hlocks hS (by first | exact Or.inl rfl | exact Or.inr rfl) rfl (⟨hI, hF, show Hd (((0 : Int32).toInt = 1 ∧ OneR cI jn g lv S f_40 ks vs E i x.toInt top one may isO w st op dg st1 op1 dg1) ∨ ((0 : Int32).toInt = 0 ∧ Fls ks vs E (i, x.toInt, top, one, may, isO, w, st1, op1, dg1))) from (Or.inr ⟨rfl, Fls_tr (Go_1 hs1) (hpz_40.resolve_left (fun q9 => by have := q9.1; omega)).2⟩), show ∀ k9 v9 : Int, 0 ≤ k9 → k9 < x.toInt → TNf cI g f k9 v9 → TNf cI g f_40 k9 v9 from (fun k9 v9 h7 h8 h9 => (htn_40 k9 v9 h7 (by subst hj1; omega) (ht_35 k9 v9 h7 (by subst hj1; omega) h9))), show FX S (BXp g lv x.toInt) [13, 14, 34] f f_40 from (by first | assumption | omega | (subst hj1; omega)), show (0 : Int32).toInt = 0 ∨ (0 : Int32).toInt = 1 from (by first | assumption | omega | (subst hj1; omega))⟩) hP hD hQ (Nat.le_of_ble_eq_true rfl) (Nat.le_of_ble_eq_true rfl) dX4_readOne_128
        · obtain ⟨-, n_, i2_, top2_, one2_, may2_, w2_, st2_, op2_, dg2_, ⟨hq0, hq1, hq2, hqs, hqo, hqa, hqm, hqx, -⟩, hqp, hqn⟩ := hpz_40.resolve_right (fun q9 => by have := q9.1; omega)
          have hLv2 := LvC_fr hLv1 hG hF_40 (by decide)
          obtain ⟨-, -, hqi, hqt⟩ := hqx.resolve_left (fun q9 => by have := q9.1; omega)
          refine lv_aload_n hx hb dX4_readOne_105 rfl (lv_at hl 1 rfl) ?_
          refine lv_bipush (v := 41) hx hb dX4_readOne_106 (by decide) ?_
          have hz_43 : (41 : Int32).toInt = 41 := by decide
          obtain ⟨fa_44, pl_44, fg_44⟩ := op_13 hI (gm_13 hG) (gs_13 hG)
          refine call_p (va_runV (As := [.int 41]) (rest := []) ⟨hx, hb, hml, hown, hts⟩ (t_X4_expectm l D cI cR cM _ (ks := ks) (vs := vs) (i := i2_) (K9 := 41)  hj hG hI  (by first | assumption | omega | (subst hj1; omega)) (hq1) (by first | assumption | omega | (subst hj1; omega)) (by decide) (Or.inr ⟨by decide, by decide⟩)) (cwV 1 hts gX4_readOne_X4_expect rfl rfl rfl (by decide +kernel) ⟨Nat.le_of_ble_eq_true rfl, Nat.le_of_ble_eq_true rfl⟩) (pre_T hK hP hD (gm_13 hG) fg_44 rfl) rfl rfl hl.1 rfl (lv_room (Nat.le_of_ble_eq_true rfl)) dX4_readOne_108 ⟨Nat.le_of_ble_eq_true rfl, Nat.le_of_ble_eq_true rfl⟩) hD hS hA (fun u_45 H locs hw hP hD hS => ?_)
          obtain ⟨r_45, f_45⟩ := u_45
          obtain ⟨hI, hF_45, hp_45, hfx_45, h01_45⟩ : IN jn cI cR cM g L S f_45 ∧ FR S [13, 14] f_40 f_45 ∧ ((r_45.toInt = 1 ∧ ks i2_ = 41 ∧ TKm cI g ks vs f_45 (i2_ + 1)) ∨ (r_45.toInt = 0 ∧ ks i2_ ≠ 41)) ∧ (FX S (fun _ => False) [13, 14] f_40 f_45) ∧ (r_45.toInt = 0 ∨ r_45.toInt = 1) := hw
          have hP : va_P D vwCl (va_pl L f_45) H := hP
          have hD : va_D A (va_pl L f_45) := hD
          have hF := FR_tr hF hF_45 (by decide)
          have hFX := FX_tr hFX hfx_45 (fun _ h9 => h9.elim) (by decide)
          refine a_if_eq (u := r_45.toInt) (tgt := 127) hx hb dX4_readOne_111 (by decide) (rfl) (fun c_46 => ?_) (fun c_46 => ?_)
          · refine lv_iconst (v := 0) hx hb dX4_readOne_127 (by decide) ?_
            have hz_47 : (0 : Int32).toInt = 0 := by decide
            exact g_zret ((0 : Int32), f_45) hx hb hr hlocks hS (by first | exact Or.inl rfl | exact Or.inr rfl) rfl (⟨hI, hF, show Hd (((0 : Int32).toInt = 1 ∧ OneR cI jn g lv S f_45 ks vs E i x.toInt top one may isO w st op dg st1 op1 dg1) ∨ ((0 : Int32).toInt = 0 ∧ Fls ks vs E (i, x.toInt, top, one, may, isO, w, st1, op1, dg1))) from (Or.inr ⟨rfl, Fls_tr (Go_tr (Go_1 hs1) hq0) (L_open_F hqn hqm (hp_45.resolve_left (fun q9 => by have := q9.1; omega)).2 (by subst hj1; omega))⟩), show ∀ k9 v9 : Int, 0 ≤ k9 → k9 < x.toInt → TNf cI g f k9 v9 → TNf cI g f_45 k9 v9 from (fun k9 v9 h7 h8 h9 => (TN_fr hG hF_45 (by decide) k9 v9 (htn_40 k9 v9 h7 (by subst hj1; omega) (ht_35 k9 v9 h7 (by subst hj1; omega) h9)))), show FX S (BXp g lv x.toInt) [13, 14, 34] f f_45 from (by first | assumption | omega | (subst hj1; omega)), show (0 : Int32).toInt = 0 ∨ (0 : Int32).toInt = 1 from (by first | assumption | omega | (subst hj1; omega))⟩) hP hD hQ (Nat.le_of_ble_eq_true rfl) (Nat.le_of_ble_eq_true rfl) dX4_readOne_128
          · obtain ⟨-, hk41, hq5⟩ := hp_45.resolve_right (fun q9 => by have := q9.1; omega)
            have hLv3 := LvC_fr hLv2 hG hF_45 (by decide)
            have hMS3 := MSt_fx hq2 hfx_45 (by decide) (fun _ _ _ h9 => h9) (fun k9 v9 _ _ h9 => TN_fr hG hF_45 (by decide) k9 v9 h9)
            obtain ⟨hP1, hP2, hP3, hP4, hP5⟩ := L_pre hMS3 (by subst hj1; omega)
            have hst0 := (hMS.1.2.1 x.toInt (by subst hj1; omega) (Int.le_refl _)).1
            refine lv_aload_n hx hb dX4_readOne_114 rfl (lv_at hl 1 rfl) ?_
            refine lv_iload_n hx hb dX4_readOne_115 rfl (lv_at hl 0 rfl) ?_
            refine lv_iload_n hx hb dX4_readOne_116 rfl (lv_at hl 2 rfl) ?_
            obtain ⟨fa_48, pl_48, fg_48⟩ := op_13 hI (gm_13 hG) (gs_13 hG)
            refine call_p (va_runV (As := [.int kd_4, .int x]) (rest := []) ⟨hx, hb, hml, hown, hts⟩ (t_X4_joinGroupm l D cI cR cM _ (lv := lv) (gr := gr) (a8 := (ks i)) (d := D1) (n0 := (top - st x.toInt)) (m0 := (top2_ - top)) (wr := (fun j => w2_ (2 * st x.toInt + j))) (wi := (fun j => w2_ (2 * top + j)))  hj hG hI  (by first | assumption | omega | (subst hj1; omega)) (kk_5) (⟨(hKO i).1, hkg⟩) (by subst hj1; omega) (hRD) (hLv3) (hP1) (hP2) (by subst hj1; omega) (fun q9 => hP4 (by subst hj1; omega)) (srt_sh (by subst hj1; omega) (fun b9 h8 h9 => hP5 b9 h8 (by subst hj1; omega)))) (cwV 2 hts gX4_readOne_X4_joinGroup rfl rfl rfl (by decide +kernel) ⟨Nat.le_of_ble_eq_true rfl, Nat.le_of_ble_eq_true rfl⟩) (pre_T hK hP hD (gm_13 hG) fg_48 rfl) rfl rfl hl.1 rfl (lv_room (Nat.le_of_ble_eq_true rfl)) dX4_readOne_117 ⟨Nat.le_of_ble_eq_true rfl, Nat.le_of_ble_eq_true rfl⟩) hD hS hA (fun u_49 H locs hw hP hD hS => ?_)
            obtain ⟨r_49, f_49⟩ := u_49
            obtain ⟨hI, hF_49, hp_49, hfx_49, h01_49⟩ : IN jn cI cR cM g L S f_49 ∧ FR S [0, 1, 13] f_45 f_49 ∧ ((r_49.toInt = 1 ∧ (top - st x.toInt) + (top2_ - top) ≤ 24 ∧ ∃ v9 : Int → Int, ChI (ks i) D1 (fun j => w2_ (2 * top + j)) (top2_ - top) v9 ∧ RWf cI jn S f_49 (lv x.toInt.toNat) ((top - st x.toInt) + (top2_ - top)) (fun j => if j < 2 * (top - st x.toInt) then (fun j => w2_ (2 * st x.toInt + j)) j else v9 (j - 2 * (top - st x.toInt)))) ∨ (r_49.toInt = 0 ∧ (24 < (top - st x.toInt) + (top2_ - top) ∨ ChIF (ks i) (fun j => w2_ (2 * top + j)) (top2_ - top)))) ∧ (FX S (fun a9 => a9 = lv x.toInt.toNat ∨ a9 = g 25) [13] f_45 f_49) ∧ (r_49.toInt = 0 ∨ r_49.toInt = 1) := hw
            have hP : va_P D vwCl (va_pl L f_49) H := hP
            have hD : va_D A (va_pl L f_49) := hD
            have hF := FR_tr hF hF_49 (by decide)
            have hFX := FX_tr hFX hfx_49 (fun a9 h9 => h9.elim (fun q9 => Or.inl ⟨x.toInt.toNat, Nat.le_refl _, by omega, q9⟩) (fun q9 => Or.inr (Or.inr q9))) (by decide)
            refine a_if_eq (u := r_49.toInt) (tgt := 127) hx hb dX4_readOne_120 (by decide) (rfl) (fun c_50 => ?_) (fun c_50 => ?_)
            · refine lv_iconst (v := 0) hx hb dX4_readOne_127 (by decide) ?_
              have hz_51 : (0 : Int32).toInt = 0 := by decide
              exact g_zret ((0 : Int32), f_49) hx hb hr hlocks hS (by first | exact Or.inl rfl | exact Or.inr rfl) rfl (⟨hI, hF, show Hd (((0 : Int32).toInt = 1 ∧ OneR cI jn g lv S f_49 ks vs E i x.toInt top one may isO w st op dg st1 op1 dg1) ∨ ((0 : Int32).toInt = 0 ∧ Fls ks vs E (i, x.toInt, top, one, may, isO, w, st1, op1, dg1))) from (by
                have h8 := (hp_49.resolve_left (fun q9 => by have := q9.1; omega)).2
                refine Or.inr ⟨rfl, Fls_tr (Go_tr (Go_1 hs1) hq0) (Fls_0 (F_closes hk41 rfl (by subst hj1; omega) ?_))⟩
                have t1 : st2_ (x.toInt + 1 - 1) = st x.toInt := by rw [show x.toInt + 1 - 1 = x.toInt by omega, hqs _ (by subst hj1; omega) (by subst hj1; omega), fu_n (by subst hj1; omega)]
                have t2 : st2_ (x.toInt + 1) = top := by rw [hqs _ (by subst hj1; omega) (by subst hj1; omega), fu_s]
                have t3 : op2_ (x.toInt + 1 - 1) = K1 := by rw [show x.toInt + 1 - 1 = x.toInt by omega, (hqo _ (by subst hj1; omega) (by subst hj1; omega)).1, fu_s]
                rw [t1, t2, t3]
                exact h8.imp (fun q9 => by omega) (fun q9 => Ch_upF q9 hK1)), show ∀ k9 v9 : Int, 0 ≤ k9 → k9 < x.toInt → TNf cI g f k9 v9 → TNf cI g f_49 k9 v9 from (fun k9 v9 h7 h8 h9 => TN_fr hG hF_49 (by decide) k9 v9 (TN_fr hG hF_45 (by decide) k9 v9 (htn_40 k9 v9 h7 (by subst hj1; omega) (ht_35 k9 v9 h7 (by subst hj1; omega) h9)))), show FX S (BXp g lv x.toInt) [13, 14, 34] f f_49 from (by first | assumption | omega | (subst hj1; omega)), show (0 : Int32).toInt = 0 ∨ (0 : Int32).toInt = 1 from (by first | assumption | omega | (subst hj1; omega))⟩) hP hD hQ (Nat.le_of_ble_eq_true rfl) (Nat.le_of_ble_eq_true rfl) dX4_readOne_128
            · obtain ⟨-, hj5, v9_, hj6, hj7⟩ := hp_49.resolve_right (fun q9 => by have := q9.1; omega)
              obtain ⟨w3_, hc1, hc2, hc3⟩ := L_close (f := f) (ks := ks) (vs := vs) (E := E) (i := i2_) (one := one2_) (may := may2_) (a := ks i) (K := K1) (D := D1) (w := w) (st := st) (op := op) (dg := dg) (st2 := st2_) (op2 := op2_) (dg2 := dg2_) hP5 (fun top9 w9 q1 q2 q3 => MSb_fx hMS.1 hFX (by decide) (nb_lv hRD (by subst hj1; omega)) (fun k9 v9 h7 h8 h9 => TN_fr hG hF_49 (by decide) k9 v9 (TN_fr hG hF_45 (by decide) k9 v9 (htn_40 k9 v9 h7 (by subst hj1; omega) (ht_35 k9 v9 h7 (by subst hj1; omega) h9)))) q1 q2 q3) (fun j9 h8 h9 => hqa j9 h8 (by rw [fu_s]; exact h9)) hst0 (by subst hj1; omega) (by subst hj1; omega) hqt hk41 (by rw [hqs _ (by subst hj1; omega) (by subst hj1; omega), fu_n (by subst hj1; omega)]) (by rw [hqs _ (by subst hj1; omega) (by subst hj1; omega), fu_s]) (by rw [(hqo _ (by subst hj1; omega) (by subst hj1; omega)).1, fu_s]) (by rw [(hqo _ (by subst hj1; omega) (by subst hj1; omega)).2, fu_s]) hK1 (by subst hj1; omega) hj6 hj7
              refine lv_iconst (v := 1) hx hb dX4_readOne_123 (by decide) ?_
              refine lv_goto (tgt := 128) hx hb dX4_readOne_124 (by decide) ?_
              have hz_52 : (1 : Int32).toInt = 1 := by decide
              exact g_zret ((1 : Int32), f_49) hx hb hr hlocks hS (by first | exact Or.inl rfl | exact Or.inr rfl) rfl (⟨hI, hF, show Hd (((1 : Int32).toInt = 1 ∧ OneR cI jn g lv S f_49 ks vs E i x.toInt top one may isO w st op dg st1 op1 dg1) ∨ ((1 : Int32).toInt = 0 ∧ Fls ks vs E (i, x.toInt, top, one, may, isO, w, st1, op1, dg1))) from (Or.inl ⟨rfl, i2_ + 1, top2_, w3_, st2_, op2_, dg2_, Go_tr (Go_1 hs1) (Go_tr hq0 (Go_1 hc1)), by omega, by omega, TKm_fr hq5 hG hF_49 (by decide), hc2, fun k9 h8 h7 => by rw [hqs k9 h8 (by subst hj1; omega), fu_n (show k9 ≠ x.toInt + 1 by omega)], fun k9 h8 h7 => by rw [(hqo k9 h8 (by subst hj1; omega)).1, (hqo k9 h8 (by subst hj1; omega)).2, fu_n (show k9 ≠ x.toInt by omega), fu_n (show k9 ≠ x.toInt by omega)]; exact ⟨rfl, rfl⟩, hc3⟩), show ∀ k9 v9 : Int, 0 ≤ k9 → k9 < x.toInt → TNf cI g f k9 v9 → TNf cI g f_49 k9 v9 from (fun k9 v9 h7 h8 h9 => TN_fr hG hF_49 (by decide) k9 v9 (TN_fr hG hF_45 (by decide) k9 v9 (htn_40 k9 v9 h7 (by subst hj1; omega) (ht_35 k9 v9 h7 (by subst hj1; omega) h9)))), show FX S (BXp g lv x.toInt) [13, 14, 34] f f_49 from (by first | assumption | omega | (subst hj1; omega)), show (1 : Int32).toInt = 0 ∨ (1 : Int32).toInt = 1 from (by first | assumption | omega | (subst hj1; omega))⟩) hP hD hQ (Nat.le_of_ble_eq_true rfl) (Nat.le_of_ble_eq_true rfl) dX4_readOne_128
  · refine lv_aload_n hx hb dX4_readOne_7 rfl (lv_at hl 0 rfl) ?_
    refine lv_iconst (v := 1) hx hb dX4_readOne_8 (by decide) ?_
    have hz_53 : (1 : Int32).toInt = 1 := by decide
    refine call_p (va_runV (As := [.int 1]) (rest := []) ⟨hx, hb, hml, hown, hts⟩ (t_X4_fail l D cI cR cM _   hj hG hI  ) (cwV 1 hts gX4_readOne_X4_fail rfl rfl rfl (by decide +kernel) ⟨Nat.le_of_ble_eq_true rfl, Nat.le_of_ble_eq_true rfl⟩) (pre_T hK hP hD (gm_13 hG) fg_1 rfl) rfl rfl hl.1 rfl (lv_room (Nat.le_of_ble_eq_true rfl)) dX4_readOne_9 ⟨Nat.le_of_ble_eq_true rfl, Nat.le_of_ble_eq_true rfl⟩) hD hS hA (fun u_54 H locs hw hP hD hS => ?_)
    obtain ⟨r_54, f_54⟩ := u_54
    obtain ⟨hI, hF_54, h0_54, h01_54⟩ : IN jn cI cR cM g L S f_54 ∧ FR S [13] f f_54 ∧ (r_54.toInt = 0) ∧ (r_54.toInt = 0 ∨ r_54.toInt = 1) := hw
    have hP : va_P D vwCl (va_pl L f_54) H := hP
    have hD : va_D A (va_pl L f_54) := hD
    have hF := FR_tr hF hF_54 (by decide)
    have hFX := FX_trR hFX hF_54 (by decide) (by decide)
    exact g_zret (r_54, f_54) hx hb hr hlocks hS (b01 (by subst hj1; omega)) rfl (⟨hI, hF, show Hd ((r_54.toInt = 1 ∧ OneR cI jn g lv S f_54 ks vs E i x.toInt top one may isO w st op dg st1 op1 dg1) ∨ (r_54.toInt = 0 ∧ Fls ks vs E (i, x.toInt, top, one, may, isO, w, st1, op1, dg1))) from (Or.inr ⟨h0_54, by
      have h8 := (hp_2.resolve_left (fun q9 => by have := q9.1; omega)).2
      obtain ⟨e1, e2⟩ := hbg.resolve_right h8
      rw [e1, e2]
      exact L_none h8⟩), show ∀ k9 v9 : Int, 0 ≤ k9 → k9 < x.toInt → TNf cI g f k9 v9 → TNf cI g f_54 k9 v9 from (fun k9 v9 _ _ h9 => TN_fr hG hF_54 (by decide) k9 v9 h9), show FX S (BXp g lv x.toInt) [13, 14, 34] f f_54 from (by first | assumption | omega | (subst hj1; omega)), show r_54.toInt = 0 ∨ r_54.toInt = 1 from (by first | assumption | omega | (subst hj1; omega))⟩) hP hD hQ (Nat.le_of_ble_eq_true rfl) (Nat.le_of_ble_eq_true rfl) dX4_readOne_12
set_option maxRecDepth 100000 in
set_option maxHeartbeats 4000000 in
theorem t_X4_readSequencem_6 (l : Launch) (D : va_G) (cI cR cM : ClassId) (sz : Nat) {jn : Nat} {g : Nat → Nat} {L : List Nat} {S : Sg} {f : Nat → va_E} {x : Int32} {ks vs : Nat → Int} {i : Nat} {lv gr : Nat → Nat} {E : Env1} {F : Int → Int} {top one : Int} {w st op dg st1 op1 dg1 : Int → Int} (hj : 1 ≤ jn ∧ jn ≤ 3) (hG : SG g L S) (hI : IN jn cI cR cM g L S f) (hj1 : jn = 1) (hC : TKm cI g ks vs f i) (hKO : KO ks vs) (hRD : RDC g lv gr S) (hLv : LvC cR g lv f) (hEC : EnvC cI cR jn g lv gr S f E F) (hEO : EOk E) (hx0 : 0 ≤ x.toInt ∧ x.toInt ≤ 5) (hd : 0 ≤ x.toInt) (hMS : MSb cI jn g lv S f x.toInt top w st op dg) (htop : st x.toInt = top) (hst : ∀ k9 : Int, 0 ≤ k9 → k9 ≤ x.toInt → st1 k9 = st k9) (hop : ∀ k9 : Int, 0 ≤ k9 → k9 < x.toInt → op1 k9 = op k9 ∧ dg1 k9 = dg k9) : Met l yX4_readSequence wsX4_readSequence ({ frames := 14, cells := 0, slots := 0, locals := 363 }) (P0 D cI cR cM [.ref (g 13), .int x] sz (va_pl L f)) (QG (S := Int32 × (Nat → va_E)) (fun u => some (.int u.1)) (fun u => va_pl L u.2) (fun u => IN jn cI cR cM g L S u.2 ∧ FR S [0, 1, 13, 14, 34] f u.2 ∧ (Hd ((u.1.toInt = 1 ∧ SeqR cI jn g lv S u.2 ks vs E i x.toInt top one w st op dg st1 op1 dg1) ∨ (u.1.toInt = 0 ∧ Fls ks vs E (i, x.toInt, top, one, 0, 0, w, st1, op1, dg1)))) ∧ (∀ k9 v9 : Int, 0 ≤ k9 → k9 < x.toInt → TNf cI g f k9 v9 → TNf cI g u.2 k9 v9) ∧ (FX S (BXp g lv x.toInt) [13, 14, 34] f u.2) ∧ (u.1.toInt = 0 ∨ u.1.toInt = 1)) D (va_A (va_pl L f) sz)) 0 0 (va_A (va_pl L f) sz) := by
  refine go (cc := cX4_readSequence) (maxL := 5) (ret := (some .boolean)) (by decide +kernel) rfl (Nat.le_of_ble_eq_true rfl) ?_
  intro p e s m below meth c ls args Q hQ hsz hx hb hr hml hts hown hlocks hnm hP hK hD hl
  subst hsz
  have hD := hD.self (sz := s.heap.size)
  generalize hAe : va_A (va_pl L f) s.heap.size = A at hD hQ
  have hA : ∀ q, s.heap.size ≤ q → A q := fun q h => by rw [← hAe]; exact Or.inr h
  have hS : va_S A s.heap s.heap [] := va_S.rf
  have hFX : FX S (BXp g lv x.toInt) [13, 14, 34] f f := FX_rf
  have hF : FR S [0, 1, 13, 14, 34] f f := FR_rf
  have hl : lv_has ls 5 [(0, .ref (g 13)), (1, .int x)] := hl
  refine lv_iload_n hx hb dX4_readSequence_0 rfl (lv_at hl 1 rfl) ?_
  refine a_if_lt (u := x.toInt) (tgt := 9) hx hb dX4_readSequence_1 (by decide) (rfl) (fun c_1 => absurd c_1 (by subst hj1; omega)) (fun c_1 => ?_)
  refine lv_iload_n hx hb dX4_readSequence_4 rfl (lv_at hl 1 rfl) ?_
  refine lv_iconst (v := 5) hx hb dX4_readSequence_5 (by decide) ?_
  refine a_icmp_le (u := x.toInt) (v := 5) (tgt := 15) hx hb dX4_readSequence_6 (by decide) (rfl) (by decide) (fun c_2 => ?_) (fun c_2 => absurd c_2 (by subst hj1; omega))
  refine lv_aload_n hx hb dX4_readSequence_15 rfl (lv_at hl 0 rfl) ?_
  obtain ⟨fa_3, pl_3, fg_3⟩ := op_13 hI (gm_13 hG) (gs_13 hG)
  refine t_get (D := D) (L := L) (f := f) (ci := 4) (v := .ref (g 22)) (C := RX4) (T := TX4) (N := 11) hx hb hts (by decide +kernel) hown hK.1 hP (gm_13 hG) fg_3 rfl 3 (by decide) (hts (.fieldLink RX4 13 "JugglingHall$Reader" "levels" "[LJugglingHall$Row;") (by decide +kernel)) (fun _ h9 => h9) rfl dX4_readSequence_16 ?_
  refine lv_iload_n hx hb dX4_readSequence_19 rfl (lv_at hl 1 rfl) ?_
  obtain ⟨c_4, fg_4, iv0_4⟩ := op_22 hI (gm_22 hG) (gs_22 hG)
  refine t_aald (L := L) (f := f) (y := c_4) (u := x.toInt) hx hb hK.1 hP (gm_22 hG) 1 fg_4 rfl dX4_readSequence_20 (rfl) (by subst hj1; omega) (fun w_5 q_5 => ?_)
  obtain ⟨r_5, p_5, n_5, er_5, m_5, s_5⟩ := iv0_4 x.toInt (by subst hj1; omega) (by subst hj1; omega)
  have q_5 := q_5.trans er_5
  subst q_5
  refine W.eq (g2 := F0 m 21 ls [.ref r_5]) rfl ?_
  have hh_5 : r_5 = lv x.toInt.toNat := LvC_at (l := x.toInt) hLv fg_4 (by subst hj1; omega) (by subst hj1; omega) (by rw [show x.toInt = x.toInt by omega]; exact er_5)
  have hN_5 := cap_of (S := S) (a := r_5) (k := 48) (by rw [hh_5]; exact (hRD.2.1 _ (by subst hj1; omega)).1) s_5
  obtain ⟨len_6, fg_6, v1_6, v2_6, v3_6, mp_6, sp_6⟩ := op_0 hI m_5 s_5
  obtain ⟨w1_6, w2_6, w3_6, w4_6, w5_6⟩ := lenw hj v1_6 v2_6 v3_6
  obtain ⟨c_7, fg_7, iv0_7⟩ := op_1 hI mp_6 sp_6
  refine lv_astore_n (lv' := [(2, .ref r_5), (0, .ref (g 13)), (1, .int x)]) hx hb dX4_readSequence_21 rfl hl (by decide) rfl (fun ls hl => ?_)
  refine lv_aload_n hx hb dX4_readSequence_22 rfl (lv_at hl 0 rfl) ?_
  refine lv_iconst (v := 0) hx hb dX4_readSequence_23 (by decide) ?_
  have hz_9 : (0 : Int32).toInt = 0 := by decide
  refine t_putN (D := D) (L := L) (f := f) (ci := 5) (v := .int 0) (ty := .int) (C := RX5) (T := TX5) (N := 4) (host := "JugglingHall") hx hb hts (by decide +kernel) tyX5 tyX5_ok nmX5 hown hK.1 hP hD hS m_5 fg_6 rfl 3 (by decide) (hK.nw (.fieldLinkNest RX4 62 "JugglingHall$Row" "length" "I" "JugglingHall") (by decide +kernel) rfl) (fun _ h9 => h9) rfl (by decide +kernel) rfl rfl (Nat.le_of_ble_eq_true rfl) dX4_readSequence_24 (fun f_8 H locs e9_8 o_8 hP hD hS => ?_)
  have fa_8 : f_8 r_5 = .inr (5, [.int (nI jn), .int (nI (2 * jn)), .ref p_5, .int 0]) := e9_8
  have hI := IN_set (e := .inr (5, [.int (nI jn), .int (nI (2 * jn)), .ref p_5, .int 0])) hI s_5 (mk_0 (by first | assumption | omega | (subst hj1; omega)) (by rw [show (0 : Int32).toInt = 0 from rfl, Int.zero_mul]; omega) (by first | assumption | omega | (subst hj1; omega)) (by first | assumption | omega | (subst hj1; omega)) (by first | assumption | omega | (subst hj1; omega))) fa_8 o_8
  have hF := FR_set hF s_5 (show (0 : Nat) ∈ ([0, 1, 13, 14, 34] : List Nat) by decide) o_8
  have hFX := FX_set0 hFX s_5 (Or.inl ⟨x.toInt.toNat, Nat.le_refl _, by omega, hh_5⟩) o_8
  have fb_10 : f_8 (g 13) = .inr (4, [.int (nI jn), .ref (g 14), .ref (g 12), .ref (g 22), .ref (g 34), .ref (g 23), .ref (g 24), .ref (g 25), .ref (g 26), .int fa_3, .int pl_3]) := f_at o_8 (S_ne (gs_13 hG) s_5 (show (13 : Nat) ≠ 0 by decide)) fg_3
  have fb_11 : f_8 (g 22) = .inl (cR, 6, .inr (.inr (.inr (.inr c_4)))) := f_at o_8 (S_ne (gs_22 hG) s_5 (show (22 : Nat) ≠ 0 by decide)) fg_4
  have fb_12 : f_8 p_5 = .inl (cI, n_5, .inl c_7) := f_at o_8 (S_ne sp_6 s_5 (show (1 : Nat) ≠ 0 by decide)) fg_7
  have hC1 : TKm cI g ks vs f_8 i := TKm_o hC hG s_5 (show (0 : Nat) ∉ ([14, 31, 32] : List Nat) by decide) o_8
  have hLv1 := LvC_fr hLv hG hF (by decide)
  have hEC1 := EnvC_fx hEC hG hF hFX (by decide) (by decide) (nb_gr hRD) nb_nr
  have htl1 : ∀ k9 v9 : Int, 0 ≤ k9 → k9 < x.toInt → TNf cI g f k9 v9 → TNf cI g f_8 k9 v9 := fun k9 v9 _ _ h9 => TN_o hG s_5 (show (0 : Nat) ≠ 34 by decide) o_8 k9 v9 h9
  have hM1 : MSt cI jn g lv S f_8 x.toInt top w st op dg := ⟨MSb_fx hMS hFX (by decide) (nb_lv hRD (by subst hj1; omega)) htl1 (fun _ _ _ => rfl) (by subst hj1; omega) hMS.2.2.2.2, by omega, RWf_e (b := r_5) ⟨_, _, _, _, s_5, sp_6, fa_8, fb_12, by rw [show (0 : Int32).toInt = 0 from rfl]; omega, fun i9 h8 h9 => absurd h9 (by subst hj1; omega)⟩ hh_5.symm⟩
  refine lv_iconst (v := 0) hx hb dX4_readSequence_27 (by decide) ?_
  refine lv_istore_n (lv' := [(3, .int 0), (2, .ref r_5), (0, .ref (g 13)), (1, .int x)]) hx hb dX4_readSequence_28 rfl hl (by decide) rfl (fun ls hl => ?_)
  have loop29 : ∀ (ddloop29 : Nat) (ii : Int32) (f_13 : Nat → va_E) (H : Heap) (locs : List Loc) (ls : Array Slot), (400 - ii.toInt).toNat < ddloop29 → IN jn cI cR cM g L S f_13 → FR S [0, 1, 13, 14, 34] f f_13 → (0 ≤ ii.toInt ∧ ii.toInt ≤ 301) → (Hd (∃ (i2 : Nat) (top2 one2 may2 isO2 : Int) (w2 st2 op2 dg2 : Int → Int), SeqI cI jn g lv S f_13 ks vs E i x.toInt top one w st op dg st1 op1 dg1 ii.toInt i2 top2 one2 may2 isO2 w2 st2 op2 dg2)) → (LvC cR g lv f_13) → (EnvC cI cR jn g lv gr S f_13 E F) → (∀ k9 v9 : Int, 0 ≤ k9 → k9 < x.toInt → TNf cI g f k9 v9 → TNf cI g f_13 k9 v9) → (FX S (BXp g lv x.toInt) [13, 14, 34] f f_13) → va_P D vwCl (va_pl L f_13) H → va_D A (va_pl L f_13) → va_S A s.heap H locs → lv_has ls 5 [(0, .ref (g 13)), (1, .int x), (2, .ref r_5), (3, .int ii)] → W p l e ({ frames := 14, cells := 0, slots := 0, locals := 363 }) s m args below meth c H locs (0) (0) Q (F0 m 29 ls []) := by
    intro ddloop29
    induction ddloop29 with
    | zero =>
      intro ii f_13 H locs ls hdd
      exact absurd hdd (Nat.not_lt_zero _)
    | succ ddloop29 ih29 =>
      intro ii f_13 H locs ls hdd hI hF hi hSI hLvl hECl htl hFX hP hD hS hl
      obtain ⟨i2, top2, one2, may2, isO2, w2, st2, op2, dg2, j1, j2, j3, j4, j5, j6, j7, j8, j9⟩ := hSI
      have hst0 := (hMS.2.1 x.toInt (by subst hj1; omega) (Int.le_refl _)).1
      have htl0 := j3.1.2.2.2.1
      refine lv_iload_n hx hb dX4_readSequence_29 rfl (lv_at hl 3 rfl) ?_
      refine lv_sipush (v := 300) hx hb dX4_readSequence_30 (by decide) ?_
      refine a_icmp_gt (u := ii.toInt) (v := 300) (tgt := 79) hx hb dX4_readSequence_33 (by decide) (rfl) (by decide) (fun c_14 => ?_) (fun c_14 => ?_)
      · refine lv_iconst (v := 1) hx hb dX4_readSequence_79 (by decide) ?_
        have hz_15 : (1 : Int32).toInt = 1 := by decide
        exact g_zret ((1 : Int32), f_13) hx hb hr hlocks hS (by first | exact Or.inl rfl | exact Or.inr rfl) rfl (⟨hI, hF, show Hd (((1 : Int32).toInt = 1 ∧ SeqR cI jn g lv S f_13 ks vs E i x.toInt top one w st op dg st1 op1 dg1) ∨ ((1 : Int32).toInt = 0 ∧ Fls ks vs E (i, x.toInt, top, one, 0, 0, w, st1, op1, dg1))) from (by
          obtain ⟨e1, e2, e3, e4⟩ := j8.resolve_left (fun q9 => by have := q9.1; omega)
          rw [e2] at j1
          exact Or.inl ⟨rfl, ii.toInt, i2, top2, one2, may2, w2, st2, op2, dg2, ⟨j1, j2, j3, j4, j5, j6, j7, Or.inr ⟨e1, rfl, e3, e4⟩, j9⟩, e1, by have := TKm_end j2 (by subst hj1; omega); omega⟩), show ∀ k9 v9 : Int, 0 ≤ k9 → k9 < x.toInt → TNf cI g f k9 v9 → TNf cI g f_13 k9 v9 from (htl), show FX S (BXp g lv x.toInt) [13, 14, 34] f f_13 from (by first | assumption | omega | (subst hj1; omega)), show (1 : Int32).toInt = 0 ∨ (1 : Int32).toInt = 1 from (by first | assumption | omega | (subst hj1; omega))⟩) hP hD hQ (Nat.le_of_ble_eq_true rfl) (Nat.le_of_ble_eq_true rfl) dX4_readSequence_80
      · refine lv_iload_n hx hb dX4_readSequence_36 rfl (lv_at hl 3 rfl) ?_
        refine a_if_eq (u := ii.toInt) (tgt := 47) hx hb dX4_readSequence_37 (by decide) (rfl) (fun c_16 => ?_) (fun c_16 => ?_)
        · refine lv_aload_n hx hb dX4_readSequence_47 rfl (lv_at hl 2 rfl) ?_
          have hRl := RWf_e j3.2.2 hh_5
          obtain ⟨len_17, fg_17, v1_17, v2_17, v3_17, mp_17, sp_17⟩ := op_0 hI m_5 s_5
          obtain ⟨w1_17, w2_17, w3_17, w4_17, w5_17⟩ := lenw hj v1_17 v2_17 v3_17
          obtain ⟨c_18, fg_18, iv0_18⟩ := op_1 hI mp_6 sp_6
          obtain ⟨hl_19, hc_19⟩ := RWf_at hRl s_5 fg_17 fg_18
          refine t_getN (D := D) (L := L) (f := f_13) (ci := 5) (v := .int len_17) (C := RX5) (T := TX5) (N := 4) (host := "JugglingHall") hx hb hts (by decide +kernel) hown hK.1 hP m_5 fg_17 rfl 3 (by decide) (hK.nw (.fieldLinkNest RX4 62 "JugglingHall$Row" "length" "I" "JugglingHall") (by decide +kernel) rfl) (fun _ h9 => h9) rfl dX4_readSequence_48 ?_
          refine lv_istore (lv' := [(4, .int len_17), (0, .ref (g 13)), (1, .int x), (2, .ref r_5), (3, .int ii)]) hx hb dX4_readSequence_51 hl (by decide) rfl (fun ls hl => ?_)
          refine lv_aload_n hx hb dX4_readSequence_53 rfl (lv_at hl 1 rfl) ?_
          refine lv_iload_n hx hb dX4_readSequence_54 rfl (lv_at hl 2 rfl) ?_
          obtain ⟨fa_20, pl_20, fg_20⟩ := op_13 hI (gm_13 hG) (gs_13 hG)
          refine call_p (va_runV (As := [.int x]) (rest := []) ⟨hx, hb, hml, hown, hts⟩ (t_X4_readOnem_6 l D cI cR cM _ (i := i2) (top := top2) (one := one2) (may := may2) (isO := isO2) (w := w2) (st := st) (op := op) (dg := dg) (st1 := st2) (op1 := op2) (dg1 := dg2) (lv := lv) (gr := gr) (E := E) (F := F) (ks := ks) (vs := vs)  hj hG hI  (by first | assumption | omega | (subst hj1; omega)) (j2) (by first | assumption | omega | (subst hj1; omega)) (by first | assumption | omega | (subst hj1; omega)) (hLvl) (hECl) (by first | assumption | omega | (subst hj1; omega)) (by first | assumption | omega | (subst hj1; omega)) (by first | assumption | omega | (subst hj1; omega)) (j3) (j4) (j5) (j7) (Or.inl (j8.elim (fun q9 => ⟨q9.2.1, q9.2.2.1⟩) (fun q9 => by have := q9.1; omega)))) (cwV 1 hts gX4_readSequence_X4_readOne rfl rfl rfl (by decide +kernel) ⟨Nat.le_of_ble_eq_true rfl, Nat.le_of_ble_eq_true rfl⟩) (pre_T hK hP hD (gm_13 hG) fg_20 rfl) rfl rfl hl.1 rfl (lv_room (Nat.le_of_ble_eq_true rfl)) dX4_readSequence_55 ⟨Nat.le_of_ble_eq_true rfl, Nat.le_of_ble_eq_true rfl⟩) hD hS hA (fun u_21 H locs hw hP hD hS => ?_)
          obtain ⟨r_21, f_21⟩ := u_21
          obtain ⟨hI, hF_21, hp_21, htn_21, hfx_21, h01_21⟩ : IN jn cI cR cM g L S f_21 ∧ FR S [0, 1, 13, 14, 34] f_13 f_21 ∧ (Hd ((r_21.toInt = 1 ∧ OneR cI jn g lv S f_21 ks vs E i2 x.toInt top2 one2 may2 isO2 w2 st op dg st2 op2 dg2) ∨ (r_21.toInt = 0 ∧ Fls ks vs E (i2, x.toInt, top2, one2, may2, isO2, w2, st2, op2, dg2)))) ∧ (∀ k9 v9 : Int, 0 ≤ k9 → k9 < x.toInt → TNf cI g f_13 k9 v9 → TNf cI g f_21 k9 v9) ∧ (FX S (BXp g lv x.toInt) [13, 14, 34] f_13 f_21) ∧ (r_21.toInt = 0 ∨ r_21.toInt = 1) := hw
          have hP : va_P D vwCl (va_pl L f_21) H := hP
          have hD : va_D A (va_pl L f_21) := hD
          have hF := FR_tr hF hF_21 (by decide)
          have hFX := FX_tr hFX hfx_21 (fun _ h9 => h9) (by decide)
          refine a_if_eq (u := r_21.toInt) (tgt := 71) hx hb dX4_readSequence_58 (by decide) (rfl) (fun c_22 => ?_) (fun c_22 => ?_)
          · refine lv_iconst (v := 0) hx hb dX4_readSequence_71 (by decide) ?_
            have hz_23 : (0 : Int32).toInt = 0 := by decide
            exact g_zret ((0 : Int32), f_21) hx hb hr hlocks hS (by first | exact Or.inl rfl | exact Or.inr rfl) rfl (⟨hI, hF, show Hd (((0 : Int32).toInt = 1 ∧ SeqR cI jn g lv S f_21 ks vs E i x.toInt top one w st op dg st1 op1 dg1) ∨ ((0 : Int32).toInt = 0 ∧ Fls ks vs E (i, x.toInt, top, one, 0, 0, w, st1, op1, dg1))) from (Or.inr ⟨rfl, Fls_tr j1 (hp_21.resolve_left (fun q9 => by have := q9.1; omega)).2⟩), show ∀ k9 v9 : Int, 0 ≤ k9 → k9 < x.toInt → TNf cI g f k9 v9 → TNf cI g f_21 k9 v9 from (fun k9 v9 h7 h8 h9 => htn_21 k9 v9 h7 h8 (htl k9 v9 h7 h8 h9)), show FX S (BXp g lv x.toInt) [13, 14, 34] f f_21 from (by first | assumption | omega | (subst hj1; omega)), show (0 : Int32).toInt = 0 ∨ (0 : Int32).toInt = 1 from (by first | assumption | omega | (subst hj1; omega))⟩) hP hD hQ (Nat.le_of_ble_eq_true rfl) (Nat.le_of_ble_eq_true rfl) dX4_readSequence_72
          · obtain ⟨-, i3_, top3_, w3_, st3_, op3_, dg3_, j1_, j2_, j3_, j4_, j5_, j6_, j7_, j8_⟩ := hp_21.resolve_right (fun q9 => by have := q9.1; omega)
            have hLv2 := LvC_fr hLvl hG hF_21 (by decide)
            have hEC2 := EnvC_fx hECl hG hF_21 hfx_21 (by decide) (by decide) (nb_gr hRD) nb_nr
            have htl2 := j5_.1.2.2.2.1
            refine lv_aload_n hx hb dX4_readSequence_61 rfl (lv_at hl 1 rfl) ?_
            refine lv_aload_n hx hb dX4_readSequence_62 rfl (lv_at hl 3 rfl) ?_
            refine lv_iload hx hb dX4_readSequence_63 (lv_at hl 0 rfl) ?_
            have hRo := RWf_e j5_.2.2 hh_5
            have hlf : len_17.toInt = top2 - st x.toInt := hl_19
            obtain ⟨len_24, fg_24, v1_24, v2_24, v3_24, mp_24, sp_24⟩ := op_0 hI m_5 s_5
            obtain ⟨w1_24, w2_24, w3_24, w4_24, w5_24⟩ := lenw hj v1_24 v2_24 v3_24
            obtain ⟨c_25, fg_25, iv0_25⟩ := op_1 hI mp_6 sp_6
            obtain ⟨hl_26, hc_26⟩ := RWf_at hRo s_5 fg_24 fg_25
            obtain ⟨fa_27, pl_27, fg_27⟩ := op_13 hI (gm_13 hG) (gs_13 hG)
            refine call_p (va_runV (As := [.ref r_5, .int len_17]) (rest := []) ⟨hx, hb, hml, hown, hts⟩ (t_X4_readTimesm l D cI cR cM _ (ks := ks) (vs := vs) (i := i3_) (w := (fun j => w3_ (2 * st x.toInt + j)))  hj hG hI m_5 s_5 fg_24 fg_25 (by first | assumption | omega | (subst hj1; omega)) (j4_) (by first | assumption | omega | (subst hj1; omega)) (by subst hj1; omega) (by rw [hl_26]; exact hc_26)) (cwV 2 hts gX4_readSequence_X4_readTimes rfl rfl rfl (by decide +kernel) ⟨Nat.le_of_ble_eq_true rfl, Nat.le_of_ble_eq_true rfl⟩) (pre_T hK hP hD (gm_13 hG) fg_27 rfl) rfl rfl hl.1 rfl (lv_room (Nat.le_of_ble_eq_true rfl)) dX4_readSequence_65 ⟨Nat.le_of_ble_eq_true rfl, Nat.le_of_ble_eq_true rfl⟩) hD hS hA (fun u_28 H locs hw hP hD hS => ?_)
            obtain ⟨r_28, f_28⟩ := u_28
            obtain ⟨hI, hF_28, hp_28, hfx_28, h01_28⟩ : IN jn cI cR cM g L S f_28 ∧ FR S [0, 1, 13, 14] f_21 f_28 ∧ ((r_28.toInt = 1 ∧ ((ks i3_ ≠ 42 ∧ TKm cI g ks vs f_28 i3_ ∧ RWf cI jn S f_28 r_5 len_24.toInt (fun j => w3_ (2 * st x.toInt + j))) ∨ (ks i3_ = 42 ∧ ks (i3_ + 1) = 1 ∧ vs (i3_ + 1) ≠ 0 ∧ TKm cI g ks vs f_28 (i3_ + 1 + 1) ∧ 2 * (len_24.toInt + (vs (i3_ + 1) - 1) * (len_24.toInt - len_17.toInt)) ≤ (n_5 : Int) ∧ RWf cI jn S f_28 r_5 (len_24.toInt + (vs (i3_ + 1) - 1) * (len_24.toInt - len_17.toInt)) (tmW (fun j => w3_ (2 * st x.toInt + j)) len_24.toInt len_17.toInt)))) ∨ (r_28.toInt = 0 ∧ ks i3_ = 42 ∧ ¬ (ks (i3_ + 1) = 1 ∧ vs (i3_ + 1) ≠ 0 ∧ 2 * (len_24.toInt + (vs (i3_ + 1) - 1) * (len_24.toInt - len_17.toInt)) ≤ (n_5 : Int)))) ∧ (FX S (fun a9 => a9 = r_5) [13, 14] f_21 f_28) ∧ (r_28.toInt = 0 ∨ r_28.toInt = 1) := hw
            have hP : va_P D vwCl (va_pl L f_28) H := hP
            have hD : va_D A (va_pl L f_28) := hD
            have hF := FR_tr hF hF_28 (by decide)
            have hFX := FX_tr hFX hfx_28 (fun a9 h9 => Or.inl ⟨x.toInt.toNat, Nat.le_refl _, by omega, h9.trans hh_5⟩) (by decide)
            refine a_if_ne (u := r_28.toInt) (tgt := 73) hx hb dX4_readSequence_68 (by decide) (rfl) (fun c_29 => ?_) (fun c_29 => ?_)
            · obtain ⟨z_30, q_30, e_30⟩ := i_inc (a := ii.toInt) (1) (rfl) (by decide) (by subst hj1; omega) (by subst hj1; omega)
              refine lv_iinc (v := z_30) (lv' := [(3, .int z_30), (4, .int len_17), (0, .ref (g 13)), (1, .int x), (2, .ref r_5)]) hx hb dX4_readSequence_73 hl (k := 4) rfl q_30 (by decide) rfl (fun ls hl => ?_)
              refine lv_goto (tgt := 29) hx hb dX4_readSequence_76 (by decide) ?_
              exact ih29 z_30 f_28 _ _ _ (by subst hj1; omega) hI hF (by first | assumption | omega | (subst hj1; omega)) (by
                rw [hl_26] at hp_28
                rw [hlf] at hp_28
                obtain ⟨-, h9⟩ := hp_28.resolve_right (fun q9 => by have := q9.1; omega)
                rcases h9 with ⟨h1, h2, h3⟩ | ⟨h1, h2, h3, h4, h5, h6⟩
                · exact ⟨i3_, top3_, top2, 1, 1, w3_, st3_, op3_, dg3_, Go_tr j1 j1_, h2, ⟨MSb_rf j5_.1 hfx_28 (by decide) (fun k9 h8 h7 q9 => (hRD.2.2.2.2.1 k9.toNat x.toInt.toNat (by subst hj1; omega) (by subst hj1; omega) (by subst hj1; omega)) (q9.trans hh_5)) (fun k9 v9 _ _ h9 => TN_fr hG hF_28 (by decide) k9 v9 h9), j5_.2.1, RWf_e h3 hh_5.symm⟩, j6_, j7_, fun j9 h8 h9 => by rw [j8_ j9 h8 h9]; exact j6 j9 h8 h9, fun q9 => h1 q9.2, Or.inr ⟨by omega, rfl, by omega, by omega⟩, by omega⟩
                · rw [show top3_ - st x.toInt - (top2 - st x.toInt) = top3_ - top2 by omega] at h5 h6
                  have h6 := RWf_e h6 hh_5.symm
                  obtain ⟨q1, q2, q3⟩ := L_times (E := E) (i := i3_) (one := top2) (isO := 1) (op1 := op3_) (dg1 := dg3_) (may := 1) j5_ (fun top9 w9 q1 q2 q3 => MSb_fx j5_.1 hfx_28 (by decide) (fun k9 h8 h7 q9 => (hRD.2.2.2.2.1 k9.toNat x.toInt.toNat (by subst hj1; omega) (by subst hj1; omega) (by subst hj1; omega)) (q9.trans hh_5)) (fun k9 v9 _ _ h9 => TN_fr hG hF_28 (by decide) k9 v9 h9) q1 q2 q3) rfl (j6_ _ (by subst hj1; omega) (Int.le_refl _)) h1 h2 h3 (by have := (hKO (i3_ + 1)).2.1 h2; omega) (by subst hj1; omega) (by subst hj1; omega) h6
                  have hm0 : 0 ≤ (vs (i3_ + 1) - 1) * (top3_ - top2) := Int.mul_nonneg (by have := (hKO (i3_ + 1)).2.1 h2; omega) (by subst hj1; omega)
                  exact ⟨i3_ + 2, _, top2, 0, 1, _, st3_, op3_, dg3_, Go_tr j1 (Go_tr j1_ (Go_1 q1)), h4, q2, j6_, j7_, fun j9 h8 h9 => (q3 j9 h8 h9).trans ((j8_ j9 h8 h9).trans (j6 j9 h8 h9)), fun q9 => absurd q9.1 (by decide), Or.inr ⟨by omega, rfl, by omega, by omega⟩, by omega⟩) (LvC_fr hLv2 hG hF_28 (by decide)) (EnvC_fx hEC2 hG hF_28 hfx_28 (by decide) (by decide) (fun k9 h9 q9 => hRD.2.2.2.1 x.toInt.toNat k9 (by subst hj1; omega) h9 (hh_5.symm.trans q9.symm)) (fun r9 h9 q9 => h9 (Or.inl ⟨x.toInt.toNat, by omega, q9.trans hh_5⟩))) (fun k9 v9 h7 h8 h9 => TN_fr hG hF_28 (by decide) k9 v9 (htn_21 k9 v9 h7 h8 (htl k9 v9 h7 h8 h9))) (by first | assumption | omega | (subst hj1; omega)) hP hD hS (lv_sub hl [2, 3, 4, 0] rfl)
            · refine lv_iconst (v := 0) hx hb dX4_readSequence_71 (by decide) ?_
              have hz_31 : (0 : Int32).toInt = 0 := by decide
              exact g_zret ((0 : Int32), f_28) hx hb hr hlocks hS (by first | exact Or.inl rfl | exact Or.inr rfl) rfl (⟨hI, hF, show Hd (((0 : Int32).toInt = 1 ∧ SeqR cI jn g lv S f_28 ks vs E i x.toInt top one w st op dg st1 op1 dg1) ∨ ((0 : Int32).toInt = 0 ∧ Fls ks vs E (i, x.toInt, top, one, 0, 0, w, st1, op1, dg1))) from (by
                rw [hl_26] at hp_28
                rw [hlf] at hp_28
                obtain ⟨-, h1, h2⟩ := hp_28.resolve_left (fun q9 => by have := q9.1; omega)
                refine Or.inr ⟨rfl, Fls_tr (Go_tr j1 j1_) (Fls_0 (F_times rfl h1 ?_))⟩
                rw [j6_ _ (by subst hj1; omega) (Int.le_refl _)]
                rw [show top3_ - st x.toInt - (top2 - st x.toInt) = top3_ - top2 by omega] at h2
                exact fun q9 => h2 ⟨q9.1, q9.2.1, by have := q9.2.2; omega⟩), show ∀ k9 v9 : Int, 0 ≤ k9 → k9 < x.toInt → TNf cI g f k9 v9 → TNf cI g f_28 k9 v9 from (fun k9 v9 h7 h8 h9 => TN_fr hG hF_28 (by decide) k9 v9 (htn_21 k9 v9 h7 h8 (htl k9 v9 h7 h8 h9))), show FX S (BXp g lv x.toInt) [13, 14, 34] f f_28 from (by first | assumption | omega | (subst hj1; omega)), show (0 : Int32).toInt = 0 ∨ (0 : Int32).toInt = 1 from (by first | assumption | omega | (subst hj1; omega))⟩) hP hD hQ (Nat.le_of_ble_eq_true rfl) (Nat.le_of_ble_eq_true rfl) dX4_readSequence_72
        · refine lv_aload_n hx hb dX4_readSequence_40 rfl (lv_at hl 0 rfl) ?_
          obtain ⟨fa_32, pl_32, fg_32⟩ := op_13 hI (gm_13 hG) (gs_13 hG)
          refine roP (va_runV (As := []) (rest := []) ⟨hx, hb, hml, hown, hts⟩ (t_X4_beginsOnem l D cI cR cM _ (ks := ks) (vs := vs) (i := i2)  hj hG hI  (by first | assumption | omega | (subst hj1; omega)) (j2) (by first | assumption | omega | (subst hj1; omega))) (cwV 0 hts gX4_readSequence_X4_beginsOne rfl rfl rfl (by decide +kernel) ⟨Nat.le_of_ble_eq_true rfl, Nat.le_of_ble_eq_true rfl⟩) (pre_T hK hP hD (gm_13 hG) fg_32 rfl) rfl rfl hl.1 rfl (lv_room (Nat.le_of_ble_eq_true rfl)) dX4_readSequence_41 ⟨Nat.le_of_ble_eq_true rfl, Nat.le_of_ble_eq_true rfl⟩) hS hA hP (fun r_33 H locs hw hP hS => ?_)
          obtain ⟨hp_33, h01_33⟩ : ((r_33.toInt = 1 ∧ (ks i2 = 1 ∨ ks i2 = 2 ∨ ks i2 = 91 ∨ ks i2 = 40 ∨ (7 ≤ ks i2 ∧ ks i2 ≤ 10))) ∨ (r_33.toInt = 0 ∧ ¬ (ks i2 = 1 ∨ ks i2 = 2 ∨ ks i2 = 91 ∨ ks i2 = 40 ∨ (7 ≤ ks i2 ∧ ks i2 ≤ 10)))) ∧ (r_33.toInt = 0 ∨ r_33.toInt = 1) := hw
          refine a_if_eq (u := r_33.toInt) (tgt := 79) hx hb dX4_readSequence_44 (by decide) (rfl) (fun c_34 => ?_) (fun c_34 => ?_)
          · refine lv_iconst (v := 1) hx hb dX4_readSequence_79 (by decide) ?_
            have hz_35 : (1 : Int32).toInt = 1 := by decide
            exact g_zret ((1 : Int32), f_13) hx hb hr hlocks hS (by first | exact Or.inl rfl | exact Or.inr rfl) rfl (⟨hI, hF, show Hd (((1 : Int32).toInt = 1 ∧ SeqR cI jn g lv S f_13 ks vs E i x.toInt top one w st op dg st1 op1 dg1) ∨ ((1 : Int32).toInt = 0 ∧ Fls ks vs E (i, x.toInt, top, one, 0, 0, w, st1, op1, dg1))) from (by
              obtain ⟨e1, e2, e3, e4⟩ := j8.resolve_left (fun q9 => by have := q9.1; omega)
              rw [e2] at j1
              exact Or.inl ⟨rfl, ii.toInt, i2, top2, one2, may2, w2, st2, op2, dg2, ⟨j1, j2, j3, j4, j5, j6, j7, Or.inr ⟨e1, rfl, e3, e4⟩, j9⟩, e1, (hp_33.resolve_left (fun q9 => by have := q9.1; omega)).2⟩), show ∀ k9 v9 : Int, 0 ≤ k9 → k9 < x.toInt → TNf cI g f k9 v9 → TNf cI g f_13 k9 v9 from (htl), show FX S (BXp g lv x.toInt) [13, 14, 34] f f_13 from (by first | assumption | omega | (subst hj1; omega)), show (1 : Int32).toInt = 0 ∨ (1 : Int32).toInt = 1 from (by first | assumption | omega | (subst hj1; omega))⟩) hP hD hQ (Nat.le_of_ble_eq_true rfl) (Nat.le_of_ble_eq_true rfl) dX4_readSequence_80
          · refine lv_aload_n hx hb dX4_readSequence_47 rfl (lv_at hl 2 rfl) ?_
            have hRl := RWf_e j3.2.2 hh_5
            obtain ⟨len_36, fg_36, v1_36, v2_36, v3_36, mp_36, sp_36⟩ := op_0 hI m_5 s_5
            obtain ⟨w1_36, w2_36, w3_36, w4_36, w5_36⟩ := lenw hj v1_36 v2_36 v3_36
            obtain ⟨c_37, fg_37, iv0_37⟩ := op_1 hI mp_6 sp_6
            obtain ⟨hl_38, hc_38⟩ := RWf_at hRl s_5 fg_36 fg_37
            refine t_getN (D := D) (L := L) (f := f_13) (ci := 5) (v := .int len_36) (C := RX5) (T := TX5) (N := 4) (host := "JugglingHall") hx hb hts (by decide +kernel) hown hK.1 hP m_5 fg_36 rfl 3 (by decide) (hK.nw (.fieldLinkNest RX4 62 "JugglingHall$Row" "length" "I" "JugglingHall") (by decide +kernel) rfl) (fun _ h9 => h9) rfl dX4_readSequence_48 ?_
            refine lv_istore (lv' := [(4, .int len_36), (0, .ref (g 13)), (1, .int x), (2, .ref r_5), (3, .int ii)]) hx hb dX4_readSequence_51 hl (by decide) rfl (fun ls hl => ?_)
            refine lv_aload_n hx hb dX4_readSequence_53 rfl (lv_at hl 1 rfl) ?_
            refine lv_iload_n hx hb dX4_readSequence_54 rfl (lv_at hl 2 rfl) ?_
            refine call_p (va_runV (As := [.int x]) (rest := []) ⟨hx, hb, hml, hown, hts⟩ (t_X4_readOnem_6 l D cI cR cM _ (i := i2) (top := top2) (one := one2) (may := may2) (isO := isO2) (w := w2) (st := st) (op := op) (dg := dg) (st1 := st2) (op1 := op2) (dg1 := dg2) (lv := lv) (gr := gr) (E := E) (F := F) (ks := ks) (vs := vs)  hj hG hI  (by first | assumption | omega | (subst hj1; omega)) (j2) (by first | assumption | omega | (subst hj1; omega)) (by first | assumption | omega | (subst hj1; omega)) (hLvl) (hECl) (by first | assumption | omega | (subst hj1; omega)) (by first | assumption | omega | (subst hj1; omega)) (by first | assumption | omega | (subst hj1; omega)) (j3) (j4) (j5) (j7) (Or.inr (hp_33.resolve_right (fun q9 => by have := q9.1; omega)).2)) (cwV 1 hts gX4_readSequence_X4_readOne rfl rfl rfl (by decide +kernel) ⟨Nat.le_of_ble_eq_true rfl, Nat.le_of_ble_eq_true rfl⟩) (pre_T hK hP hD (gm_13 hG) fg_32 rfl) rfl rfl hl.1 rfl (lv_room (Nat.le_of_ble_eq_true rfl)) dX4_readSequence_55 ⟨Nat.le_of_ble_eq_true rfl, Nat.le_of_ble_eq_true rfl⟩) hD hS hA (fun u_39 H locs hw hP hD hS => ?_)
            obtain ⟨r_39, f_39⟩ := u_39
            obtain ⟨hI, hF_39, hp_39, htn_39, hfx_39, h01_39⟩ : IN jn cI cR cM g L S f_39 ∧ FR S [0, 1, 13, 14, 34] f_13 f_39 ∧ (Hd ((r_39.toInt = 1 ∧ OneR cI jn g lv S f_39 ks vs E i2 x.toInt top2 one2 may2 isO2 w2 st op dg st2 op2 dg2) ∨ (r_39.toInt = 0 ∧ Fls ks vs E (i2, x.toInt, top2, one2, may2, isO2, w2, st2, op2, dg2)))) ∧ (∀ k9 v9 : Int, 0 ≤ k9 → k9 < x.toInt → TNf cI g f_13 k9 v9 → TNf cI g f_39 k9 v9) ∧ (FX S (BXp g lv x.toInt) [13, 14, 34] f_13 f_39) ∧ (r_39.toInt = 0 ∨ r_39.toInt = 1) := hw
            have hP : va_P D vwCl (va_pl L f_39) H := hP
            have hD : va_D A (va_pl L f_39) := hD
            have hF := FR_tr hF hF_39 (by decide)
            have hFX := FX_tr hFX hfx_39 (fun _ h9 => h9) (by decide)
            refine a_if_eq (u := r_39.toInt) (tgt := 71) hx hb dX4_readSequence_58 (by decide) (rfl) (fun c_40 => ?_) (fun c_40 => ?_)
            · refine lv_iconst (v := 0) hx hb dX4_readSequence_71 (by decide) ?_
              have hz_41 : (0 : Int32).toInt = 0 := by decide
              exact g_zret ((0 : Int32), f_39) hx hb hr hlocks hS (by first | exact Or.inl rfl | exact Or.inr rfl) rfl (⟨hI, hF, show Hd (((0 : Int32).toInt = 1 ∧ SeqR cI jn g lv S f_39 ks vs E i x.toInt top one w st op dg st1 op1 dg1) ∨ ((0 : Int32).toInt = 0 ∧ Fls ks vs E (i, x.toInt, top, one, 0, 0, w, st1, op1, dg1))) from (Or.inr ⟨rfl, Fls_tr j1 (hp_39.resolve_left (fun q9 => by have := q9.1; omega)).2⟩), show ∀ k9 v9 : Int, 0 ≤ k9 → k9 < x.toInt → TNf cI g f k9 v9 → TNf cI g f_39 k9 v9 from (fun k9 v9 h7 h8 h9 => htn_39 k9 v9 h7 h8 (htl k9 v9 h7 h8 h9)), show FX S (BXp g lv x.toInt) [13, 14, 34] f f_39 from (by first | assumption | omega | (subst hj1; omega)), show (0 : Int32).toInt = 0 ∨ (0 : Int32).toInt = 1 from (by first | assumption | omega | (subst hj1; omega))⟩) hP hD hQ (Nat.le_of_ble_eq_true rfl) (Nat.le_of_ble_eq_true rfl) dX4_readSequence_72
            · obtain ⟨-, i3_, top3_, w3_, st3_, op3_, dg3_, j1_, j2_, j3_, j4_, j5_, j6_, j7_, j8_⟩ := hp_39.resolve_right (fun q9 => by have := q9.1; omega)
              have hLv2 := LvC_fr hLvl hG hF_39 (by decide)
              have hEC2 := EnvC_fx hECl hG hF_39 hfx_39 (by decide) (by decide) (nb_gr hRD) nb_nr
              have htl2 := j5_.1.2.2.2.1
              refine lv_aload_n hx hb dX4_readSequence_61 rfl (lv_at hl 1 rfl) ?_
              refine lv_aload_n hx hb dX4_readSequence_62 rfl (lv_at hl 3 rfl) ?_
              refine lv_iload hx hb dX4_readSequence_63 (lv_at hl 0 rfl) ?_
              have hRo := RWf_e j5_.2.2 hh_5
              have hlf : len_36.toInt = top2 - st x.toInt := hl_38
              obtain ⟨len_42, fg_42, v1_42, v2_42, v3_42, mp_42, sp_42⟩ := op_0 hI m_5 s_5
              obtain ⟨w1_42, w2_42, w3_42, w4_42, w5_42⟩ := lenw hj v1_42 v2_42 v3_42
              obtain ⟨c_43, fg_43, iv0_43⟩ := op_1 hI mp_6 sp_6
              obtain ⟨hl_44, hc_44⟩ := RWf_at hRo s_5 fg_42 fg_43
              obtain ⟨fa_45, pl_45, fg_45⟩ := op_13 hI (gm_13 hG) (gs_13 hG)
              refine call_p (va_runV (As := [.ref r_5, .int len_36]) (rest := []) ⟨hx, hb, hml, hown, hts⟩ (t_X4_readTimesm l D cI cR cM _ (ks := ks) (vs := vs) (i := i3_) (w := (fun j => w3_ (2 * st x.toInt + j)))  hj hG hI m_5 s_5 fg_42 fg_43 (by first | assumption | omega | (subst hj1; omega)) (j4_) (by first | assumption | omega | (subst hj1; omega)) (by subst hj1; omega) (by rw [hl_44]; exact hc_44)) (cwV 2 hts gX4_readSequence_X4_readTimes rfl rfl rfl (by decide +kernel) ⟨Nat.le_of_ble_eq_true rfl, Nat.le_of_ble_eq_true rfl⟩) (pre_T hK hP hD (gm_13 hG) fg_45 rfl) rfl rfl hl.1 rfl (lv_room (Nat.le_of_ble_eq_true rfl)) dX4_readSequence_65 ⟨Nat.le_of_ble_eq_true rfl, Nat.le_of_ble_eq_true rfl⟩) hD hS hA (fun u_46 H locs hw hP hD hS => ?_)
              obtain ⟨r_46, f_46⟩ := u_46
              obtain ⟨hI, hF_46, hp_46, hfx_46, h01_46⟩ : IN jn cI cR cM g L S f_46 ∧ FR S [0, 1, 13, 14] f_39 f_46 ∧ ((r_46.toInt = 1 ∧ ((ks i3_ ≠ 42 ∧ TKm cI g ks vs f_46 i3_ ∧ RWf cI jn S f_46 r_5 len_42.toInt (fun j => w3_ (2 * st x.toInt + j))) ∨ (ks i3_ = 42 ∧ ks (i3_ + 1) = 1 ∧ vs (i3_ + 1) ≠ 0 ∧ TKm cI g ks vs f_46 (i3_ + 1 + 1) ∧ 2 * (len_42.toInt + (vs (i3_ + 1) - 1) * (len_42.toInt - len_36.toInt)) ≤ (n_5 : Int) ∧ RWf cI jn S f_46 r_5 (len_42.toInt + (vs (i3_ + 1) - 1) * (len_42.toInt - len_36.toInt)) (tmW (fun j => w3_ (2 * st x.toInt + j)) len_42.toInt len_36.toInt)))) ∨ (r_46.toInt = 0 ∧ ks i3_ = 42 ∧ ¬ (ks (i3_ + 1) = 1 ∧ vs (i3_ + 1) ≠ 0 ∧ 2 * (len_42.toInt + (vs (i3_ + 1) - 1) * (len_42.toInt - len_36.toInt)) ≤ (n_5 : Int)))) ∧ (FX S (fun a9 => a9 = r_5) [13, 14] f_39 f_46) ∧ (r_46.toInt = 0 ∨ r_46.toInt = 1) := hw
              have hP : va_P D vwCl (va_pl L f_46) H := hP
              have hD : va_D A (va_pl L f_46) := hD
              have hF := FR_tr hF hF_46 (by decide)
              have hFX := FX_tr hFX hfx_46 (fun a9 h9 => Or.inl ⟨x.toInt.toNat, Nat.le_refl _, by omega, h9.trans hh_5⟩) (by decide)
              refine a_if_ne (u := r_46.toInt) (tgt := 73) hx hb dX4_readSequence_68 (by decide) (rfl) (fun c_47 => ?_) (fun c_47 => ?_)
              · obtain ⟨z_48, q_48, e_48⟩ := i_inc (a := ii.toInt) (1) (rfl) (by decide) (by subst hj1; omega) (by subst hj1; omega)
                refine lv_iinc (v := z_48) (lv' := [(3, .int z_48), (4, .int len_36), (0, .ref (g 13)), (1, .int x), (2, .ref r_5)]) hx hb dX4_readSequence_73 hl (k := 4) rfl q_48 (by decide) rfl (fun ls hl => ?_)
                refine lv_goto (tgt := 29) hx hb dX4_readSequence_76 (by decide) ?_
                exact ih29 z_48 f_46 _ _ _ (by subst hj1; omega) hI hF (by first | assumption | omega | (subst hj1; omega)) (by
                  rw [hl_44] at hp_46
                  rw [hlf] at hp_46
                  obtain ⟨-, h9⟩ := hp_46.resolve_right (fun q9 => by have := q9.1; omega)
                  rcases h9 with ⟨h1, h2, h3⟩ | ⟨h1, h2, h3, h4, h5, h6⟩
                  · exact ⟨i3_, top3_, top2, 1, 1, w3_, st3_, op3_, dg3_, Go_tr j1 j1_, h2, ⟨MSb_rf j5_.1 hfx_46 (by decide) (fun k9 h8 h7 q9 => (hRD.2.2.2.2.1 k9.toNat x.toInt.toNat (by subst hj1; omega) (by subst hj1; omega) (by subst hj1; omega)) (q9.trans hh_5)) (fun k9 v9 _ _ h9 => TN_fr hG hF_46 (by decide) k9 v9 h9), j5_.2.1, RWf_e h3 hh_5.symm⟩, j6_, j7_, fun j9 h8 h9 => by rw [j8_ j9 h8 h9]; exact j6 j9 h8 h9, fun q9 => h1 q9.2, Or.inr ⟨by omega, rfl, by omega, by omega⟩, by omega⟩
                  · rw [show top3_ - st x.toInt - (top2 - st x.toInt) = top3_ - top2 by omega] at h5 h6
                    have h6 := RWf_e h6 hh_5.symm
                    obtain ⟨q1, q2, q3⟩ := L_times (E := E) (i := i3_) (one := top2) (isO := 1) (op1 := op3_) (dg1 := dg3_) (may := 1) j5_ (fun top9 w9 q1 q2 q3 => MSb_fx j5_.1 hfx_46 (by decide) (fun k9 h8 h7 q9 => (hRD.2.2.2.2.1 k9.toNat x.toInt.toNat (by subst hj1; omega) (by subst hj1; omega) (by subst hj1; omega)) (q9.trans hh_5)) (fun k9 v9 _ _ h9 => TN_fr hG hF_46 (by decide) k9 v9 h9) q1 q2 q3) rfl (j6_ _ (by subst hj1; omega) (Int.le_refl _)) h1 h2 h3 (by have := (hKO (i3_ + 1)).2.1 h2; omega) (by subst hj1; omega) (by subst hj1; omega) h6
                    have hm0 : 0 ≤ (vs (i3_ + 1) - 1) * (top3_ - top2) := Int.mul_nonneg (by have := (hKO (i3_ + 1)).2.1 h2; omega) (by subst hj1; omega)
                    exact ⟨i3_ + 2, _, top2, 0, 1, _, st3_, op3_, dg3_, Go_tr j1 (Go_tr j1_ (Go_1 q1)), h4, q2, j6_, j7_, fun j9 h8 h9 => (q3 j9 h8 h9).trans ((j8_ j9 h8 h9).trans (j6 j9 h8 h9)), fun q9 => absurd q9.1 (by decide), Or.inr ⟨by omega, rfl, by omega, by omega⟩, by omega⟩) (LvC_fr hLv2 hG hF_46 (by decide)) (EnvC_fx hEC2 hG hF_46 hfx_46 (by decide) (by decide) (fun k9 h9 q9 => hRD.2.2.2.1 x.toInt.toNat k9 (by subst hj1; omega) h9 (hh_5.symm.trans q9.symm)) (fun r9 h9 q9 => h9 (Or.inl ⟨x.toInt.toNat, by omega, q9.trans hh_5⟩))) (fun k9 v9 h7 h8 h9 => TN_fr hG hF_46 (by decide) k9 v9 (htn_39 k9 v9 h7 h8 (htl k9 v9 h7 h8 h9))) (by first | assumption | omega | (subst hj1; omega)) hP hD hS (lv_sub hl [2, 3, 4, 0] rfl)
              · refine lv_iconst (v := 0) hx hb dX4_readSequence_71 (by decide) ?_
                have hz_49 : (0 : Int32).toInt = 0 := by decide
                exact g_zret ((0 : Int32), f_46) hx hb hr hlocks hS (by first | exact Or.inl rfl | exact Or.inr rfl) rfl (⟨hI, hF, show Hd (((0 : Int32).toInt = 1 ∧ SeqR cI jn g lv S f_46 ks vs E i x.toInt top one w st op dg st1 op1 dg1) ∨ ((0 : Int32).toInt = 0 ∧ Fls ks vs E (i, x.toInt, top, one, 0, 0, w, st1, op1, dg1))) from (by
                  rw [hl_44] at hp_46
                  rw [hlf] at hp_46
                  obtain ⟨-, h1, h2⟩ := hp_46.resolve_left (fun q9 => by have := q9.1; omega)
                  refine Or.inr ⟨rfl, Fls_tr (Go_tr j1 j1_) (Fls_0 (F_times rfl h1 ?_))⟩
                  rw [j6_ _ (by subst hj1; omega) (Int.le_refl _)]
                  rw [show top3_ - st x.toInt - (top2 - st x.toInt) = top3_ - top2 by omega] at h2
                  exact fun q9 => h2 ⟨q9.1, q9.2.1, by have := q9.2.2; omega⟩), show ∀ k9 v9 : Int, 0 ≤ k9 → k9 < x.toInt → TNf cI g f k9 v9 → TNf cI g f_46 k9 v9 from (fun k9 v9 h7 h8 h9 => TN_fr hG hF_46 (by decide) k9 v9 (htn_39 k9 v9 h7 h8 (htl k9 v9 h7 h8 h9))), show FX S (BXp g lv x.toInt) [13, 14, 34] f f_46 from (by first | assumption | omega | (subst hj1; omega)), show (0 : Int32).toInt = 0 ∨ (0 : Int32).toInt = 1 from (by first | assumption | omega | (subst hj1; omega))⟩) hP hD hQ (Nat.le_of_ble_eq_true rfl) (Nat.le_of_ble_eq_true rfl) dX4_readSequence_72
  have hz_50 : (0 : Int32).toInt = 0 := by decide
  exact loop29 ((400 - (0 : Int32).toInt).toNat + 1) (0 : Int32) f_8 _ _ _ (by subst hj1; omega) hI hF (by first | assumption | omega | (subst hj1; omega)) (⟨i, top, one, 0, 0, w, st1, op1, dg1, Go_rf, hC1, hM1, hst, hop, fun _ _ _ => rfl, fun q9 => absurd q9.1 (by decide), Or.inl ⟨by omega, rfl, rfl, rfl, rfl⟩, by omega⟩) (hLv1) (hEC1) (htl1) (by first | assumption | omega | (subst hj1; omega)) hP hD hS (lv_sub hl [2, 3, 1, 0] rfl)
