theorem sE_nn {c : Nat → Int32} {n k : Int} (h : ∀ i : Int, 0 ≤ i → i < 300 → 0 ≤ (c i.toNat).toInt ∧ (c i.toNat).toInt ≤ 255) (hn : n ≤ 300) (k0 : 0 ≤ k) (k1 : k < n) : 0 ≤ sE c n k := by
  rw [sE_in k0 k1]; exact (h k k0 (by omega)).1
/-- the book's rows, by letters -/
def EnvK (cI cR : ClassId) (jn : Nat) (g lv gr : Nat → Nat) (S : Sg) (f : Nat → va_E) (E : Env1) : Prop := (∃ ch, f (g 23) = refs cR 8 ch ∧ ∀ k : Nat, k < 8 → ch k = some (gr k)) ∧ ∃ (cb : Nat → Option Nat) (tm lk : Int32), f (g 20) = refs cR 488 cb ∧ f (g 12) = .inr (0, [.ref (g 20), .ref (g 21), .int tm, .int lk]) ∧ ∀ l : Int, 0 ≤ l → l < 8 → (cb (8 * tm.toInt + l).toNat = none ∧ (E l).1 = 0) ∨ ∃ r, cb (8 * tm.toInt + l).toNat = some r ∧ 0 < (E l).1 ∧ RWf cI jn S f r (E l).1 (E l).2 ∧ ¬ NR g lv gr r
theorem EnvK_h {cI cR : ClassId} {jn : Nat} {g lv gr : Nat → Nat} {S : Sg} {f : Nat → va_E} {E : Env1} {c : Nat → Option Nat} {l : Int} {r : Nat} (h : EnvK cI cR jn g lv gr S f E) (hf : f (g 23) = .inl (cR, 8, .inr (.inr (.inr (.inr c))))) (l0 : 0 ≤ l) (l1 : l < 8) (hc : c l.toNat = some r) : r = gr l.toNat := by
  obtain ⟨⟨ch, h1, h2⟩, -⟩ := h
  unfold refs at h1
  rw [hf] at h1
  cases h1
  have := h2 l.toNat (by omega)
  rw [hc] at this
  cases this
  rfl
theorem EnvK_fx {cI cR : ClassId} {jn : Nat} {g lv gr : Nat → Nat} {L : List Nat} {S : Sg} {f f1 : Nat → va_E} {E : Env1} {B : Nat → Prop} {T T2 : List Nat} (h : EnvK cI cR jn g lv gr S f E) (hG : SG g L S) (hF : FR S T f f1) (hX : FX S B T2 f f1) (ht : ∀ t ∈ ([12, 20, 23] : List Nat), t ∉ T) (h2 : 0 ∉ T2 ∧ 1 ∉ T2) (hn : ∀ r, ¬ NR g lv gr r → ¬ B r) : EnvK cI cR jn g lv gr S f1 E := by
  obtain ⟨⟨ch, h1, h3⟩, cb, tm, lk, h4, h5, h6⟩ := h
  refine ⟨⟨ch, ?_, h3⟩, cb, tm, lk, ?_, ?_, fun l l0 l1 => ?_⟩
  · rw [hF _ (by rw [gs_23 hG]; exact ht 23 (by decide))]; exact h1
  · rw [hF _ (by rw [gs_20 hG]; exact ht 20 (by decide))]; exact h4
  · rw [hF _ (by rw [gs_12 hG]; exact ht 12 (by decide))]; exact h5
  · rcases h6 l l0 l1 with q4 | ⟨r, r1, r2, r3, r4⟩
    · exact Or.inl q4
    · exact Or.inr ⟨r, r1, r2, RWf_fx r3 hX (hn r r4) h2, r4⟩
theorem EnvK_C {cI cR : ClassId} {jn : Nat} {g lv gr : Nat → Nat} {S : Sg} {f : Nat → va_E} {E : Env1} (h : EnvK cI cR jn g lv gr S f E) (hz : ∀ k : Nat, (k : Int) < 8 → ∃ w, RWf cI jn S f (gr k) 0 w) : EnvC cI cR jn g lv gr S f E (fun _ => 0) := by
  obtain ⟨h1, cb, tm, lk, h4, h5, h6⟩ := h
  exact ⟨h1, cb, tm, lk, h4, h5, fun l l0 l1 => ⟨fun q => absurd q (show ¬ ((0 : Int) = 1) by decide), fun _ => ⟨hz l.toNat (by omega), h6 l l0 l1⟩⟩⟩
theorem RWf_o {cI : ClassId} {jn : Nat} {S : Sg} {f f1 : Nat → va_E} {a b p N : Nat} {n : Int} {w : Int → Int} (h : RWf cI jn S f a n w) (hs : S b = (0, p, N)) (hne : a ≠ b) (o1 : ∀ x, x ≠ b → f1 x = f x) : RWf cI jn S f1 a n w := by
  obtain ⟨p9, N9, l9, c9, a1, a2, a3, a4, a5, a6⟩ := h
  refine ⟨p9, N9, l9, c9, a1, a2, by rw [o1 a hne]; exact a3, ?_, a5, a6⟩
  rw [o1 p9 (fun e => by rw [e, hs] at a2; cases a2)]
  exact a4
theorem CLseen {ks vs : Nat → Int} {i m : Nat} {E : Env1} {F : Int → Int} (h6 : ks i = 6) (h1 : 1 ≤ m) (h7 : m ≤ 7) (hm : ∀ k : Nat, 1 ≤ k → k ≤ m → Mrk (ks (i + k))) (h59 : ks (i + m + 1) = 59) : Clp ks vs (i, E, F) (i + m + 1 + 1, E, F) := by
  unfold Clp
  dsimp only
  exact Or.inr ⟨h6, m, h1, h7, hm, h59, rfl⟩
set_option maxRecDepth 100000 in
set_option maxHeartbeats 4000000 in
theorem t_X8_beginm (l : Launch) (D : va_G) (cI cR cM : ClassId) (sz : Nat) {jn : Nat} {g : Nat → Nat} {L : List Nat} {S : Sg} {f : Nat → va_E} {adK adV : Nat → Nat} {B0 : Nat} {cb : Nat → Int32} {n9 : Int} {P ks vs : Nat → Int} (hj : 1 ≤ jn ∧ jn ≤ 3) (hG : SG g L S) (hI : IN jn cI cR cM g L S f) (hB : ∀ a, a ∈ L → B0 ≤ a) (hj1 : jn = 1) (hTp : TpC cI g f cb n9) (hSM : SM (sE cb n9) P ks vs) (hn9 : 0 ≤ n9 ∧ n9 ≤ 300) : Met l yX8_begin wsX8_begin ({ frames := 6, cells := 0, slots := 0, locals := 132 }) (P0S D cI cR cM [.ref (g 14)] sz (va_pl L f) adK adV B0) (QG (S := Nat → va_E) (fun u => none) (fun u => va_pl L u) (fun u => IN jn cI cR cM g L S u ∧ FR S [14, 31, 32, 33] f u ∧ (TKm cI g ks vs u 0) ∧ (FX S (fun _ => False) [14, 31, 32, 33] f u)) D (va_A (va_pl L f) sz)) 0 0 (va_A (va_pl L f) sz) := by
  refine goS (cc := cX8_begin) (maxL := 4) (ret := none) (by decide +kernel) rfl (Nat.le_of_ble_eq_true rfl) ?_
  intro p e s m below meth c ls args Q hQ hsz hx hb hr hml hts hown hlocks hnm hP hK hD hl hST
  subst hsz
  have hD := hD.self (sz := s.heap.size)
  generalize hAe : va_A (va_pl L f) s.heap.size = A at hD hQ
  have hA : ∀ q, s.heap.size ≤ q → A q := fun q h => by rw [← hAe]; exact Or.inr h
  have hS : va_S A s.heap s.heap [] := va_S.rf
  have hFX : FX S (fun _ => False) [14, 31, 32, 33] f f := FX_rf
  have hF : FR S [14, 31, 32, 33] f f := FR_rf
  have hAB : ∀ q, A q → B0 ≤ q := fun q h => by
    rw [← hAe] at h
    rcases h with ⟨k, e9, h⟩ | h
    · exact hB q (pl_mem h)
    · exact Nat.le_trans hST.1 h
  have hV := hST.2.1.narrow hAB
  have hZ9 := hST.2.2.2.1.narrow hAB
  have hQ9 := hST.2.2.2.2.narrow hAB
  have hl : lv_has ls 4 [(0, .ref (g 14))] := hl
  refine lv_aload_n hx hb dX8_begin_0 rfl (lv_at hl 0 rfl) ?_
  refine lv_iconst (v := 0) hx hb dX8_begin_1 (by decide) ?_
  obtain ⟨cnt_1, nx_1, kd_1, vl_1, st_1, ls_1, fg_1, iv0_1, iv1_1, iv2_1⟩ := op_14 hI (gm_14 hG) (gs_14 hG)
  have hz_3 : (0 : Int32).toInt = 0 := by decide
  refine t_put (D := D) (L := L) (f := f) (ci := 8) (v := .int 0) (ty := .int) (C := RX8) (T := TX8) (N := 10) hx hb hts (by decide +kernel) tyX8 tyX8_ok nmX8 hown hK.1 hP hD hS (gm_14 hG) fg_1 rfl 4 (by decide) (hts (.fieldLink RX8 25 "JugglingHall$Tokens" "count" "I") (by decide +kernel)) (fun _ h9 => h9) rfl (by decide +kernel) rfl rfl (Nat.le_of_ble_eq_true rfl) dX8_begin_2 (fun f_2 H locs e9_2 o_2 hP hD hS => ?_)
  have fa_2 : f_2 (g 14) = .inr (8, [.ref (g 11), .ref (g 31), .ref (g 32), .ref (g 33), .int 0, .int nx_1, .int kd_1, .int vl_1, .int st_1, .int ls_1]) := e9_2
  have hI := IN_set (e := .inr (8, [.ref (g 11), .ref (g 31), .ref (g 32), .ref (g 33), .int 0, .int nx_1, .int kd_1, .int vl_1, .int st_1, .int ls_1])) hI (gs_14 hG) (mk_14 (by first | assumption | omega | (subst hj1; omega)) (by first | assumption | omega | (subst hj1; omega)) (by first | assumption | omega | (subst hj1; omega))) fa_2 o_2
  have hF := FR_set hF (gs_14 hG) (show (14 : Nat) ∈ ([14, 31, 32, 33] : List Nat) by decide) o_2
  have hFX := FX_setT hFX (gs_14 hG) (show (14 : Nat) ∈ ([14, 31, 32, 33] : List Nat) by decide) o_2
  obtain ⟨c_4, fg_4⟩ := op_31 hI (gm_31 hG) (gs_31 hG)
  obtain ⟨c_5, fg_5⟩ := op_32 hI (gm_32 hG) (gs_32 hG)
  have hA0 : TKp cI g ks vs f_2 ((0 : Nat) : Int) := ⟨_, _, _, _, _, _, _, _, fa_2, fg_4, fg_5, by rfl, fun j9 h9 => absurd h9 (by subst hj1; omega)⟩
  have hT0 : TpC cI g f_2 cb n9 := TpC_fr hTp hG hF (by decide)
  refine lv_iconst (v := 0) hx hb dX8_begin_5 (by decide) ?_
  refine lv_istore_n (lv' := [(1, .int 0), (0, .ref (g 14))]) hx hb dX8_begin_6 rfl hl (by decide) rfl (fun ls hl => ?_)
  have loop7 : ∀ (ddloop7 : Nat) (at_ : Int32) (f_6 : Nat → va_E) (H : Heap) (locs : List Loc) (ls : Array Slot), (400 - at_.toInt).toNat < ddloop7 → IN jn cI cR cM g L S f_6 → FR S [14, 31, 32, 33] f f_6 → (0 ≤ at_.toInt ∧ at_.toInt ≤ n9) → (Hd (∃ n0 : Nat, TKp cI g ks vs f_6 (n0 : Int) ∧ (n0 : Int) ≤ at_.toInt ∧ P n0 ≤ at_.toInt ∧ ∀ j9 : Int, P n0 ≤ j9 → j9 < at_.toInt → sE cb n9 j9 = 32 ∨ sE cb n9 j9 = 10)) → (TpC cI g f_6 cb n9) → (FX S (fun _ => False) [14, 31, 32, 33] f f_6) → va_P D vwCl (va_pl L f_6) H → va_D A (va_pl L f_6) → va_S A s.heap H locs → lv_has ls 4 [(0, .ref (g 14)), (1, .int at_)] → W p l e ({ frames := 6, cells := 0, slots := 0, locals := 132 }) s m args below meth c H locs (0) (0) Q (F0 m 7 ls []) := by
    intro ddloop7
    induction ddloop7 with
    | zero =>
      intro at_ f_6 H locs ls hdd
      exact absurd hdd (Nat.not_lt_zero _)
    | succ ddloop7 ih7 =>
      intro at_ f_6 H locs ls hdd hI hF hi hAl hTl hFX hP hD hS hl
      obtain ⟨n0, b1, b2, b3, b4⟩ := hAl
      refine lv_iload_n hx hb dX8_begin_7 rfl (lv_at hl 1 rfl) ?_
      refine lv_aload_n hx hb dX8_begin_8 rfl (lv_at hl 0 rfl) ?_
      obtain ⟨cnt_7, nx_7, kd_7, vl_7, st_7, ls_7, fg_7, iv0_7, iv1_7, iv2_7⟩ := op_14 hI (gm_14 hG) (gs_14 hG)
      refine t_get (D := D) (L := L) (f := f_6) (ci := 8) (v := .ref (g 11)) (C := RX8) (T := TX8) (N := 10) hx hb hts (by decide +kernel) hown hK.1 hP (gm_14 hG) fg_7 rfl 0 (by decide) (hts (.fieldLink RX8 21 "JugglingHall$Tokens" "tape" "LJugglingHall$Tape;") (by decide +kernel)) (fun _ h9 => h9) rfl dX8_begin_9 ?_
      obtain ⟨len_8, fg_8, iv0_8, iv1_8⟩ := op_11 hI (gm_11 hG) (gs_11 hG)
      have hln_9 := TpC_at (c := cb) hTl fg_8
      refine t_getN (D := D) (L := L) (f := f_6) (ci := 7) (v := .int len_8) (C := RX7) (T := TX7) (N := 2) (host := "JugglingHall") hx hb hts (by decide +kernel) hown hK.1 hP (gm_11 hG) fg_8 rfl 1 (by decide) (hK.nw (.fieldLinkNest RX8 29 "JugglingHall$Tape" "length" "I" "JugglingHall") (by decide +kernel) rfl) (fun _ h9 => h9) rfl dX8_begin_12 ?_
      refine a_icmp_ge (u := at_.toInt) (v := len_8.toInt) (tgt := 116) hx hb dX8_begin_15 (by decide) (rfl) (rfl) (fun c_10 => ?_) (fun c_10 => ?_)
      · have hze := SM_end hSM (by subst hj1; omega) (show P n0 ≤ n9 by omega) (fun j9 h8 h9 => b4 j9 h8 (by subst hj1; omega))
        refine lv_aload_n hx hb dX8_begin_116 rfl (lv_at hl 0 rfl) ?_
        refine lv_iconst (v := 0) hx hb dX8_begin_117 (by decide) ?_
        refine lv_iconst (v := 0) hx hb dX8_begin_118 (by decide) ?_
        refine lv_aload_n hx hb dX8_begin_119 rfl (lv_at hl 0 rfl) ?_
        refine t_get (D := D) (L := L) (f := f_6) (ci := 8) (v := .ref (g 11)) (C := RX8) (T := TX8) (N := 10) hx hb hts (by decide +kernel) hown hK.1 hP (gm_14 hG) fg_7 rfl 0 (by decide) (hts (.fieldLink RX8 21 "JugglingHall$Tokens" "tape" "LJugglingHall$Tape;") (by decide +kernel)) (fun _ h9 => h9) rfl dX8_begin_120 ?_
        refine t_getN (D := D) (L := L) (f := f_6) (ci := 7) (v := .int len_8) (C := RX7) (T := TX7) (N := 2) (host := "JugglingHall") hx hb hts (by decide +kernel) hown hK.1 hP (gm_11 hG) fg_8 rfl 1 (by decide) (hK.nw (.fieldLinkNest RX8 29 "JugglingHall$Tape" "length" "I" "JugglingHall") (by decide +kernel) rfl) (fun _ h9 => h9) rfl dX8_begin_123 ?_
        have hz_11 : (0 : Int32).toInt = 0 := by decide
        have hz_12 : (0 : Int32).toInt = 0 := by decide
        refine call_p (va_runV (As := [.int 0, .int 0, .int len_8]) (rest := []) ⟨hx, hb, hml, hown, hts⟩ (t_X8_keepm l D cI cR cM _ (ks := ks) (vs := vs) (n0 := (n0 : Int))  hj hG hI  (by first | assumption | omega | (subst hj1; omega)) (b1) (by subst hj1; omega) (by rw [(show ((n0 : Nat) : Int).toNat = n0 by omega), hze n0 (Nat.le_refl _)]; decide) (fun q9 => by rw [(show ((n0 : Nat) : Int).toNat = n0 by omega), hze n0 (Nat.le_refl _)] at q9; omega)) (cwV 3 hts gX8_begin_X8_keep rfl rfl rfl (by decide +kernel) ⟨Nat.le_of_ble_eq_true rfl, Nat.le_of_ble_eq_true rfl⟩) (pre_T hK hP hD (gm_14 hG) fg_7 rfl) rfl rfl hl.1 rfl (lv_room (Nat.le_of_ble_eq_true rfl)) dX8_begin_126 ⟨Nat.le_of_ble_eq_true rfl, Nat.le_of_ble_eq_true rfl⟩) hD hS hA (fun u_13 H locs hw hP hD hS => ?_)
        obtain ⟨f_13, e0_13⟩ : ∃ x, x = u_13 := ⟨_, rfl⟩
        subst e0_13
        obtain ⟨hI, hF_13, hAr_13, hfx_13⟩ : IN jn cI cR cM g L S f_13 ∧ FR S [14, 31, 32, 33] f_6 f_13 ∧ (TKp cI g ks vs f_13 ((n0 : Int) + 1)) ∧ (FX S (fun _ => False) [14, 31, 32, 33] f_6 f_13) := hw
        have hP : va_P D vwCl (va_pl L f_13) H := hP
        have hD : va_D A (va_pl L f_13) := hD
        have hF := FR_tr hF hF_13 (by decide)
        have hFX := FX_tr hFX hfx_13 (fun _ h9 => h9.elim) (by decide)
        have fb_14 : f_13 (g 11) = .inr (7, [.ref (g 30), .int len_8]) := FR_at hF_13 (gs_11 hG) (show (11 : Nat) ∉ ([14, 31, 32, 33] : List Nat) by decide) fg_8
        refine lv_aload_n hx hb dX8_begin_129 rfl (lv_at hl 0 rfl) ?_
        refine lv_iconst (v := 0) hx hb dX8_begin_130 (by decide) ?_
        obtain ⟨cnt_15, nx_15, kd_15, vl_15, st_15, ls_15, fg_15, iv0_15, iv1_15, iv2_15⟩ := op_14 hI (gm_14 hG) (gs_14 hG)
        obtain ⟨c_16, fg_16⟩ := op_31 hI (gm_31 hG) (gs_31 hG)
        obtain ⟨c_17, fg_17⟩ := op_32 hI (gm_32 hG) (gs_32 hG)
        obtain ⟨hq1, hq2⟩ := TKp_at hAr_13 fg_15 fg_16 fg_17
        have hz_19 : (0 : Int32).toInt = 0 := by decide
        refine t_put (D := D) (L := L) (f := f_13) (ci := 8) (v := .int 0) (ty := .int) (C := RX8) (T := TX8) (N := 10) hx hb hts (by decide +kernel) tyX8 tyX8_ok nmX8 hown hK.1 hP hD hS (gm_14 hG) fg_15 rfl 5 (by decide) (hts (.fieldLink RX8 53 "JugglingHall$Tokens" "next" "I") (by decide +kernel)) (fun _ h9 => h9) rfl (by decide +kernel) rfl rfl (Nat.le_of_ble_eq_true rfl) dX8_begin_131 (fun f_18 H locs e9_18 o_18 hP hD hS => ?_)
        have fa_18 : f_18 (g 14) = .inr (8, [.ref (g 11), .ref (g 31), .ref (g 32), .ref (g 33), .int cnt_15, .int 0, .int kd_15, .int vl_15, .int st_15, .int ls_15]) := e9_18
        have hI := IN_set (e := .inr (8, [.ref (g 11), .ref (g 31), .ref (g 32), .ref (g 33), .int cnt_15, .int 0, .int kd_15, .int vl_15, .int st_15, .int ls_15])) hI (gs_14 hG) (mk_14 (by first | assumption | omega | (subst hj1; omega)) (by first | assumption | omega | (subst hj1; omega)) (by first | assumption | omega | (subst hj1; omega))) fa_18 o_18
        have hF := FR_set hF (gs_14 hG) (show (14 : Nat) ∈ ([14, 31, 32, 33] : List Nat) by decide) o_18
        have hFX := FX_setT hFX (gs_14 hG) (show (14 : Nat) ∈ ([14, 31, 32, 33] : List Nat) by decide) o_18
        have fb_20 : f_18 (g 11) = .inr (7, [.ref (g 30), .int len_8]) := f_at o_18 (S_ne (gs_11 hG) (gs_14 hG) (show (11 : Nat) ≠ 14 by decide)) fb_14
        have fb_21 : f_18 (g 31) = .inl (cI, 301, .inl c_16) := f_at o_18 (S_ne (gs_31 hG) (gs_14 hG) (show (31 : Nat) ≠ 14 by decide)) fg_16
        have fb_22 : f_18 (g 32) = .inl (cI, 301, .inl c_17) := f_at o_18 (S_ne (gs_32 hG) (gs_14 hG) (show (32 : Nat) ≠ 14 by decide)) fg_17
        refine lv_aload_n hx hb dX8_begin_134 rfl (lv_at hl 0 rfl) ?_
        refine lv_iconst (v := 0) hx hb dX8_begin_135 (by decide) ?_
        have hz_24 : (0 : Int32).toInt = 0 := by decide
        refine t_put (D := D) (L := L) (f := f_18) (ci := 8) (v := .int 0) (ty := .int) (C := RX8) (T := TX8) (N := 10) hx hb hts (by decide +kernel) tyX8 tyX8_ok nmX8 hown hK.1 hP hD hS (gm_14 hG) fa_18 rfl 8 (by decide) (hts (.fieldLink RX8 56 "JugglingHall$Tokens" "start" "I") (by decide +kernel)) (fun _ h9 => h9) rfl (by decide +kernel) rfl rfl (Nat.le_of_ble_eq_true rfl) dX8_begin_136 (fun f_23 H locs e9_23 o_23 hP hD hS => ?_)
        have fa_23 : f_23 (g 14) = .inr (8, [.ref (g 11), .ref (g 31), .ref (g 32), .ref (g 33), .int cnt_15, .int 0, .int kd_15, .int vl_15, .int 0, .int ls_15]) := e9_23
        have hI := IN_set (e := .inr (8, [.ref (g 11), .ref (g 31), .ref (g 32), .ref (g 33), .int cnt_15, .int 0, .int kd_15, .int vl_15, .int 0, .int ls_15])) hI (gs_14 hG) (mk_14 (by first | assumption | omega | (subst hj1; omega)) (by first | assumption | omega | (subst hj1; omega)) (by first | assumption | omega | (subst hj1; omega))) fa_23 o_23
        have hF := FR_set hF (gs_14 hG) (show (14 : Nat) ∈ ([14, 31, 32, 33] : List Nat) by decide) o_23
        have hFX := FX_setT hFX (gs_14 hG) (show (14 : Nat) ∈ ([14, 31, 32, 33] : List Nat) by decide) o_23
        have fb_25 : f_23 (g 11) = .inr (7, [.ref (g 30), .int len_8]) := f_at o_23 (S_ne (gs_11 hG) (gs_14 hG) (show (11 : Nat) ≠ 14 by decide)) fb_20
        have fb_26 : f_23 (g 31) = .inl (cI, 301, .inl c_16) := f_at o_23 (S_ne (gs_31 hG) (gs_14 hG) (show (31 : Nat) ≠ 14 by decide)) fb_21
        have fb_27 : f_23 (g 32) = .inl (cI, 301, .inl c_17) := f_at o_23 (S_ne (gs_32 hG) (gs_14 hG) (show (32 : Nat) ≠ 14 by decide)) fb_22
        refine lv_aload_n hx hb dX8_begin_139 rfl (lv_at hl 0 rfl) ?_
        refine call_p (va_runV (As := []) (rest := []) ⟨hx, hb, hml, hown, hts⟩ (t_X8_advancemz l D cI cR cM _ (ks := ks) (vs := vs) (m0 := n0)  hj hG hI  (by first | assumption | omega | (subst hj1; omega)) (⟨_, _, _, _, _, _, _, _, fa_23, fb_26, fb_27, hq1, hq2, rfl⟩) (by subst hj1; omega) (hze)) (cwV 0 hts gX8_begin_X8_advance rfl rfl rfl (by decide +kernel) ⟨Nat.le_of_ble_eq_true rfl, Nat.le_of_ble_eq_true rfl⟩) (pre_T hK hP hD (gm_14 hG) fa_23 rfl) rfl rfl hl.1 rfl (lv_room (Nat.le_of_ble_eq_true rfl)) dX8_begin_140 ⟨Nat.le_of_ble_eq_true rfl, Nat.le_of_ble_eq_true rfl⟩) hD hS hA (fun u_28 H locs hw hP hD hS => ?_)
        obtain ⟨f_28, e0_28⟩ : ∃ x, x = u_28 := ⟨_, rfl⟩
        subst e0_28
        obtain ⟨hI, hF_28, hC_28, hfx_28⟩ : IN jn cI cR cM g L S f_28 ∧ FR S [14] f_23 f_28 ∧ (TKm cI g ks vs f_28 0) ∧ (FX S (fun _ => False) [14] f_23 f_28) := hw
        have hP : va_P D vwCl (va_pl L f_28) H := hP
        have hD : va_D A (va_pl L f_28) := hD
        have hF := FR_tr hF hF_28 (by decide)
        have hFX := FX_tr hFX hfx_28 (fun _ h9 => h9.elim) (by decide)
        have fb_29 : f_28 (g 11) = .inr (7, [.ref (g 30), .int len_8]) := FR_at hF_28 (gs_11 hG) (show (11 : Nat) ∉ ([14] : List Nat) by decide) fb_25
        have fb_30 : f_28 (g 31) = .inl (cI, 301, .inl c_16) := FR_at hF_28 (gs_31 hG) (show (31 : Nat) ∉ ([14] : List Nat) by decide) fb_26
        have fb_31 : f_28 (g 32) = .inl (cI, 301, .inl c_17) := FR_at hF_28 (gs_32 hG) (show (32 : Nat) ∉ ([14] : List Nat) by decide) fb_27
        exact g_vret f_28 hx hb hr hlocks hS rfl (⟨hI, hF, show TKm cI g ks vs f_28 0 from (hC_28), show FX S (fun _ => False) [14, 31, 32, 33] f f_28 from (by first | assumption | omega | (subst hj1; omega))⟩) hP hD hQ (Nat.le_of_ble_eq_true rfl) (Nat.le_of_ble_eq_true rfl) dX8_begin_143
      · refine lv_aload_n hx hb dX8_begin_18 rfl (lv_at hl 0 rfl) ?_
        refine t_get (D := D) (L := L) (f := f_6) (ci := 8) (v := .ref (g 11)) (C := RX8) (T := TX8) (N := 10) hx hb hts (by decide +kernel) hown hK.1 hP (gm_14 hG) fg_7 rfl 0 (by decide) (hts (.fieldLink RX8 21 "JugglingHall$Tokens" "tape" "LJugglingHall$Tape;") (by decide +kernel)) (fun _ h9 => h9) rfl dX8_begin_19 ?_
        refine lv_iload_n hx hb dX8_begin_22 rfl (lv_at hl 1 rfl) ?_
        obtain ⟨c_32, fg_32, iv0_32⟩ := op_30 hI (gm_30 hG) (gs_30 hG)
        have hnn_33 : 0 ≤ sE cb n9 at_.toInt := sE_nn (by rw [← TpC_c hTl fg_32]; exact iv0_32) (by subst hj1; omega) (by subst hj1; omega) (by subst hj1; omega)
        refine roP (va_runV (As := [.int at_]) (rest := []) ⟨hx, hb, hml, hown, hts⟩ (t_X7_byteAtm l D cI cR cM _ (cb := cb) (n9 := n9)  hj hG hI  (by first | assumption | omega | (subst hj1; omega)) (hTl)) (cwV 1 hts gX8_begin_X7_byteAt rfl rfl rfl (by decide +kernel) ⟨Nat.le_of_ble_eq_true rfl, Nat.le_of_ble_eq_true rfl⟩) (pre_T hK hP hD (gm_11 hG) fg_8 rfl) rfl rfl hl.1 rfl (lv_room (Nat.le_of_ble_eq_true rfl)) dX8_begin_23 ⟨Nat.le_of_ble_eq_true rfl, Nat.le_of_ble_eq_true rfl⟩) hS hA hP (fun r_34 H locs hw hP hS => ?_)
        obtain ⟨h_34, he_34⟩ : (-1 ≤ r_34.toInt ∧ r_34.toInt ≤ 255) ∧ (r_34.toInt = sE cb n9 at_.toInt) := hw
        refine lv_istore_n (lv' := [(2, .int r_34), (0, .ref (g 14)), (1, .int at_)]) hx hb dX8_begin_26 rfl hl (by decide) rfl (fun ls hl => ?_)
        refine lv_iload_n hx hb dX8_begin_27 rfl (lv_at hl 2 rfl) ?_
        refine lv_istore_n (lv' := [(3, .int at_), (2, .int r_34), (0, .ref (g 14)), (1, .int at_)]) hx hb dX8_begin_28 rfl hl (by decide) rfl (fun ls hl => ?_)
        obtain ⟨z_35, q_35, e_35⟩ := i_inc (a := at_.toInt) (1) (rfl) (by decide) (by subst hj1; omega) (by subst hj1; omega)
        refine lv_iinc (v := z_35) (lv' := [(1, .int z_35), (3, .int at_), (2, .int r_34), (0, .ref (g 14))]) hx hb dX8_begin_29 hl (k := 3) rfl q_35 (by decide) rfl (fun ls hl => ?_)
        refine lv_iload_n hx hb dX8_begin_32 rfl (lv_at hl 2 rfl) ?_
        refine roP (va_runS (As := [.int r_34]) (rest := []) ⟨hx, hb, hml, hown, hts⟩ (t_X8_isLetterm l D cI cR cM _     ) (va_cwS 1 hts gX8_begin_X8_isLetter rfl rfl rfl (by decide +kernel) ⟨Nat.le_of_ble_eq_true rfl, Nat.le_of_ble_eq_true rfl⟩) (pre_S hK va_P_nil (va_D_nil (A := fun _ => True))) rfl rfl hl.1 rfl (lv_room (Nat.le_of_ble_eq_true rfl)) dX8_begin_33 ⟨Nat.le_of_ble_eq_true rfl, Nat.le_of_ble_eq_true rfl⟩) hS hA hP (fun r_36 H locs hw hP hS => ?_)
        obtain ⟨hl_36, h01_36⟩ : ((r_36.toInt = 1 ∧ isLt r_34.toInt) ∨ (r_36.toInt = 0 ∧ ¬ isLt r_34.toInt)) ∧ (r_36.toInt = 0 ∨ r_36.toInt = 1) := hw
        refine a_if_eq (u := r_36.toInt) (tgt := 88) hx hb dX8_begin_36 (by decide) (rfl) (fun c_37 => ?_) (fun c_37 => ?_)
        · have hnl : ¬ isLt (sE cb n9 at_.toInt) := by rw [← he_34]; exact (hl_36.resolve_left (fun q9 => by have := q9.1; omega)).2
          refine lv_iload_n hx hb dX8_begin_88 rfl (lv_at hl 2 rfl) ?_
          refine lv_bipush (v := 32) hx hb dX8_begin_89 (by decide) ?_
          refine a_icmp_eq (u := r_34.toInt) (v := 32) (tgt := 113) hx hb dX8_begin_91 (by decide) (rfl) (by decide) (fun c_38 => ?_) (fun c_38 => ?_)
          · refine lv_goto (tgt := 7) hx hb dX8_begin_113 (by decide) ?_
            exact ih7 z_35 f_6 _ _ _ (by subst hj1; omega) hI hF (by first | assumption | omega | (subst hj1; omega)) (⟨n0, b1, by omega, by omega, fun j9 h8 h9 => by
              by_cases q9 : j9 = at_.toInt
              · rw [q9, ← he_34]; omega
              · exact b4 j9 h8 (by subst hj1; omega)⟩) (hTl) (by first | assumption | omega | (subst hj1; omega)) hP hD hS (lv_sub hl [3, 0] rfl)
          · refine lv_iload_n hx hb dX8_begin_94 rfl (lv_at hl 2 rfl) ?_
            refine lv_bipush (v := 10) hx hb dX8_begin_95 (by decide) ?_
            refine a_icmp_eq (u := r_34.toInt) (v := 10) (tgt := 113) hx hb dX8_begin_97 (by decide) (rfl) (by decide) (fun c_39 => ?_) (fun c_39 => ?_)
            · refine lv_goto (tgt := 7) hx hb dX8_begin_113 (by decide) ?_
              exact ih7 z_35 f_6 _ _ _ (by subst hj1; omega) hI hF (by first | assumption | omega | (subst hj1; omega)) (⟨n0, b1, by omega, by omega, fun j9 h8 h9 => by
                by_cases q9 : j9 = at_.toInt
                · rw [q9, ← he_34]; omega
                · exact b4 j9 h8 (by subst hj1; omega)⟩) (hTl) (by first | assumption | omega | (subst hj1; omega)) hP hD hS (lv_sub hl [3, 0] rfl)
            · refine lv_aload_n hx hb dX8_begin_100 rfl (lv_at hl 3 rfl) ?_
              refine lv_iload_n hx hb dX8_begin_101 rfl (lv_at hl 2 rfl) ?_
              refine roP (va_runS (As := [.int r_34]) (rest := [.ref (g 14)]) ⟨hx, hb, hml, hown, hts⟩ (t_X8_signKindm l D cI cR cM _     (by first | assumption | omega | (subst hj1; omega))) (va_cwS 1 hts gX8_begin_X8_signKind rfl rfl rfl (by decide +kernel) ⟨Nat.le_of_ble_eq_true rfl, Nat.le_of_ble_eq_true rfl⟩) (pre_SS hK hST hS hAB va_P_nil (va_D_nil (A := fun _ => True))) rfl rfl hl.1 rfl (lv_room (Nat.le_of_ble_eq_true rfl)) dX8_begin_102 ⟨Nat.le_of_ble_eq_true rfl, Nat.le_of_ble_eq_true rfl⟩) hS hA hP (fun r_40 H locs hw hP hS => ?_)
              have hk_40 : ((48 ≤ r_34.toInt ∧ r_34.toInt ≤ 57 ∧ r_40.toInt = 2) ∨ (¬ (48 ≤ r_34.toInt ∧ r_34.toInt ≤ 57) ∧ isSg r_34.toInt ∧ r_40.toInt = r_34.toInt) ∨ (¬ (48 ≤ r_34.toInt ∧ r_34.toInt ≤ 57) ∧ ¬ isSg r_34.toInt ∧ r_40.toInt = 1)) := hw
              have hkk := hk_40
              rw [he_34] at hkk
              obtain ⟨t1, t2, t3⟩ := tk_sign hSM b3 b4 hnn_33 hnl (by subst hj1; omega) hkk
              refine lv_iload_n hx hb dX8_begin_105 rfl (lv_at hl 2 rfl) ?_
              refine lv_bipush (v := 48) hx hb dX8_begin_106 (by decide) ?_
              refine a_isub (u := r_34.toInt) (v := 48) hx hb dX8_begin_108 (rfl) (by decide) (by subst hj1; omega) (fun z_41 e_41 => ?_)
              refine lv_iload_n hx hb dX8_begin_109 rfl (lv_at hl 1 rfl) ?_
              refine call_p (va_runV (As := [.int r_40, .int z_41, .int at_]) (rest := []) ⟨hx, hb, hml, hown, hts⟩ (t_X8_keepm l D cI cR cM _ (ks := ks) (vs := vs) (n0 := (n0 : Int))  hj hG hI  (by first | assumption | omega | (subst hj1; omega)) (b1) (by subst hj1; omega) (by rw [(show ((n0 : Nat) : Int).toNat = n0 by omega)]; exact t1) (fun q9 => by rw [(show ((n0 : Nat) : Int).toNat = n0 by omega)] at q9 ⊢; rw [t3 q9, ← he_34]; omega)) (cwV 3 hts gX8_begin_X8_keep rfl rfl rfl (by decide +kernel) ⟨Nat.le_of_ble_eq_true rfl, Nat.le_of_ble_eq_true rfl⟩) (pre_T hK hP hD (gm_14 hG) fg_7 rfl) rfl rfl hl.1 rfl (lv_room (Nat.le_of_ble_eq_true rfl)) dX8_begin_110 ⟨Nat.le_of_ble_eq_true rfl, Nat.le_of_ble_eq_true rfl⟩) hD hS hA (fun u_42 H locs hw hP hD hS => ?_)
              obtain ⟨f_42, e0_42⟩ : ∃ x, x = u_42 := ⟨_, rfl⟩
              subst e0_42
              obtain ⟨hI, hF_42, hAr_42, hfx_42⟩ : IN jn cI cR cM g L S f_42 ∧ FR S [14, 31, 32, 33] f_6 f_42 ∧ (TKp cI g ks vs f_42 ((n0 : Int) + 1)) ∧ (FX S (fun _ => False) [14, 31, 32, 33] f_6 f_42) := hw
              have hP : va_P D vwCl (va_pl L f_42) H := hP
              have hD : va_D A (va_pl L f_42) := hD
              have hF := FR_tr hF hF_42 (by decide)
              have hFX := FX_tr hFX hfx_42 (fun _ h9 => h9.elim) (by decide)
              have fb_43 : f_42 (g 11) = .inr (7, [.ref (g 30), .int len_8]) := FR_at hF_42 (gs_11 hG) (show (11 : Nat) ∉ ([14, 31, 32, 33] : List Nat) by decide) fg_8
              have fb_44 : f_42 (g 30) = .inl (cI, 300, .inl c_32) := FR_at hF_42 (gs_30 hG) (show (30 : Nat) ∉ ([14, 31, 32, 33] : List Nat) by decide) fg_32
              refine lv_goto (tgt := 7) hx hb dX8_begin_113 (by decide) ?_
              exact ih7 z_35 f_42 _ _ _ (by subst hj1; omega) hI hF (by first | assumption | omega | (subst hj1; omega)) (⟨n0 + 1, by rw [show (((n0 + 1 : Nat)) : Int) = (n0 : Int) + 1 by omega]; exact hAr_42, by omega, by omega, fun j9 h8 h9 => absurd h9 (by subst hj1; omega)⟩) (TpC_fr hTl hG hF_42 (by decide)) (by first | assumption | omega | (subst hj1; omega)) hP hD hS (lv_sub hl [3, 0] rfl)
        · have hlt0 : isLt (sE cb n9 at_.toInt) := by rw [← he_34]; exact (hl_36.resolve_right (fun q9 => by have := q9.1; omega)).2
          have loop39 : ∀ (ddloop39 : Nat) (a2 : Int32) (H : Heap) (locs : List Loc) (ls : Array Slot), (400 - a2.toInt).toNat < ddloop39 → (at_.toInt < a2.toInt ∧ a2.toInt ≤ n9) → (∀ j9 : Int, at_.toInt ≤ j9 → j9 < a2.toInt → isLt (sE cb n9 j9)) → va_P D vwCl (va_pl L f_6) H → va_D A (va_pl L f_6) → va_S A s.heap H locs → lv_has ls 4 [(0, .ref (g 14)), (1, .int a2), (2, .int r_34), (3, .int at_)] → W p l e ({ frames := 6, cells := 0, slots := 0, locals := 132 }) s m args below meth c H locs (0) (0) Q (F0 m 39 ls []) := by
            intro ddloop39
            induction ddloop39 with
            | zero =>
              intro a2 H locs ls hdd
              exact absurd hdd (Nat.not_lt_zero _)
            | succ ddloop39 ih39 =>
              intro a2 H locs ls hdd hi2 hlt hP hD hS hl
              refine lv_iload_n hx hb dX8_begin_39 rfl (lv_at hl 1 rfl) ?_
              refine lv_aload_n hx hb dX8_begin_40 rfl (lv_at hl 0 rfl) ?_
              refine t_get (D := D) (L := L) (f := f_6) (ci := 8) (v := .ref (g 11)) (C := RX8) (T := TX8) (N := 10) hx hb hts (by decide +kernel) hown hK.1 hP (gm_14 hG) fg_7 rfl 0 (by decide) (hts (.fieldLink RX8 21 "JugglingHall$Tokens" "tape" "LJugglingHall$Tape;") (by decide +kernel)) (fun _ h9 => h9) rfl dX8_begin_41 ?_
              have hln_46 := TpC_at (c := cb) hTl fg_8
              refine t_getN (D := D) (L := L) (f := f_6) (ci := 7) (v := .int len_8) (C := RX7) (T := TX7) (N := 2) (host := "JugglingHall") hx hb hts (by decide +kernel) hown hK.1 hP (gm_11 hG) fg_8 rfl 1 (by decide) (hK.nw (.fieldLinkNest RX8 29 "JugglingHall$Tape" "length" "I" "JugglingHall") (by decide +kernel) rfl) (fun _ h9 => h9) rfl dX8_begin_44 ?_
              refine a_icmp_ge (u := a2.toInt) (v := len_8.toInt) (tgt := 70) hx hb dX8_begin_47 (by decide) (rfl) (rfl) (fun c_47 => ?_) (fun c_47 => ?_)
              · have hne9 : ¬ isLt (sE cb n9 a2.toInt) := by rw [sE_out (by subst hj1; omega)]; unfold isLt; omega
                refine lv_aload_n hx hb dX8_begin_70 rfl (lv_at hl 0 rfl) ?_
                refine lv_aload_n hx hb dX8_begin_71 rfl (lv_at hl 0 rfl) ?_
                refine lv_iload_n hx hb dX8_begin_72 rfl (lv_at hl 3 rfl) ?_
                refine lv_iload_n hx hb dX8_begin_73 rfl (lv_at hl 1 rfl) ?_
                refine roP (va_runV (As := [.int at_, .int a2]) (rest := [.ref (g 14)]) ⟨hx, hb, hml, hown, hts⟩ (t_X8_wordKindm l D cI cR cM _ (cb := cb) (n9 := n9)  hj hG hI hB  (by first | assumption | omega | (subst hj1; omega)) (by first | assumption | omega | (subst hj1; omega)) (hTl)) (cwV 2 hts gX8_begin_X8_wordKind rfl rfl rfl (by decide +kernel) ⟨Nat.le_of_ble_eq_true rfl, Nat.le_of_ble_eq_true rfl⟩) (pre_TS hK hST hS hAB hP hD (gm_14 hG) fg_7 rfl) rfl rfl hl.1 rfl (lv_room (Nat.le_of_ble_eq_true rfl)) dX8_begin_74 ⟨Nat.le_of_ble_eq_true rfl, Nat.le_of_ble_eq_true rfl⟩) hS hA hP (fun r_48 H locs hw hP hS => ?_)
                have hk_48 : (∃ k9 : Int, WKd (sE cb n9) at_.toInt a2.toInt k9 ∧ r_48.toInt = cK k9) := hw
                obtain ⟨k9_, hw1, hw2⟩ := hk_48
                obtain ⟨t1, t2, t3⟩ := tk_word hSM b3 b4 hlt hne9 (by subst hj1; omega) hw1
                refine lv_iload_n hx hb dX8_begin_77 rfl (lv_at hl 2 rfl) ?_
                refine lv_bipush (v := 65) hx hb dX8_begin_78 (by decide) ?_
                refine a_isub (u := r_34.toInt) (v := 65) hx hb dX8_begin_80 (rfl) (by decide) (by subst hj1; omega) (fun z_49 e_49 => ?_)
                refine lv_iload_n hx hb dX8_begin_81 rfl (lv_at hl 3 rfl) ?_
                refine call_p (va_runV (As := [.int r_48, .int z_49, .int at_]) (rest := []) ⟨hx, hb, hml, hown, hts⟩ (t_X8_keepm l D cI cR cM _ (ks := ks) (vs := vs) (n0 := (n0 : Int))  hj hG hI  (by first | assumption | omega | (subst hj1; omega)) (b1) (by subst hj1; omega) (by rw [(show ((n0 : Nat) : Int).toNat = n0 by omega), t1]; exact hw2) (fun q9 => by rw [(show ((n0 : Nat) : Int).toNat = n0 by omega)] at q9 ⊢; rw [t3 q9, ← he_34]; omega)) (cwV 3 hts gX8_begin_X8_keep rfl rfl rfl (by decide +kernel) ⟨Nat.le_of_ble_eq_true rfl, Nat.le_of_ble_eq_true rfl⟩) (pre_T hK hP hD (gm_14 hG) fg_7 rfl) rfl rfl hl.1 rfl (lv_room (Nat.le_of_ble_eq_true rfl)) dX8_begin_82 ⟨Nat.le_of_ble_eq_true rfl, Nat.le_of_ble_eq_true rfl⟩) hD hS hA (fun u_50 H locs hw hP hD hS => ?_)
                obtain ⟨f_50, e0_50⟩ : ∃ x, x = u_50 := ⟨_, rfl⟩
                subst e0_50
                obtain ⟨hI, hF_50, hAr_50, hfx_50⟩ : IN jn cI cR cM g L S f_50 ∧ FR S [14, 31, 32, 33] f_6 f_50 ∧ (TKp cI g ks vs f_50 ((n0 : Int) + 1)) ∧ (FX S (fun _ => False) [14, 31, 32, 33] f_6 f_50) := hw
                have hP : va_P D vwCl (va_pl L f_50) H := hP
                have hD : va_D A (va_pl L f_50) := hD
                have hF := FR_tr hF hF_50 (by decide)
                have hFX := FX_tr hFX hfx_50 (fun _ h9 => h9.elim) (by decide)
                have fb_51 : f_50 (g 11) = .inr (7, [.ref (g 30), .int len_8]) := FR_at hF_50 (gs_11 hG) (show (11 : Nat) ∉ ([14, 31, 32, 33] : List Nat) by decide) fg_8
                have fb_52 : f_50 (g 30) = .inl (cI, 300, .inl c_32) := FR_at hF_50 (gs_30 hG) (show (30 : Nat) ∉ ([14, 31, 32, 33] : List Nat) by decide) fg_32
                refine lv_goto (tgt := 113) hx hb dX8_begin_85 (by decide) ?_
                refine lv_goto (tgt := 7) hx hb dX8_begin_113 (by decide) ?_
                exact ih7 a2 f_50 _ _ _ (by subst hj1; omega) hI hF (by first | assumption | omega | (subst hj1; omega)) (⟨n0 + 1, by rw [show (((n0 + 1 : Nat)) : Int) = (n0 : Int) + 1 by omega]; exact hAr_50, by omega, by omega, fun j9 h8 h9 => absurd h9 (by subst hj1; omega)⟩) (TpC_fr hTl hG hF_50 (by decide)) (by first | assumption | omega | (subst hj1; omega)) hP hD hS (lv_sub hl [0, 1] rfl)
              · refine lv_aload_n hx hb dX8_begin_50 rfl (lv_at hl 0 rfl) ?_
                refine t_get (D := D) (L := L) (f := f_6) (ci := 8) (v := .ref (g 11)) (C := RX8) (T := TX8) (N := 10) hx hb hts (by decide +kernel) hown hK.1 hP (gm_14 hG) fg_7 rfl 0 (by decide) (hts (.fieldLink RX8 21 "JugglingHall$Tokens" "tape" "LJugglingHall$Tape;") (by decide +kernel)) (fun _ h9 => h9) rfl dX8_begin_51 ?_
                refine lv_iload_n hx hb dX8_begin_54 rfl (lv_at hl 1 rfl) ?_
                refine roP (va_runV (As := [.int a2]) (rest := []) ⟨hx, hb, hml, hown, hts⟩ (t_X7_byteAtm l D cI cR cM _ (cb := cb) (n9 := n9)  hj hG hI  (by first | assumption | omega | (subst hj1; omega)) (hTl)) (cwV 1 hts gX8_begin_X7_byteAt rfl rfl rfl (by decide +kernel) ⟨Nat.le_of_ble_eq_true rfl, Nat.le_of_ble_eq_true rfl⟩) (pre_T hK hP hD (gm_11 hG) fg_8 rfl) rfl rfl hl.1 rfl (lv_room (Nat.le_of_ble_eq_true rfl)) dX8_begin_55 ⟨Nat.le_of_ble_eq_true rfl, Nat.le_of_ble_eq_true rfl⟩) hS hA hP (fun r_53 H locs hw hP hS => ?_)
                obtain ⟨h_53, he_53⟩ : (-1 ≤ r_53.toInt ∧ r_53.toInt ≤ 255) ∧ (r_53.toInt = sE cb n9 a2.toInt) := hw
                refine roP (va_runS (As := [.int r_53]) (rest := []) ⟨hx, hb, hml, hown, hts⟩ (t_X8_isLetterm l D cI cR cM _     ) (va_cwS 1 hts gX8_begin_X8_isLetter rfl rfl rfl (by decide +kernel) ⟨Nat.le_of_ble_eq_true rfl, Nat.le_of_ble_eq_true rfl⟩) (pre_S hK va_P_nil (va_D_nil (A := fun _ => True))) rfl rfl hl.1 rfl (lv_room (Nat.le_of_ble_eq_true rfl)) dX8_begin_58 ⟨Nat.le_of_ble_eq_true rfl, Nat.le_of_ble_eq_true rfl⟩) hS hA hP (fun r_54 H locs hw hP hS => ?_)
                obtain ⟨hl_54, h01_54⟩ : ((r_54.toInt = 1 ∧ isLt r_53.toInt) ∨ (r_54.toInt = 0 ∧ ¬ isLt r_53.toInt)) ∧ (r_54.toInt = 0 ∨ r_54.toInt = 1) := hw
                refine a_if_eq (u := r_54.toInt) (tgt := 70) hx hb dX8_begin_61 (by decide) (rfl) (fun c_55 => ?_) (fun c_55 => ?_)
                · have hne9 : ¬ isLt (sE cb n9 a2.toInt) := by rw [← he_53]; exact (hl_54.resolve_left (fun q8 => by have := q8.1; omega)).2
                  refine lv_aload_n hx hb dX8_begin_70 rfl (lv_at hl 0 rfl) ?_
                  refine lv_aload_n hx hb dX8_begin_71 rfl (lv_at hl 0 rfl) ?_
                  refine lv_iload_n hx hb dX8_begin_72 rfl (lv_at hl 3 rfl) ?_
                  refine lv_iload_n hx hb dX8_begin_73 rfl (lv_at hl 1 rfl) ?_
                  refine roP (va_runV (As := [.int at_, .int a2]) (rest := [.ref (g 14)]) ⟨hx, hb, hml, hown, hts⟩ (t_X8_wordKindm l D cI cR cM _ (cb := cb) (n9 := n9)  hj hG hI hB  (by first | assumption | omega | (subst hj1; omega)) (by first | assumption | omega | (subst hj1; omega)) (hTl)) (cwV 2 hts gX8_begin_X8_wordKind rfl rfl rfl (by decide +kernel) ⟨Nat.le_of_ble_eq_true rfl, Nat.le_of_ble_eq_true rfl⟩) (pre_TS hK hST hS hAB hP hD (gm_14 hG) fg_7 rfl) rfl rfl hl.1 rfl (lv_room (Nat.le_of_ble_eq_true rfl)) dX8_begin_74 ⟨Nat.le_of_ble_eq_true rfl, Nat.le_of_ble_eq_true rfl⟩) hS hA hP (fun r_56 H locs hw hP hS => ?_)
                  have hk_56 : (∃ k9 : Int, WKd (sE cb n9) at_.toInt a2.toInt k9 ∧ r_56.toInt = cK k9) := hw
                  obtain ⟨k9_, hw1, hw2⟩ := hk_56
                  obtain ⟨t1, t2, t3⟩ := tk_word hSM b3 b4 hlt hne9 (by subst hj1; omega) hw1
                  refine lv_iload_n hx hb dX8_begin_77 rfl (lv_at hl 2 rfl) ?_
                  refine lv_bipush (v := 65) hx hb dX8_begin_78 (by decide) ?_
                  refine a_isub (u := r_34.toInt) (v := 65) hx hb dX8_begin_80 (rfl) (by decide) (by subst hj1; omega) (fun z_57 e_57 => ?_)
                  refine lv_iload_n hx hb dX8_begin_81 rfl (lv_at hl 3 rfl) ?_
                  refine call_p (va_runV (As := [.int r_56, .int z_57, .int at_]) (rest := []) ⟨hx, hb, hml, hown, hts⟩ (t_X8_keepm l D cI cR cM _ (ks := ks) (vs := vs) (n0 := (n0 : Int))  hj hG hI  (by first | assumption | omega | (subst hj1; omega)) (b1) (by subst hj1; omega) (by rw [(show ((n0 : Nat) : Int).toNat = n0 by omega), t1]; exact hw2) (fun q9 => by rw [(show ((n0 : Nat) : Int).toNat = n0 by omega)] at q9 ⊢; rw [t3 q9, ← he_34]; omega)) (cwV 3 hts gX8_begin_X8_keep rfl rfl rfl (by decide +kernel) ⟨Nat.le_of_ble_eq_true rfl, Nat.le_of_ble_eq_true rfl⟩) (pre_T hK hP hD (gm_14 hG) fg_7 rfl) rfl rfl hl.1 rfl (lv_room (Nat.le_of_ble_eq_true rfl)) dX8_begin_82 ⟨Nat.le_of_ble_eq_true rfl, Nat.le_of_ble_eq_true rfl⟩) hD hS hA (fun u_58 H locs hw hP hD hS => ?_)
                  obtain ⟨f_58, e0_58⟩ : ∃ x, x = u_58 := ⟨_, rfl⟩
                  subst e0_58
                  obtain ⟨hI, hF_58, hAr_58, hfx_58⟩ : IN jn cI cR cM g L S f_58 ∧ FR S [14, 31, 32, 33] f_6 f_58 ∧ (TKp cI g ks vs f_58 ((n0 : Int) + 1)) ∧ (FX S (fun _ => False) [14, 31, 32, 33] f_6 f_58) := hw
                  have hP : va_P D vwCl (va_pl L f_58) H := hP
                  have hD : va_D A (va_pl L f_58) := hD
                  have hF := FR_tr hF hF_58 (by decide)
                  have hFX := FX_tr hFX hfx_58 (fun _ h9 => h9.elim) (by decide)
                  have fb_59 : f_58 (g 11) = .inr (7, [.ref (g 30), .int len_8]) := FR_at hF_58 (gs_11 hG) (show (11 : Nat) ∉ ([14, 31, 32, 33] : List Nat) by decide) fg_8
                  have fb_60 : f_58 (g 30) = .inl (cI, 300, .inl c_32) := FR_at hF_58 (gs_30 hG) (show (30 : Nat) ∉ ([14, 31, 32, 33] : List Nat) by decide) fg_32
                  refine lv_goto (tgt := 113) hx hb dX8_begin_85 (by decide) ?_
                  refine lv_goto (tgt := 7) hx hb dX8_begin_113 (by decide) ?_
                  exact ih7 a2 f_58 _ _ _ (by subst hj1; omega) hI hF (by first | assumption | omega | (subst hj1; omega)) (⟨n0 + 1, by rw [show (((n0 + 1 : Nat)) : Int) = (n0 : Int) + 1 by omega]; exact hAr_58, by omega, by omega, fun j9 h8 h9 => absurd h9 (by subst hj1; omega)⟩) (TpC_fr hTl hG hF_58 (by decide)) (by first | assumption | omega | (subst hj1; omega)) hP hD hS (lv_sub hl [0, 1] rfl)
                · obtain ⟨z_61, q_61, e_61⟩ := i_inc (a := a2.toInt) (1) (rfl) (by decide) (by subst hj1; omega) (by subst hj1; omega)
                  refine lv_iinc (v := z_61) (lv' := [(1, .int z_61), (0, .ref (g 14)), (2, .int r_34), (3, .int at_)]) hx hb dX8_begin_64 hl (k := 1) rfl q_61 (by decide) rfl (fun ls hl => ?_)
                  refine lv_goto (tgt := 39) hx hb dX8_begin_67 (by decide) ?_
                  exact ih39 z_61 _ _ _ (by subst hj1; omega) (by first | assumption | omega | (subst hj1; omega)) (fun j9 h8 h9 => by
                    by_cases q9 : j9 = a2.toInt
                    · rw [q9, ← he_53]; exact (hl_54.resolve_right (fun q8 => by have := q8.1; omega)).2
                    · exact hlt j9 h8 (by subst hj1; omega)) hP hD hS (lv_sub hl [1, 0, 2, 3] rfl)
          exact loop39 ((400 - z_35.toInt).toNat + 1) z_35 _ _ _ (by subst hj1; omega) (by first | assumption | omega | (subst hj1; omega)) (fun j9 h8 h9 => by rw [show j9 = at_.toInt by omega]; exact hlt0) hP hD hS (lv_sub hl [3, 0, 2, 1] rfl)
  have hz_62 : (0 : Int32).toInt = 0 := by decide
  exact loop7 ((400 - (0 : Int32).toInt).toNat + 1) (0 : Int32) f_2 _ _ _ (by subst hj1; omega) hI hF (by first | assumption | omega | (subst hj1; omega)) (⟨0, hA0, by omega, by rw [hSM.1]; omega, fun j9 h8 h9 => absurd h9 (by have := hSM.1; omega)⟩) (hT0) (by first | assumption | omega | (subst hj1; omega)) hP hD hS (lv_sub hl [1, 0] rfl)
