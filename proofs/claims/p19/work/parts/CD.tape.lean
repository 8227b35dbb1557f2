theorem NR_gr {g lv gr : Nat → Nat} {k : Nat} (h : k < 8) : NR g lv gr (gr k) := Or.inr (Or.inl ⟨k, h, rfl⟩)
theorem tw_end {ks vs : Nat → Int} {c : Tx} {i : Nat} {E : Env1} {F : Int → Int} (h : TGo ks vs c (i, E, F)) (h0 : ks i = 0) : TWel ks vs c (i, E, F) := ⟨h, h0⟩
set_option maxRecDepth 100000 in
set_option maxHeartbeats 4000000 in
theorem t_X4_readTapem (l : Launch) (D : va_G) (cI cR cM : ClassId) (sz : Nat) {jn : Nat} {g : Nat → Nat} {L : List Nat} {S : Sg} {f : Nat → va_E} {adK adV : Nat → Nat} {B0 : Nat} {cb : Nat → Int32} {n9 : Int} {P ks vs : Nat → Int} {lv gr : Nat → Nat} {E : Env1} (hj : 1 ≤ jn ∧ jn ≤ 3) (hG : SG g L S) (hI : IN jn cI cR cM g L S f) (hB : ∀ a, a ∈ L → B0 ≤ a) (hj1 : jn = 1) (hTp : TpC cI g f cb n9) (hSM : SM (sE cb n9) P ks vs) (hn9 : 0 ≤ n9 ∧ n9 ≤ 300) (hKO : KO ks vs) (hRD : RDC g lv gr S) (hLv : LvC cR g lv f) (hEk0 : EnvK cI cR jn g lv gr S f E) (hEO : EOk E) : Met l yX4_readTape wsX4_readTape ({ frames := 16, cells := 0, slots := 0, locals := 408 }) (P0S D cI cR cM [.ref (g 13)] sz (va_pl L f) adK adV B0) (QG (S := Int32 × (Nat → va_E)) (fun u => some (.int u.1)) (fun u => va_pl L u.2) (fun u => IN jn cI cR cM g L S u.2 ∧ FR S [0, 1, 2, 3, 13, 14, 31, 32, 33, 34] f u.2 ∧ (Hd ((u.1.toInt = 1 ∧ ∃ (i9 : Nat) (E9 : Env1) (F9 : Int → Int), TWel ks vs (0, E, fun _ => 0) (i9, E9, F9) ∧ EnvC cI cR jn g lv gr S u.2 E9 F9 ∧ EOk E9) ∨ (u.1.toInt = 0 ∧ TFls ks vs (0, E, fun _ => 0)))) ∧ (FX S (NR g lv gr) [2, 3, 13, 14, 31, 32, 33, 34] f u.2) ∧ (u.1.toInt = 0 ∨ u.1.toInt = 1)) D (va_A (va_pl L f) sz)) 0 0 (va_A (va_pl L f) sz) := by
  refine goS (cc := cX4_readTape) (maxL := 3) (ret := (some .boolean)) (by decide +kernel) rfl (Nat.le_of_ble_eq_true rfl) ?_
  intro p e s m below meth c ls args Q hQ hsz hx hb hr hml hts hown hlocks hnm hP hK hD hl hST
  subst hsz
  have hD := hD.self (sz := s.heap.size)
  generalize hAe : va_A (va_pl L f) s.heap.size = A at hD hQ
  have hA : ∀ q, s.heap.size ≤ q → A q := fun q h => by rw [← hAe]; exact Or.inr h
  have hS : va_S A s.heap s.heap [] := va_S.rf
  have hFX : FX S (NR g lv gr) [2, 3, 13, 14, 31, 32, 33, 34] f f := FX_rf
  have hF : FR S [0, 1, 2, 3, 13, 14, 31, 32, 33, 34] f f := FR_rf
  have hAB : ∀ q, A q → B0 ≤ q := fun q h => by
    rw [← hAe] at h
    rcases h with ⟨k, e9, h⟩ | h
    · exact hB q (pl_mem h)
    · exact Nat.le_trans hST.1 h
  have hV := hST.2.1.narrow hAB
  have hZ9 := hST.2.2.2.1.narrow hAB
  have hQ9 := hST.2.2.2.2.narrow hAB
  have hl : lv_has ls 3 [(0, .ref (g 13))] := hl
  refine lv_aload_n hx hb dX4_readTape_0 rfl (lv_at hl 0 rfl) ?_
  refine lv_iconst (v := 0) hx hb dX4_readTape_1 (by decide) ?_
  obtain ⟨fa_1, pl_1, fg_1⟩ := op_13 hI (gm_13 hG) (gs_13 hG)
  have hz_3 : (0 : Int32).toInt = 0 := by decide
  refine t_put (D := D) (L := L) (f := f) (ci := 4) (v := .int 0) (ty := .int) (C := RX4) (T := TX4) (N := 11) hx hb hts (by decide +kernel) tyX4 tyX4_ok nmX4 hown hK.1 hP hD hS (gm_13 hG) fg_1 rfl 9 (by decide) (hts (.fieldLink RX4 31 "JugglingHall$Reader" "fault" "I") (by decide +kernel)) (fun _ h9 => h9) rfl (by decide +kernel) rfl rfl (Nat.le_of_ble_eq_true rfl) dX4_readTape_2 (fun f_2 H locs e9_2 o_2 hP hD hS => ?_)
  have fa_2 : f_2 (g 13) = .inr (4, [.int (nI jn), .ref (g 14), .ref (g 12), .ref (g 22), .ref (g 34), .ref (g 23), .ref (g 24), .ref (g 25), .ref (g 26), .int 0, .int pl_1]) := e9_2
  have hI := IN_set (e := .inr (4, [.int (nI jn), .ref (g 14), .ref (g 12), .ref (g 22), .ref (g 34), .ref (g 23), .ref (g 24), .ref (g 25), .ref (g 26), .int 0, .int pl_1])) hI (gs_13 hG) (mk_13 ) fa_2 o_2
  have hF := FR_set hF (gs_13 hG) (show (13 : Nat) ∈ ([0, 1, 2, 3, 13, 14, 31, 32, 33, 34] : List Nat) by decide) o_2
  have hFX := FX_setT hFX (gs_13 hG) (show (13 : Nat) ∈ ([2, 3, 13, 14, 31, 32, 33, 34] : List Nat) by decide) o_2
  refine lv_aload_n hx hb dX4_readTape_5 rfl (lv_at hl 0 rfl) ?_
  refine lv_iconst (v := (-1)) hx hb dX4_readTape_6 (by decide) ?_
  have hz_5 : (-1 : Int32).toInt = (-1) := by decide
  refine t_put (D := D) (L := L) (f := f_2) (ci := 4) (v := .int (-1)) (ty := .int) (C := RX4) (T := TX4) (N := 11) hx hb hts (by decide +kernel) tyX4 tyX4_ok nmX4 hown hK.1 hP hD hS (gm_13 hG) fa_2 rfl 10 (by decide) (hts (.fieldLink RX4 35 "JugglingHall$Reader" "place" "I") (by decide +kernel)) (fun _ h9 => h9) rfl (by decide +kernel) rfl rfl (Nat.le_of_ble_eq_true rfl) dX4_readTape_7 (fun f_4 H locs e9_4 o_4 hP hD hS => ?_)
  have fa_4 : f_4 (g 13) = .inr (4, [.int (nI jn), .ref (g 14), .ref (g 12), .ref (g 22), .ref (g 34), .ref (g 23), .ref (g 24), .ref (g 25), .ref (g 26), .int 0, .int (-1)]) := e9_4
  have hI := IN_set (e := .inr (4, [.int (nI jn), .ref (g 14), .ref (g 12), .ref (g 22), .ref (g 34), .ref (g 23), .ref (g 24), .ref (g 25), .ref (g 26), .int 0, .int (-1)])) hI (gs_13 hG) (mk_13 ) fa_4 o_4
  have hF := FR_set hF (gs_13 hG) (show (13 : Nat) ∈ ([0, 1, 2, 3, 13, 14, 31, 32, 33, 34] : List Nat) by decide) o_4
  have hFX := FX_setT hFX (gs_13 hG) (show (13 : Nat) ∈ ([2, 3, 13, 14, 31, 32, 33, 34] : List Nat) by decide) o_4
  refine lv_aload_n hx hb dX4_readTape_10 rfl (lv_at hl 0 rfl) ?_
  refine t_get (D := D) (L := L) (f := f_4) (ci := 4) (v := .ref (g 26)) (C := RX4) (T := TX4) (N := 11) hx hb hts (by decide +kernel) hown hK.1 hP (gm_13 hG) fa_4 rfl 8 (by decide) (hts (.fieldLink RX4 27 "JugglingHall$Reader" "marks" "LJugglingHall$Marks;") (by decide +kernel)) (fun _ h9 => h9) rfl dX4_readTape_11 ?_
  refine lv_iconst (v := 0) hx hb dX4_readTape_14 (by decide) ?_
  obtain ⟨p_6, m_6, s_6⟩ := hG.2.2.2
  obtain ⟨cnt_7, fg_7, v1_7, v2_7, mp_7, sp_7⟩ := op_2 hI m_6 s_6
  have hz_9 : (0 : Int32).toInt = 0 := by decide
  refine t_putN (D := D) (L := L) (f := f_4) (ci := 3) (v := .int 0) (ty := .int) (C := RX3) (T := TX3) (N := 2) (host := "JugglingHall") hx hb hts (by decide +kernel) tyX3 tyX3_ok nmX3 hown hK.1 hP hD hS m_6 fg_7 rfl 1 (by decide) (hK.nw (.fieldLinkNest RX4 59 "JugglingHall$Marks" "count" "I" "JugglingHall") (by decide +kernel) rfl) (fun _ h9 => h9) rfl (by decide +kernel) rfl rfl (Nat.le_of_ble_eq_true rfl) dX4_readTape_15 (fun f_8 H locs e9_8 o_8 hP hD hS => ?_)
  have fa_8 : f_8 (g 26) = .inr (3, [.ref p_6, .int 0]) := e9_8
  have hI := IN_set (e := .inr (3, [.ref p_6, .int 0])) hI s_6 (mk_2 (by first | assumption | omega | (subst hj1; omega)) (by first | assumption | omega | (subst hj1; omega)) (by first | assumption | omega | (subst hj1; omega)) (by first | assumption | omega | (subst hj1; omega))) fa_8 o_8
  have hF := FR_set hF s_6 (show (2 : Nat) ∈ ([0, 1, 2, 3, 13, 14, 31, 32, 33, 34] : List Nat) by decide) o_8
  have hFX := FX_setT hFX s_6 (show (2 : Nat) ∈ ([2, 3, 13, 14, 31, 32, 33, 34] : List Nat) by decide) o_8
  have fb_10 : f_8 (g 13) = .inr (4, [.int (nI jn), .ref (g 14), .ref (g 12), .ref (g 22), .ref (g 34), .ref (g 23), .ref (g 24), .ref (g 25), .ref (g 26), .int 0, .int (-1)]) := f_at o_8 (S_ne (gs_13 hG) s_6 (show (13 : Nat) ≠ 2 by decide)) fa_4
  refine lv_iconst (v := 0) hx hb dX4_readTape_18 (by decide) ?_
  refine lv_istore_n (lv' := [(1, .int 0), (0, .ref (g 13))]) hx hb dX4_readTape_19 rfl hl (by decide) rfl (fun ls hl => ?_)
  have loop20 : ∀ (ddloop20 : Nat) (le : Int32) (f_11 : Nat → va_E) (H : Heap) (locs : List Loc) (ls : Array Slot), (20 - le.toInt).toNat < ddloop20 → IN jn cI cR cM g L S f_11 → FR S [0, 1, 2, 3, 13, 14, 31, 32, 33, 34] f f_11 → (0 ≤ le.toInt ∧ le.toInt ≤ 8) → (∀ k9 : Nat, (k9 : Int) < le.toInt → ∃ w9, RWf cI jn S f_11 (gr k9) 0 w9) → (EnvK cI cR jn g lv gr S f_11 E) → (TpC cI g f_11 cb n9) → (LvC cR g lv f_11) → (FX S (NR g lv gr) [2, 3, 13, 14, 31, 32, 33, 34] f f_11) → va_P D vwCl (va_pl L f_11) H → va_D A (va_pl L f_11) → va_S A s.heap H locs → lv_has ls 3 [(0, .ref (g 13)), (1, .int le)] → W p l e ({ frames := 16, cells := 0, slots := 0, locals := 408 }) s m args below meth c H locs (0) (0) Q (F0 m 20 ls []) := by
    intro ddloop20
    induction ddloop20 with
    | zero =>
      intro le f_11 H locs ls hdd
      exact absurd hdd (Nat.not_lt_zero _)
    | succ ddloop20 ih20 =>
      intro le f_11 H locs ls hdd hI hF hi hz hEk hTl hLvl hFX hP hD hS hl
      refine lv_iload_n hx hb dX4_readTape_20 rfl (lv_at hl 1 rfl) ?_
      refine lv_aload_n hx hb dX4_readTape_21 rfl (lv_at hl 0 rfl) ?_
      obtain ⟨fa_12, pl_12, fg_12⟩ := op_13 hI (gm_13 hG) (gs_13 hG)
      refine t_get (D := D) (L := L) (f := f_11) (ci := 4) (v := .ref (g 23)) (C := RX4) (T := TX4) (N := 11) hx hb hts (by decide +kernel) hown hK.1 hP (gm_13 hG) fg_12 rfl 5 (by decide) (hts (.fieldLink RX4 21 "JugglingHall$Reader" "here" "[LJugglingHall$Row;") (by decide +kernel)) (fun _ h9 => h9) rfl dX4_readTape_22 ?_
      obtain ⟨c_13, fg_13, iv0_13⟩ := op_23 hI (gm_23 hG) (gs_23 hG)
      refine t_alen (L := L) (f := f_11) (v := 8) hx hb hK.1 hP (gm_23 hG) 1 fg_13 rfl rfl dX4_readTape_25 ?_
      refine a_icmp_ge (u := le.toInt) (v := 8) (tgt := 45) hx hb dX4_readTape_26 (by decide) (rfl) (by decide) (fun c_14 => ?_) (fun c_14 => ?_)
      · refine lv_aload_n hx hb dX4_readTape_45 rfl (lv_at hl 0 rfl) ?_
        refine t_get (D := D) (L := L) (f := f_11) (ci := 4) (v := .ref (g 14)) (C := RX4) (T := TX4) (N := 11) hx hb hts (by decide +kernel) hown hK.1 hP (gm_13 hG) fg_12 rfl 1 (by decide) (hts (.fieldLink RX4 41 "JugglingHall$Reader" "tokens" "LJugglingHall$Tokens;") (by decide +kernel)) (fun _ h9 => h9) rfl dX4_readTape_46 ?_
        obtain ⟨cnt_15, nx_15, kd_15, vl_15, st_15, ls_15, fg_15, iv0_15, iv1_15, iv2_15⟩ := op_14 hI (gm_14 hG) (gs_14 hG)
        refine call_p (va_runV (As := []) (rest := []) ⟨hx, hb, hml, hown, hts⟩ (t_X8_beginm l D cI cR cM _ (cb := cb) (n9 := n9) (P := P) (ks := ks) (vs := vs)  hj hG hI hB  (by first | assumption | omega | (subst hj1; omega)) (hTl) (hSM) (hn9)) (cwV 0 hts gX4_readTape_X8_begin rfl rfl rfl (by decide +kernel) ⟨Nat.le_of_ble_eq_true rfl, Nat.le_of_ble_eq_true rfl⟩) (pre_TS hK hST hS hAB hP hD (gm_14 hG) fg_15 rfl) rfl rfl hl.1 rfl (lv_room (Nat.le_of_ble_eq_true rfl)) dX4_readTape_49 ⟨Nat.le_of_ble_eq_true rfl, Nat.le_of_ble_eq_true rfl⟩) hD hS hA (fun u_16 H locs hw hP hD hS => ?_)
        obtain ⟨f_16, e0_16⟩ : ∃ x, x = u_16 := ⟨_, rfl⟩
        subst e0_16
        obtain ⟨hI, hF_16, hC_16, hfx_16⟩ : IN jn cI cR cM g L S f_16 ∧ FR S [14, 31, 32, 33] f_11 f_16 ∧ (TKm cI g ks vs f_16 0) ∧ (FX S (fun _ => False) [14, 31, 32, 33] f_11 f_16) := hw
        have hP : va_P D vwCl (va_pl L f_16) H := hP
        have hD : va_D A (va_pl L f_16) := hD
        have hF := FR_tr hF hF_16 (by decide)
        have hFX := FX_tr hFX hfx_16 (fun _ h9 => h9.elim) (by decide)
        have fb_17 : f_16 (g 13) = .inr (4, [.int (nI jn), .ref (g 14), .ref (g 12), .ref (g 22), .ref (g 34), .ref (g 23), .ref (g 24), .ref (g 25), .ref (g 26), .int fa_12, .int pl_12]) := FR_at hF_16 (gs_13 hG) (show (13 : Nat) ∉ ([14, 31, 32, 33] : List Nat) by decide) fg_12
        have fb_18 : f_16 (g 23) = .inl (cR, 8, .inr (.inr (.inr (.inr c_13)))) := FR_at hF_16 (gs_23 hG) (show (23 : Nat) ∉ ([14, 31, 32, 33] : List Nat) by decide) fg_13
        have hEk3 := EnvK_fx hEk hG hF_16 hfx_16 (by decide) (by decide) (fun _ _ h9 => h9)
        have hEC3 := EnvK_C hEk3 (fun k9 h9 => by
          obtain ⟨w9, h8⟩ := hz k9 (by subst hj1; omega)
          exact ⟨w9, RWf_fx h8 hfx_16 (fun h7 => h7) (by decide)⟩)
        have hLv3 := LvC_fr hLvl hG hF_16 (by decide)
        refine lv_iconst (v := 0) hx hb dX4_readTape_52 (by decide) ?_
        refine lv_istore_n (lv' := [(1, .int 0), (0, .ref (g 13))]) hx hb dX4_readTape_53 rfl hl (by decide) rfl (fun ls hl => ?_)
        have loop54 : ∀ (ddloop54 : Nat) (ii : Int32) (f_19 : Nat → va_E) (H : Heap) (locs : List Loc) (ls : Array Slot), (400 - ii.toInt).toNat < ddloop54 → IN jn cI cR cM g L S f_19 → FR S [0, 1, 2, 3, 13, 14, 31, 32, 33, 34] f f_19 → (0 ≤ ii.toInt ∧ ii.toInt ≤ 301) → (Hd (∃ (iq : Nat) (E8 : Env1) (F8 : Int → Int), TGo ks vs (0, E, fun _ => 0) (iq, E8, F8) ∧ TKm cI g ks vs f_19 iq ∧ EnvC cI cR jn g lv gr S f_19 E8 F8 ∧ EOk E8 ∧ ii.toInt ≤ (iq : Int))) → (LvC cR g lv f_19) → (FX S (NR g lv gr) [2, 3, 13, 14, 31, 32, 33, 34] f f_19) → va_P D vwCl (va_pl L f_19) H → va_D A (va_pl L f_19) → va_S A s.heap H locs → lv_has ls 3 [(0, .ref (g 13)), (1, .int ii)] → W p l e ({ frames := 16, cells := 0, slots := 0, locals := 408 }) s m args below meth c H locs (0) (0) Q (F0 m 54 ls []) := by
          intro ddloop54
          induction ddloop54 with
          | zero =>
            intro ii f_19 H locs ls hdd
            exact absurd hdd (Nat.not_lt_zero _)
          | succ ddloop54 ih54 =>
            intro ii f_19 H locs ls hdd hI hF hi hTI hLvl2 hFX hP hD hS hl
            obtain ⟨iq, E8, F8, j1, j2, j3, j4, j5⟩ := hTI
            refine lv_iload_n hx hb dX4_readTape_54 rfl (lv_at hl 1 rfl) ?_
            refine lv_sipush (v := 300) hx hb dX4_readTape_55 (by decide) ?_
            refine a_icmp_gt (u := ii.toInt) (v := 300) (tgt := 125) hx hb dX4_readTape_58 (by decide) (rfl) (by decide) (fun c_20 => ?_) (fun c_20 => ?_)
            · refine lv_iconst (v := 1) hx hb dX4_readTape_125 (by decide) ?_
              have hz_21 : (1 : Int32).toInt = 1 := by decide
              exact g_zret ((1 : Int32), f_19) hx hb hr hlocks hS (by first | exact Or.inl rfl | exact Or.inr rfl) rfl (⟨hI, hF, show Hd (((1 : Int32).toInt = 1 ∧ ∃ (i9 : Nat) (E9 : Env1) (F9 : Int → Int), TWel ks vs (0, E, fun _ => 0) (i9, E9, F9) ∧ EnvC cI cR jn g lv gr S f_19 E9 F9 ∧ EOk E9) ∨ ((1 : Int32).toInt = 0 ∧ TFls ks vs (0, E, fun _ => 0))) from (Or.inl ⟨rfl, iq, E8, F8, ⟨j1, TKm_end j2 (by subst hj1; omega)⟩, j3, j4⟩), show FX S (NR g lv gr) [2, 3, 13, 14, 31, 32, 33, 34] f f_19 from (by first | assumption | omega | (subst hj1; omega)), show (1 : Int32).toInt = 0 ∨ (1 : Int32).toInt = 1 from (by first | assumption | omega | (subst hj1; omega))⟩) hP hD hQ (Nat.le_of_ble_eq_true rfl) (Nat.le_of_ble_eq_true rfl) dX4_readTape_126
            · refine lv_aload_n hx hb dX4_readTape_61 rfl (lv_at hl 0 rfl) ?_
              obtain ⟨cnt_22, nx_22, kd_22, vl_22, st_22, ls_22, fg_22, iv0_22, iv1_22, iv2_22⟩ := op_14 hI (gm_14 hG) (gs_14 hG)
              obtain ⟨kk_23, kv_23⟩ := TKm_k j2 fg_22
              obtain ⟨fa_24, pl_24, fg_24⟩ := op_13 hI (gm_13 hG) (gs_13 hG)
              refine t_get (D := D) (L := L) (f := f_19) (ci := 4) (v := .ref (g 14)) (C := RX4) (T := TX4) (N := 11) hx hb hts (by decide +kernel) hown hK.1 hP (gm_13 hG) fg_24 rfl 1 (by decide) (hts (.fieldLink RX4 41 "JugglingHall$Reader" "tokens" "LJugglingHall$Tokens;") (by decide +kernel)) (fun _ h9 => h9) rfl dX4_readTape_62 ?_
              refine t_getN (D := D) (L := L) (f := f_19) (ci := 8) (v := .int kd_22) (C := RX8) (T := TX8) (N := 10) (host := "JugglingHall") hx hb hts (by decide +kernel) hown hK.1 hP (gm_14 hG) fg_22 rfl 6 (by decide) (hK.nw (.fieldLinkNest RX4 70 "JugglingHall$Tokens" "kind" "I" "JugglingHall") (by decide +kernel) rfl) (fun _ h9 => h9) rfl dX4_readTape_65 ?_
              refine a_if_eq (u := kd_22.toInt) (tgt := 125) hx hb dX4_readTape_68 (by decide) (rfl) (fun c_25 => ?_) (fun c_25 => ?_)
              · have kb_26 : ks (iq) = 0 := cK_p (hKO (iq)).1 (Or.inl ⟨by decide, by decide⟩) kk_23 c_25 (by decide)
                refine lv_iconst (v := 1) hx hb dX4_readTape_125 (by decide) ?_
                have hz_27 : (1 : Int32).toInt = 1 := by decide
                exact g_zret ((1 : Int32), f_19) hx hb hr hlocks hS (by first | exact Or.inl rfl | exact Or.inr rfl) rfl (⟨hI, hF, show Hd (((1 : Int32).toInt = 1 ∧ ∃ (i9 : Nat) (E9 : Env1) (F9 : Int → Int), TWel ks vs (0, E, fun _ => 0) (i9, E9, F9) ∧ EnvC cI cR jn g lv gr S f_19 E9 F9 ∧ EOk E9) ∨ ((1 : Int32).toInt = 0 ∧ TFls ks vs (0, E, fun _ => 0))) from (Or.inl ⟨rfl, iq, E8, F8, ⟨j1, by show ks iq = 0; omega⟩, j3, j4⟩), show FX S (NR g lv gr) [2, 3, 13, 14, 31, 32, 33, 34] f f_19 from (by first | assumption | omega | (subst hj1; omega)), show (1 : Int32).toInt = 0 ∨ (1 : Int32).toInt = 1 from (by first | assumption | omega | (subst hj1; omega))⟩) hP hD hQ (Nat.le_of_ble_eq_true rfl) (Nat.le_of_ble_eq_true rfl) dX4_readTape_126
              · have kb_28 : ks (iq) ≠ 0 := cK_n kk_23 c_25 (by decide)
                refine lv_aload_n hx hb dX4_readTape_71 rfl (lv_at hl 0 rfl) ?_
                refine t_get (D := D) (L := L) (f := f_19) (ci := 4) (v := .ref (g 14)) (C := RX4) (T := TX4) (N := 11) hx hb hts (by decide +kernel) hown hK.1 hP (gm_13 hG) fg_24 rfl 1 (by decide) (hts (.fieldLink RX4 41 "JugglingHall$Reader" "tokens" "LJugglingHall$Tokens;") (by decide +kernel)) (fun _ h9 => h9) rfl dX4_readTape_72 ?_
                refine t_getN (D := D) (L := L) (f := f_19) (ci := 8) (v := .int kd_22) (C := RX8) (T := TX8) (N := 10) (host := "JugglingHall") hx hb hts (by decide +kernel) hown hK.1 hP (gm_14 hG) fg_22 rfl 6 (by decide) (hK.nw (.fieldLinkNest RX4 70 "JugglingHall$Tokens" "kind" "I" "JugglingHall") (by decide +kernel) rfl) (fun _ h9 => h9) rfl dX4_readTape_75 ?_
                refine lv_iconst (v := 4) hx hb dX4_readTape_78 (by decide) ?_
                refine a_icmp_ne (u := kd_22.toInt) (v := 4) (tgt := 89) hx hb dX4_readTape_79 (by decide) (rfl) (by decide) (fun c_29 => ?_) (fun c_29 => ?_)
                · have kb_30 : ks (iq) ≠ 5 := cK_n kk_23 c_29 (by decide)
                  refine lv_aload_n hx hb dX4_readTape_89 rfl (lv_at hl 0 rfl) ?_
                  refine t_get (D := D) (L := L) (f := f_19) (ci := 4) (v := .ref (g 14)) (C := RX4) (T := TX4) (N := 11) hx hb hts (by decide +kernel) hown hK.1 hP (gm_13 hG) fg_24 rfl 1 (by decide) (hts (.fieldLink RX4 41 "JugglingHall$Reader" "tokens" "LJugglingHall$Tokens;") (by decide +kernel)) (fun _ h9 => h9) rfl dX4_readTape_90 ?_
                  refine t_getN (D := D) (L := L) (f := f_19) (ci := 8) (v := .int kd_22) (C := RX8) (T := TX8) (N := 10) (host := "JugglingHall") hx hb hts (by decide +kernel) hown hK.1 hP (gm_14 hG) fg_22 rfl 6 (by decide) (hK.nw (.fieldLinkNest RX4 70 "JugglingHall$Tokens" "kind" "I" "JugglingHall") (by decide +kernel) rfl) (fun _ h9 => h9) rfl dX4_readTape_93 ?_
                  refine lv_iconst (v := 5) hx hb dX4_readTape_96 (by decide) ?_
                  refine a_icmp_ne (u := kd_22.toInt) (v := 5) (tgt := 107) hx hb dX4_readTape_97 (by decide) (rfl) (by decide) (fun c_31 => ?_) (fun c_31 => ?_)
                  · have kb_32 : ks (iq) ≠ 6 := cK_n kk_23 c_31 (by decide)
                    refine lv_aload_n hx hb dX4_readTape_107 rfl (lv_at hl 0 rfl) ?_
                    refine lv_iconst (v := 1) hx hb dX4_readTape_108 (by decide) ?_
                    have hz_33 : (1 : Int32).toInt = 1 := by decide
                    refine call_p (va_runV (As := [.int 1]) (rest := []) ⟨hx, hb, hml, hown, hts⟩ (t_X4_fail l D cI cR cM _   hj hG hI  ) (cwV 1 hts gX4_readTape_X4_fail rfl rfl rfl (by decide +kernel) ⟨Nat.le_of_ble_eq_true rfl, Nat.le_of_ble_eq_true rfl⟩) (pre_T hK hP hD (gm_13 hG) fg_24 rfl) rfl rfl hl.1 rfl (lv_room (Nat.le_of_ble_eq_true rfl)) dX4_readTape_109 ⟨Nat.le_of_ble_eq_true rfl, Nat.le_of_ble_eq_true rfl⟩) hD hS hA (fun u_34 H locs hw hP hD hS => ?_)
                    obtain ⟨r_34, f_34⟩ := u_34
                    obtain ⟨hI, hF_34, h0_34, h01_34⟩ : IN jn cI cR cM g L S f_34 ∧ FR S [13] f_19 f_34 ∧ (r_34.toInt = 0) ∧ (r_34.toInt = 0 ∨ r_34.toInt = 1) := hw
                    have hP : va_P D vwCl (va_pl L f_34) H := hP
                    have hD : va_D A (va_pl L f_34) := hD
                    have hF := FR_tr hF hF_34 (by decide)
                    have hFX := FX_trR hFX hF_34 (by decide) (by decide)
                    have fb_35 : f_34 (g 14) = .inr (8, [.ref (g 11), .ref (g 31), .ref (g 32), .ref (g 33), .int cnt_22, .int nx_22, .int kd_22, .int vl_22, .int st_22, .int ls_22]) := FR_at hF_34 (gs_14 hG) (show (14 : Nat) ∉ ([13] : List Nat) by decide) fg_22
                    refine lv_istore_n (lv' := [(2, .int r_34), (0, .ref (g 13)), (1, .int ii)]) hx hb dX4_readTape_112 rfl hl (by decide) rfl (fun ls hl => ?_)
                    refine lv_iload_n hx hb dX4_readTape_113 rfl (lv_at hl 0 rfl) ?_
                    refine a_if_ne (u := r_34.toInt) (tgt := 119) hx hb dX4_readTape_114 (by decide) (rfl) (fun c_36 => ?_) (fun c_36 => ?_)
                    · obtain ⟨z_37, q_37, e_37⟩ := i_inc (a := ii.toInt) (1) (rfl) (by decide) (by subst hj1; omega) (by subst hj1; omega)
                      refine lv_iinc (v := z_37) (lv' := [(1, .int z_37), (2, .int r_34), (0, .ref (g 13))]) hx hb dX4_readTape_119 hl (k := 2) rfl q_37 (by decide) rfl (fun ls hl => ?_)
                      refine lv_goto (tgt := 54) hx hb dX4_readTape_122 (by decide) ?_
                      exact ih54 z_37 f_34 _ _ _ (by subst hj1; omega) hI hF (by first | assumption | omega | (subst hj1; omega)) (by exfalso; omega) (LvC_fr hLvl2 hG hF_34 (by decide)) (by first | assumption | omega | (subst hj1; omega)) hP hD hS (lv_sub hl [2, 0] rfl)
                    · refine lv_iconst (v := 0) hx hb dX4_readTape_117 (by decide) ?_
                      have hz_38 : (0 : Int32).toInt = 0 := by decide
                      exact g_zret ((0 : Int32), f_34) hx hb hr hlocks hS (by first | exact Or.inl rfl | exact Or.inr rfl) rfl (⟨hI, hF, show Hd (((0 : Int32).toInt = 1 ∧ ∃ (i9 : Nat) (E9 : Env1) (F9 : Int → Int), TWel ks vs (0, E, fun _ => 0) (i9, E9, F9) ∧ EnvC cI cR jn g lv gr S f_34 E9 F9 ∧ EOk E9) ∨ ((0 : Int32).toInt = 0 ∧ TFls ks vs (0, E, fun _ => 0))) from (Or.inr ⟨rfl, TF_tr j1 (TF_0 (by subst hj1; omega) (by subst hj1; omega) (by subst hj1; omega))⟩), show FX S (NR g lv gr) [2, 3, 13, 14, 31, 32, 33, 34] f f_34 from (by first | assumption | omega | (subst hj1; omega)), show (0 : Int32).toInt = 0 ∨ (0 : Int32).toInt = 1 from (by first | assumption | omega | (subst hj1; omega))⟩) hP hD hQ (Nat.le_of_ble_eq_true rfl) (Nat.le_of_ble_eq_true rfl) dX4_readTape_118
                  · have kb_39 : ks (iq) = 6 := cK_p (hKO (iq)).1 (Or.inl ⟨by decide, by decide⟩) kk_23 c_31 (by decide)
                    have kb9 := kb_39
                    refine lv_aload_n hx hb dX4_readTape_100 rfl (lv_at hl 0 rfl) ?_
                    refine call_p (va_runV (As := []) (rest := []) ⟨hx, hb, hml, hown, hts⟩ (t_X4_readMarksm l D cI cR cM _ (ks := ks) (vs := vs) (i := iq)  hj hG hI  (by first | assumption | omega | (subst hj1; omega)) (j2) (by first | assumption | omega | (subst hj1; omega)) (kb9)) (cwV 0 hts gX4_readTape_X4_readMarks rfl rfl rfl (by decide +kernel) ⟨Nat.le_of_ble_eq_true rfl, Nat.le_of_ble_eq_true rfl⟩) (pre_T hK hP hD (gm_13 hG) fg_24 rfl) rfl rfl hl.1 rfl (lv_room (Nat.le_of_ble_eq_true rfl)) dX4_readTape_101 ⟨Nat.le_of_ble_eq_true rfl, Nat.le_of_ble_eq_true rfl⟩) hD hS hA (fun u_40 H locs hw hP hD hS => ?_)
                    obtain ⟨r_40, f_40⟩ := u_40
                    obtain ⟨hI, hF_40, hp_40, hfx_40, h01_40⟩ : IN jn cI cR cM g L S f_40 ∧ FR S [2, 3, 13, 14] f_19 f_40 ∧ (Hd ((r_40.toInt = 1 ∧ ∃ m9 : Nat, 1 ≤ m9 ∧ m9 ≤ 7 ∧ (∀ k9 : Nat, 1 ≤ k9 → k9 ≤ m9 → Mrk (ks (iq + k9))) ∧ ks (iq + m9 + 1) = 59 ∧ TKm cI g ks vs f_40 (iq + m9 + 1 + 1)) ∨ (r_40.toInt = 0 ∧ ∀ (E9 : Env1) (F9 : Int → Int), TFls ks vs (iq, E9, F9)))) ∧ (FX S (fun _ => False) [2, 3, 13, 14] f_19 f_40) ∧ (r_40.toInt = 0 ∨ r_40.toInt = 1) := hw
                    have hP : va_P D vwCl (va_pl L f_40) H := hP
                    have hD : va_D A (va_pl L f_40) := hD
                    have hF := FR_tr hF hF_40 (by decide)
                    have hFX := FX_tr hFX hfx_40 (fun _ h9 => h9.elim) (by decide)
                    refine lv_goto (tgt := 112) hx hb dX4_readTape_104 (by decide) ?_
                    refine lv_istore_n (lv' := [(2, .int r_40), (0, .ref (g 13)), (1, .int ii)]) hx hb dX4_readTape_112 rfl hl (by decide) rfl (fun ls hl => ?_)
                    refine lv_iload_n hx hb dX4_readTape_113 rfl (lv_at hl 0 rfl) ?_
                    refine a_if_ne (u := r_40.toInt) (tgt := 119) hx hb dX4_readTape_114 (by decide) (rfl) (fun c_41 => ?_) (fun c_41 => ?_)
                    · obtain ⟨z_42, q_42, e_42⟩ := i_inc (a := ii.toInt) (1) (rfl) (by decide) (by subst hj1; omega) (by subst hj1; omega)
                      refine lv_iinc (v := z_42) (lv' := [(1, .int z_42), (2, .int r_40), (0, .ref (g 13))]) hx hb dX4_readTape_119 hl (k := 2) rfl q_42 (by decide) rfl (fun ls hl => ?_)
                      refine lv_goto (tgt := 54) hx hb dX4_readTape_122 (by decide) ?_
                      exact ih54 z_42 f_40 _ _ _ (by subst hj1; omega) hI hF (by first | assumption | omega | (subst hj1; omega)) (by
                        obtain ⟨-, m7, q1, q2, q3, q4, q5⟩ := hp_40.resolve_right (fun q9 => by have := q9.1; omega)
                        exact ⟨iq + m7 + 1 + 1, E8, F8, RGo_tr j1 (RGo_1 (CLseen kb9 q1 q2 q3 q4)), q5, EnvC_fx j3 hG hF_40 hfx_40 (by decide) (by decide) (fun _ _ h9 => h9) (fun _ _ h9 => h9), j4, by omega⟩) (LvC_fr hLvl2 hG hF_40 (by decide)) (by first | assumption | omega | (subst hj1; omega)) hP hD hS (lv_sub hl [2, 0] rfl)
                    · refine lv_iconst (v := 0) hx hb dX4_readTape_117 (by decide) ?_
                      have hz_43 : (0 : Int32).toInt = 0 := by decide
                      exact g_zret ((0 : Int32), f_40) hx hb hr hlocks hS (by first | exact Or.inl rfl | exact Or.inr rfl) rfl (⟨hI, hF, show Hd (((0 : Int32).toInt = 1 ∧ ∃ (i9 : Nat) (E9 : Env1) (F9 : Int → Int), TWel ks vs (0, E, fun _ => 0) (i9, E9, F9) ∧ EnvC cI cR jn g lv gr S f_40 E9 F9 ∧ EOk E9) ∨ ((0 : Int32).toInt = 0 ∧ TFls ks vs (0, E, fun _ => 0))) from (Or.inr ⟨rfl, TF_tr j1 ((hp_40.resolve_left (fun q9 => by have := q9.1; omega)).2 _ _)⟩), show FX S (NR g lv gr) [2, 3, 13, 14, 31, 32, 33, 34] f f_40 from (by first | assumption | omega | (subst hj1; omega)), show (0 : Int32).toInt = 0 ∨ (0 : Int32).toInt = 1 from (by first | assumption | omega | (subst hj1; omega))⟩) hP hD hQ (Nat.le_of_ble_eq_true rfl) (Nat.le_of_ble_eq_true rfl) dX4_readTape_118
                · have kb_44 : ks (iq) = 5 := cK_p (hKO (iq)).1 (Or.inl ⟨by decide, by decide⟩) kk_23 c_29 (by decide)
                  have kb9 := kb_44
                  refine lv_aload_n hx hb dX4_readTape_82 rfl (lv_at hl 0 rfl) ?_
                  refine call_p (va_runV (As := []) (rest := []) ⟨hx, hb, hml, hown, hts⟩ (t_X4_readRowm l D cI cR cM _ (i := iq) (E := E8) (F := F8) (lv := lv) (gr := gr) (ks := ks) (vs := vs)  hj hG hI  (by first | assumption | omega | (subst hj1; omega)) (j2) (by first | assumption | omega | (subst hj1; omega)) (hRD) (hLvl2) (j3) (j4) (kb9)) (cwV 0 hts gX4_readTape_X4_readRow rfl rfl rfl (by decide +kernel) ⟨Nat.le_of_ble_eq_true rfl, Nat.le_of_ble_eq_true rfl⟩) (pre_T hK hP hD (gm_13 hG) fg_24 rfl) rfl rfl hl.1 rfl (lv_room (Nat.le_of_ble_eq_true rfl)) dX4_readTape_83 ⟨Nat.le_of_ble_eq_true rfl, Nat.le_of_ble_eq_true rfl⟩) hD hS hA (fun u_45 H locs hw hP hD hS => ?_)
                  obtain ⟨r_45, f_45⟩ := u_45
                  obtain ⟨hI, hF_45, hp_45, hfx_45, h01_45⟩ : IN jn cI cR cM g L S f_45 ∧ FR S [0, 1, 13, 14, 34] f_19 f_45 ∧ (Hd ((r_45.toInt = 1 ∧ ∃ (ic : Nat) (E1 : Env1) (F1 : Int → Int), Clp ks vs (iq, E8, F8) (ic + 1, E1, F1) ∧ TKm cI g ks vs f_45 (ic + 1) ∧ EnvC cI cR jn g lv gr S f_45 E1 F1 ∧ EOk E1 ∧ iq < ic) ∨ (r_45.toInt = 0 ∧ TFls ks vs (iq, E8, F8)))) ∧ (FX S (NR g lv gr) [13, 14, 34] f_19 f_45) ∧ (r_45.toInt = 0 ∨ r_45.toInt = 1) := hw
                  have hP : va_P D vwCl (va_pl L f_45) H := hP
                  have hD : va_D A (va_pl L f_45) := hD
                  have hF := FR_tr hF hF_45 (by decide)
                  have hFX := FX_tr hFX hfx_45 (fun _ h9 => h9) (by decide)
                  refine lv_goto (tgt := 112) hx hb dX4_readTape_86 (by decide) ?_
                  refine lv_istore_n (lv' := [(2, .int r_45), (0, .ref (g 13)), (1, .int ii)]) hx hb dX4_readTape_112 rfl hl (by decide) rfl (fun ls hl => ?_)
                  refine lv_iload_n hx hb dX4_readTape_113 rfl (lv_at hl 0 rfl) ?_
                  refine a_if_ne (u := r_45.toInt) (tgt := 119) hx hb dX4_readTape_114 (by decide) (rfl) (fun c_46 => ?_) (fun c_46 => ?_)
                  · obtain ⟨z_47, q_47, e_47⟩ := i_inc (a := ii.toInt) (1) (rfl) (by decide) (by subst hj1; omega) (by subst hj1; omega)
                    refine lv_iinc (v := z_47) (lv' := [(1, .int z_47), (2, .int r_45), (0, .ref (g 13))]) hx hb dX4_readTape_119 hl (k := 2) rfl q_47 (by decide) rfl (fun ls hl => ?_)
                    refine lv_goto (tgt := 54) hx hb dX4_readTape_122 (by decide) ?_
                    exact ih54 z_47 f_45 _ _ _ (by subst hj1; omega) hI hF (by first | assumption | omega | (subst hj1; omega)) (by
                      obtain ⟨-, i7, E7, F7, q1, q2, q3, q4, q5⟩ := hp_45.resolve_right (fun q9 => by have := q9.1; omega)
                      exact ⟨i7 + 1, E7, F7, RGo_tr j1 (RGo_1 q1), q2, q3, q4, by omega⟩) (LvC_fr hLvl2 hG hF_45 (by decide)) (by first | assumption | omega | (subst hj1; omega)) hP hD hS (lv_sub hl [2, 0] rfl)
                  · refine lv_iconst (v := 0) hx hb dX4_readTape_117 (by decide) ?_
                    have hz_48 : (0 : Int32).toInt = 0 := by decide
                    exact g_zret ((0 : Int32), f_45) hx hb hr hlocks hS (by first | exact Or.inl rfl | exact Or.inr rfl) rfl (⟨hI, hF, show Hd (((0 : Int32).toInt = 1 ∧ ∃ (i9 : Nat) (E9 : Env1) (F9 : Int → Int), TWel ks vs (0, E, fun _ => 0) (i9, E9, F9) ∧ EnvC cI cR jn g lv gr S f_45 E9 F9 ∧ EOk E9) ∨ ((0 : Int32).toInt = 0 ∧ TFls ks vs (0, E, fun _ => 0))) from (Or.inr ⟨rfl, TF_tr j1 (hp_45.resolve_left (fun q9 => by have := q9.1; omega)).2⟩), show FX S (NR g lv gr) [2, 3, 13, 14, 31, 32, 33, 34] f f_45 from (by first | assumption | omega | (subst hj1; omega)), show (0 : Int32).toInt = 0 ∨ (0 : Int32).toInt = 1 from (by first | assumption | omega | (subst hj1; omega))⟩) hP hD hQ (Nat.le_of_ble_eq_true rfl) (Nat.le_of_ble_eq_true rfl) dX4_readTape_118
        have hz_49 : (0 : Int32).toInt = 0 := by decide
        exact loop54 ((400 - (0 : Int32).toInt).toNat + 1) (0 : Int32) f_16 _ _ _ (by subst hj1; omega) hI hF (by first | assumption | omega | (subst hj1; omega)) (⟨0, E, fun _ => 0, RGo_rf, hC_16, hEC3, hEO, by omega⟩) (hLv3) (by first | assumption | omega | (subst hj1; omega)) hP hD hS (lv_sub hl [1, 0] rfl)
      · refine lv_aload_n hx hb dX4_readTape_29 rfl (lv_at hl 0 rfl) ?_
        refine t_get (D := D) (L := L) (f := f_11) (ci := 4) (v := .ref (g 23)) (C := RX4) (T := TX4) (N := 11) hx hb hts (by decide +kernel) hown hK.1 hP (gm_13 hG) fg_12 rfl 5 (by decide) (hts (.fieldLink RX4 21 "JugglingHall$Reader" "here" "[LJugglingHall$Row;") (by decide +kernel)) (fun _ h9 => h9) rfl dX4_readTape_30 ?_
        refine lv_iload_n hx hb dX4_readTape_33 rfl (lv_at hl 1 rfl) ?_
        refine t_aald (L := L) (f := f_11) (y := c_13) (u := le.toInt) hx hb hK.1 hP (gm_23 hG) 1 fg_13 rfl dX4_readTape_34 (rfl) (by subst hj1; omega) (fun w_50 q_50 => ?_)
        obtain ⟨r_50, p_50, n_50, er_50, m_50, s_50⟩ := iv0_13 le.toInt (by subst hj1; omega) (by subst hj1; omega)
        have q_50 := q_50.trans er_50
        subst q_50
        refine W.eq (g2 := F0 m 35 ls [.ref r_50]) rfl ?_
        have hh_50 : r_50 = gr le.toInt.toNat := EnvK_h (l := le.toInt) hEk fg_13 (by subst hj1; omega) (by subst hj1; omega) (by rw [show le.toInt = le.toInt by omega]; exact er_50)
        obtain ⟨len_51, fg_51, v1_51, v2_51, v3_51, mp_51, sp_51⟩ := op_0 hI m_50 s_50
        obtain ⟨w1_51, w2_51, w3_51, w4_51, w5_51⟩ := lenw hj v1_51 v2_51 v3_51
        obtain ⟨c_52, fg_52, iv0_52⟩ := op_1 hI mp_51 sp_51
        refine lv_iconst (v := 0) hx hb dX4_readTape_35 (by decide) ?_
        have hz_54 : (0 : Int32).toInt = 0 := by decide
        refine t_putN (D := D) (L := L) (f := f_11) (ci := 5) (v := .int 0) (ty := .int) (C := RX5) (T := TX5) (N := 4) (host := "JugglingHall") hx hb hts (by decide +kernel) tyX5 tyX5_ok nmX5 hown hK.1 hP hD hS m_50 fg_51 rfl 3 (by decide) (hK.nw (.fieldLinkNest RX4 62 "JugglingHall$Row" "length" "I" "JugglingHall") (by decide +kernel) rfl) (fun _ h9 => h9) rfl (by decide +kernel) rfl rfl (Nat.le_of_ble_eq_true rfl) dX4_readTape_36 (fun f_53 H locs e9_53 o_53 hP hD hS => ?_)
        have fa_53 : f_53 r_50 = .inr (5, [.int (nI jn), .int (nI (2 * jn)), .ref p_50, .int 0]) := e9_53
        have hI := IN_set (e := .inr (5, [.int (nI jn), .int (nI (2 * jn)), .ref p_50, .int 0])) hI s_50 (mk_0 (by first | assumption | omega | (subst hj1; omega)) (by rw [show (0 : Int32).toInt = 0 from rfl, Int.zero_mul]; omega) (by first | assumption | omega | (subst hj1; omega)) (by first | assumption | omega | (subst hj1; omega)) (by first | assumption | omega | (subst hj1; omega))) fa_53 o_53
        have hF := FR_set hF s_50 (show (0 : Nat) ∈ ([0, 1, 2, 3, 13, 14, 31, 32, 33, 34] : List Nat) by decide) o_53
        have hFX := FX_set0 hFX s_50 (by show NR g lv gr r_50; rw [hh_50]; exact NR_gr (by subst hj1; omega)) o_53
        have fb_55 : f_53 (g 13) = .inr (4, [.int (nI jn), .ref (g 14), .ref (g 12), .ref (g 22), .ref (g 34), .ref (g 23), .ref (g 24), .ref (g 25), .ref (g 26), .int fa_12, .int pl_12]) := f_at o_53 (S_ne (gs_13 hG) s_50 (show (13 : Nat) ≠ 0 by decide)) fg_12
        have fb_56 : f_53 (g 23) = .inl (cR, 8, .inr (.inr (.inr (.inr c_13)))) := f_at o_53 (S_ne (gs_23 hG) s_50 (show (23 : Nat) ≠ 0 by decide)) fg_13
        have fb_57 : f_53 p_50 = .inl (cI, n_50, .inl c_52) := f_at o_53 (S_ne sp_51 s_50 (show (1 : Nat) ≠ 0 by decide)) fg_52
        have hFo_53 : FR S [0] f_11 f_53 := FR_set FR_rf s_50 (show (0 : Nat) ∈ ([0] : List Nat) by decide) o_53
        have hXo_53 : FX S (fun a => a = r_50) [] f_11 f_53 := FX_set0 FX_rf s_50 rfl o_53
        have hz2 : ∀ k9 : Nat, (k9 : Int) < le.toInt + 1 → ∃ w9, RWf cI jn S f_53 (gr k9) 0 w9 := fun k9 h9 => by
          by_cases q9 : k9 = le.toInt.toNat
          · exact ⟨fun _ => 0, RWf_e (b := r_50) ⟨_, _, _, _, s_50, sp_51, fa_53, fb_57, rfl, fun i9 h8 h7 => absurd h7 (by subst hj1; omega)⟩ (by rw [q9, hh_50])⟩
          · obtain ⟨w9, h8⟩ := hz k9 (by subst hj1; omega)
            exact ⟨w9, RWf_o h8 s_50 (by rw [hh_50]; exact hRD.2.2.2.2.2 k9 _ (by subst hj1; omega) (by subst hj1; omega) q9) o_53⟩
        have hEk2 := EnvK_fx hEk hG hFo_53 hXo_53 (by decide) (by decide) (fun r9 h9 q9 => h9 (by rw [q9, hh_50]; exact NR_gr (by subst hj1; omega)))
        have hTl2 := TpC_fr hTl hG hFo_53 (by decide)
        have hLv2 := LvC_fr hLvl hG hFo_53 (by decide)
        obtain ⟨z_58, q_58, e_58⟩ := i_inc (a := le.toInt) (1) (rfl) (by decide) (by subst hj1; omega) (by subst hj1; omega)
        refine lv_iinc (v := z_58) (lv' := [(1, .int z_58), (0, .ref (g 13))]) hx hb dX4_readTape_39 hl (k := 1) rfl q_58 (by decide) rfl (fun ls hl => ?_)
        refine lv_goto (tgt := 20) hx hb dX4_readTape_42 (by decide) ?_
        exact ih20 z_58 f_53 _ _ _ (by subst hj1; omega) hI hF (by first | assumption | omega | (subst hj1; omega)) (fun k9 h9 => hz2 k9 (by subst hj1; omega)) (hEk2) (hTl2) (hLv2) (by first | assumption | omega | (subst hj1; omega)) hP hD hS (lv_sub hl [1, 0] rfl)
  have hz_59 : (0 : Int32).toInt = 0 := by decide
  exact loop20 ((20 - (0 : Int32).toInt).toNat + 1) (0 : Int32) f_8 _ _ _ (by subst hj1; omega) hI hF (by first | assumption | omega | (subst hj1; omega)) (fun k9 h9 => absurd h9 (by subst hj1; omega)) (EnvK_fx hEk0 hG hF hFX (by decide) (by decide) (fun r9 h9 => h9)) (TpC_fr hTp hG hF (by decide)) (LvC_fr hLv hG hF (by decide)) (by first | assumption | omega | (subst hj1; omega)) hP hD hS (lv_sub hl [1, 0] rfl)
